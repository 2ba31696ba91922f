theorem hd_X10_credit : yX10_credit.cls = RX10 ∧ yX10_credit.cls ≠ "java/lang/invoke/MethodHandle" ∧ yX10_credit.cls ≠ "java/lang/invoke/VarHandle" ∧ (parseMethodDescriptor yX10_credit.desc).map (fun d => d.parameters.length) = some 2 := by decide +kernel
set_option maxRecDepth 100000 in
set_option maxHeartbeats 4000000 in
theorem c_X10_credit (l : Launch) (G : gG) (a : Nat → Nat) (i : Nat → Int32) (j : Nat → Int32) (t : Nat → Int32) (r : Nat → Int32) (n : Nat → Int32) (d : Nat → Int32) (ps : Nat → Int32) (im : Nat → Int32) (kp : Nat → Int32) (tx : Nat → Int32) (cd : Nat → Int32) (bk : Nat → Int32) (py : Nat → Int32) (pt : Nat → Int32) (mt : Nat → Int32) (nc : Nat) (np : Nat) (p : Int32) (c : Int32) (hT : tw t nc np) : mE l yX10_credit wsX10_credit ({ frames := 5, cells := 0, slots := 0, locals := 111 }) G (mW G a i j t r n d ps im kp tx cd bk py pt mt) (fun u : (Nat → Int32) => mW G a i j t r n u ps im kp tx cd bk py pt mt) [.ref (a 0), .int p, .int c] (.returned (some (.int (cdR t n p c)))) := by
  refine mE.of (cc := cX10_credit) (maxL := 4) (ret := (some .int)) (by decide) rfl (Nat.le_of_ble_eq_true rfl) ?_
  intro zp ze zs zm zb zt zc ls A hAe C hP hK hD hS hl
  obtain ⟨hx, hb, hr, hml, hown, hts, hlk⟩ := id C
  have hl : lv_has ls 4 [(0, .ref (a 0)), (1, .int p), (2, .int c)] := hl
  have hT2 := hT.2.2
  have k0 := hts (.constant RX10 175 (-1000000001)) (by decide +kernel)
  have k1 := hts (.fieldLink RX10 19 "DebtDowryModel" "aside" "[I") (by decide +kernel)
  have k2 := (fun w h => by revert w; decide +kernel : ∀ w ∈ wsX100, w ∈ wsX10_credit)
  refine lv_aload_n hx hb dX10_credit_0 rfl (lv_at hl 0 rfl) ?_
  refine lv_iload_n hx hb dX10_credit_1 rfl (lv_at hl 1 rfl) ?_
  refine cR_V (Cn := RX10) (n := 1) (As := [.int p]) (rest := []) C (c_X10_isPerson l G a i j t r n d ps im kp tx cd bk py pt mt  p ) gX10_credit_X10_isPerson rfl ⟨rfl, rfl⟩ hd_X10_isPerson ⟨(Nat.le_of_ble_eq_true rfl), (Nat.le_of_ble_eq_true rfl)⟩ hK hP (va_recv hK hP (ci := 10) (q0 := 0) rfl rfl) rfl hl.1 rfl (Nat.le_of_ble_eq_true rfl) dX10_credit_2 ⟨(Nat.le_of_ble_eq_true rfl), (Nat.le_of_ble_eq_true rfl)⟩ ?_
  refine b_if_eq (tgt := 16) hx hb dX10_credit_5 (by decide) (fun cq1 => ?_) (fun cq1 => ?_)
  · skip
    refine lv_ldc hx hb hown k0 dX10_credit_16 ?_
    exact mE_iret hAe C (u := d) hP hS dX10_credit_18 (by simp [cdR, cq1])
  · skip
    obtain ⟨pp, hpp, rfl⟩ := inB_nat hT.2.1 (by omega) cq1
    have hcl_pp := cl_nI (n := pp) (by omega)
    refine lv_aload_n hx hb dX10_credit_8 rfl (lv_at hl 0 rfl) ?_
    refine lv_iload_n hx hb dX10_credit_9 rfl (lv_at hl 2 rfl) ?_
    refine cR_V (Cn := RX10) (n := 1) (As := [.int c]) (rest := []) C (c_X10_isCreditor l G a i j t r n d ps im kp tx cd bk py pt mt  c ) gX10_credit_X10_isCreditor rfl ⟨rfl, rfl⟩ hd_X10_isCreditor ⟨(Nat.le_of_ble_eq_true rfl), (Nat.le_of_ble_eq_true rfl)⟩ hK hP (va_recv hK hP (ci := 10) (q0 := 0) rfl rfl) rfl hl.1 rfl (Nat.le_of_ble_eq_true rfl) dX10_credit_10 ⟨(Nat.le_of_ble_eq_true rfl), (Nat.le_of_ble_eq_true rfl)⟩ ?_
    refine b_if_ne (tgt := 19) hx hb dX10_credit_13 (by decide) (fun cq2 => ?_) (fun cq2 => ?_)
    · skip
      obtain ⟨cc, hcc, rfl⟩ := inB_nat hT.1 (by omega) cq2
      have hcl_cc := cl_nI (n := cc) (by omega)
      refine lv_sipush (v := 999) hx hb dX10_credit_19 (by decide) ?_
      refine lv_istore_n (lv' := [(3, .int 999), (0, .ref (a 0)), (1, .int (nI pp)), (2, .int (nI cc))]) hx hb dX10_credit_22 rfl hl (by decide) rfl (fun ls hl => ?_)
      refine wl_X (B := 1000) (i0 := 0) (Inv := fun i1 H locs ls => ∃ (d_23 : Nat → Int32), va_P G.1 vwCl (mW G a i j t r n d_23 ps im kp tx cd bk py pt mt) H ∧ va_D A (mW G a i j t r n d_23 ps im kp tx cd bk py pt mt) ∧ va_S A zs.heap H locs ∧ lv_has ls 4 [(0, .ref (a 0)), (1, .int (nI pp)), (2, .int (nI cc)), (3, .int (nI (1000 - i1) - 1))] ∧ crd t n pp cc 1000 = crd t n pp cc (1000 - i1)) (by omega) ⟨d, hP, hD, hS, lv_sub hl [1, 2, 3, 0] (rfl), (rfl)⟩ ?_
      rintro i1 H locs ls hle23 ⟨d_23, hP, hD, hS, hl, hR⟩ ih23
      refine lv_iload_n hx hb dX10_credit_23 rfl (lv_at hl 3 rfl) ?_
      refine lv_if_lt (tgt := 83) hx hb dX10_credit_24 (by decide) (fun cq3 => ?_) (fun cq3 => ?_)
      · skip
        have hi1000 : i1 = 1000 := by have q := (dsc_t (by omega)).mp cq3; omega
        refine lv_iconst (v := (-1)) hx hb dX10_credit_83 (by decide) ?_
        exact mE_iret hAe C (u := d_23) hP hS dX10_credit_84 (by unfold cdR; rw [if_neg (not_not_intro ⟨cq1, cq2⟩), hcl_pp, hcl_cc, hR, hi1000]; rfl)
      · skip
        have hlt : 0 < 1000 - i1 := Nat.pos_of_ne_zero (fun q => cq3 ((dsc_t (by omega)).mpr q))
        rw [dsc_p hlt, show 1000 - i1 - 1 = 999 - i1 by omega] at hl
        have hst : crd t n pp cc (1000 - i1) = if crdC t n pp cc (999 - i1) then nI (999 - i1) else crd t n pp cc (999 - i1) := by rw [show 1000 - i1 = (999 - i1) + 1 by omega]; rfl
        refine lv_iload_n hx hb dX10_credit_27 rfl (lv_at hl 3 rfl) ?_
        refine lv_if_eq (tgt := 41) hx hb dX10_credit_28 (by decide) (fun cq4 => ?_) (fun cq4 => ?_)
        · skip
          have hz : 999 - i1 = 0 ∨ mayB t n pp cc (nI (999 - i1)) := Or.inl ((nI_eq (by omega) (by decide)).mp cq4)
          refine lv_aload_n hx hb dX10_credit_41 rfl (lv_at hl 0 rfl) ?_
          refine cX_V (Cn := RX10) (n := 0) (As := []) (rest := []) (wsn := mW G a i j t r n (va_cpy n d_23 0 0 54) ps im kp tx cd bk py pt mt) C (c_X10_layAside l G a i j t r n d_23 ps im kp tx cd bk py pt mt   ) gX10_credit_X10_layAside rfl ⟨rfl, rfl⟩ hd_X10_layAside ⟨(Nat.le_of_ble_eq_true rfl), (Nat.le_of_ble_eq_true rfl)⟩ hK hP hD hS [0, 1, 2, 3, 4, 5, 6, 7, 8, 9, 10, 11, 12, 13] (by decide) rfl (mW_f.trans mW_f.symm) rfl (mW_f.trans mW_f.symm) (va_recv hK hP (ci := 10) (q0 := 0) rfl rfl) rfl hl.1 rfl (Nat.le_of_ble_eq_true rfl) dX10_credit_42 ⟨(Nat.le_of_ble_eq_true rfl), (Nat.le_of_ble_eq_true rfl)⟩ (fun H locs hP hD hS => ?_)
          refine lv_aload_n hx hb dX10_credit_45 rfl (lv_at hl 0 rfl) ?_
          refine va_get (D := G.1) (ci := 10) (v := .ref (a 4)) (C := RX10) (T := TX10) (N := 25) hx hb hts k2 hown hK hP 0 rfl rfl 3 (by decide) k1 (fun _ h9 => h9) rfl dX10_credit_46 ?_
          refine lv_iconst (v := 0) hx hb dX10_credit_49 (by decide) ?_
          refine lv_iconst (v := 4) hx hb dX10_credit_50 (by decide) ?_
          refine lv_iload_n hx hb dX10_credit_51 rfl (lv_at hl 1 rfl) ?_
          refine n_imul hx hb dX10_credit_52 (u := 4) (v := pp) rfl rfl (j := 4 * pp) (by omega) ?_
          refine n_iadd hx hb dX10_credit_53 (u := 0) (v := 4 * pp) rfl rfl (j := 4 * pp) (by omega) ?_
          refine lv_iload_n hx hb dX10_credit_54 rfl (lv_at hl 2 rfl) ?_
          refine n_iadd hx hb dX10_credit_55 (u := 4 * pp) (v := cc) rfl rfl (j := (4 * pp) + cc) (by omega) ?_
          refine lv_dup2_11 hx hb dX10_credit_56 rfl rfl ?_
          refine n_iald hx hb hK hP 4 0 rfl rfl (j := (4 * pp) + cc) rfl (by omega) (by decide) dX10_credit_57 ?_
          refine lv_iload_n hx hb dX10_credit_58 rfl (lv_at hl 3 rfl) ?_
          refine lv_iadd hx hb dX10_credit_59 ?_
          refine n_iast hx hb hK hP hD hS 4 0 rfl rfl (x := (((va_cpy n d_23 0 0 54) ((4 * pp) + cc)) + (nI (999 - i1)))) (j := (4 * pp) + cc) rfl (by omega) (by decide) dX10_credit_60 (wsn := mW G a i j t r n (upd (va_cpy n d_23 0 0 54) ((4 * pp) + cc) (((va_cpy n d_23 0 0 54) ((4 * pp) + cc)) + (nI (999 - i1)))) ps im kp tx cd bk py pt mt) rfl (fun H locs hP hD hS => ?_)
          refine lv_aload_n hx hb dX10_credit_61 rfl (lv_at hl 0 rfl) ?_
          refine lv_aload_n hx hb dX10_credit_62 rfl (lv_at hl 0 rfl) ?_
          refine va_get (D := G.1) (ci := 10) (v := .ref (a 4)) (C := RX10) (T := TX10) (N := 25) hx hb hts k2 hown hK hP 0 rfl rfl 3 (by decide) k1 (fun _ h9 => h9) rfl dX10_credit_63 ?_
          refine lv_iload_n hx hb dX10_credit_66 rfl (lv_at hl 1 rfl) ?_
          refine lv_iload_n hx hb dX10_credit_67 rfl (lv_at hl 2 rfl) ?_
          refine cR_V (Cn := RX10) (n := 3) (As := [.ref (a 4), .int (nI pp), .int (nI cc)]) (rest := []) C (c_X10_temperOf_d l G a i j t r n (upd (va_cpy n d_23 0 0 54) ((4 * pp) + cc) (((va_cpy n d_23 0 0 54) ((4 * pp) + cc)) + (nI (999 - i1)))) ps im kp tx cd bk py pt mt  pp cc (by omega) (by omega)) gX10_credit_X10_temperOf rfl ⟨rfl, rfl⟩ hd_X10_temperOf ⟨(Nat.le_of_ble_eq_true rfl), (Nat.le_of_ble_eq_true rfl)⟩ hK hP (va_recv hK hP (ci := 10) (q0 := 0) rfl rfl) rfl hl.1 rfl (Nat.le_of_ble_eq_true rfl) dX10_credit_68 ⟨(Nat.le_of_ble_eq_true rfl), (Nat.le_of_ble_eq_true rfl)⟩ ?_
          refine lv_iconst (v := 1) hx hb dX10_credit_71 (by decide) ?_
          refine lv_icmp_ne (tgt := 77) hx hb dX10_credit_72 (by decide) (fun cq5 => ?_) (fun cq5 => ?_)
          · skip
            have htm : tm t (upd (va_cpy n d_23 0 0 54) (4 * pp + cc) (va_cpy n d_23 0 0 54 (4 * pp + cc) + nI (999 - i1))) pp cc = tm t (upd n (4 * pp + cc) (n (4 * pp + cc) + nI (999 - i1))) pp cc := tm_c (upd_c (cpy54 _ _) _ (by rw [cpy54 _ _ _ (by omega)])) (by omega) (by omega)
            rw [htm] at cq5
            have hno : ¬ crdC t n pp cc (999 - i1) := fun q => cq5 q.2
            refine lv_iinc (v := nI (1000 - (i1 + 1)) - 1) (lv' := [(3, .int (nI (1000 - (i1 + 1)) - 1)), (0, .ref (a 0)), (1, .int (nI pp)), (2, .int (nI cc))]) hx hb dX10_credit_77 hl (k := 3) rfl (by rw [show 1000 - (i1 + 1) = 999 - i1 by omega]; exact addm1 _) (by decide) rfl (fun ls hl => ?_)
            refine lv_goto (tgt := 23) hx hb dX10_credit_80 (by decide) ?_
            exact ih23 _ _ _ (by omega) ⟨(upd (va_cpy n d_23 0 0 54) ((4 * pp) + cc) (((va_cpy n d_23 0 0 54) ((4 * pp) + cc)) + (nI (999 - i1)))), hP, hD, hS, lv_sub hl [1, 2, 3, 0] (rfl), (by rw [hR, hst, show 1000 - (i1 + 1) = 999 - i1 by omega]; exact if_neg (by first | exact hno | exact fun q => hz q.1))⟩
          · skip
            have htm : tm t (upd (va_cpy n d_23 0 0 54) (4 * pp + cc) (va_cpy n d_23 0 0 54 (4 * pp + cc) + nI (999 - i1))) pp cc = tm t (upd n (4 * pp + cc) (n (4 * pp + cc) + nI (999 - i1))) pp cc := tm_c (upd_c (cpy54 _ _) _ (by rw [cpy54 _ _ _ (by omega)])) (by omega) (by omega)
            rw [htm] at cq5
            have hyes : crdC t n pp cc (999 - i1) := ⟨hz, cq5⟩
            refine lv_iload_n hx hb dX10_credit_75 rfl (lv_at hl 3 rfl) ?_
            exact mE_iret hAe C (u := (upd (va_cpy n d_23 0 0 54) ((4 * pp) + cc) (((va_cpy n d_23 0 0 54) ((4 * pp) + cc)) + (nI (999 - i1))))) hP hS dX10_credit_76 (by unfold cdR; rw [if_neg (not_not_intro ⟨cq1, cq2⟩), hcl_pp, hcl_cc, hR, hst, if_pos hyes])
        · skip
          have h28 := cq4
          refine lv_aload_n hx hb dX10_credit_31 rfl (lv_at hl 0 rfl) ?_
          refine lv_iload_n hx hb dX10_credit_32 rfl (lv_at hl 1 rfl) ?_
          refine lv_iload_n hx hb dX10_credit_33 rfl (lv_at hl 2 rfl) ?_
          refine lv_iload_n hx hb dX10_credit_34 rfl (lv_at hl 3 rfl) ?_
          refine cR_V (Cn := RX10) (n := 3) (As := [.int (nI pp), .int (nI cc), .int (nI (999 - i1))]) (rest := []) C (c_X10_mayBorrow l G a i j t r n d_23 ps im kp tx cd bk py pt mt nc np pp cc (nI (999 - i1)) hT (by omega) (by omega)) gX10_credit_X10_mayBorrow rfl ⟨rfl, rfl⟩ hd_X10_mayBorrow ⟨(Nat.le_of_ble_eq_true rfl), (Nat.le_of_ble_eq_true rfl)⟩ hK hP (va_recv hK hP (ci := 10) (q0 := 0) rfl rfl) rfl hl.1 rfl (Nat.le_of_ble_eq_true rfl) dX10_credit_35 ⟨(Nat.le_of_ble_eq_true rfl), (Nat.le_of_ble_eq_true rfl)⟩ ?_
          refine b_if_eq (tgt := 77) hx hb dX10_credit_38 (by decide) (fun cq6 => ?_) (fun cq6 => ?_)
          · skip
            have hz : ¬ (999 - i1 = 0 ∨ mayB t n pp cc (nI (999 - i1))) := fun q => q.elim (fun e => h28 (by rw [e]; rfl)) cq6
            refine lv_iinc (v := nI (1000 - (i1 + 1)) - 1) (lv' := [(3, .int (nI (1000 - (i1 + 1)) - 1)), (0, .ref (a 0)), (1, .int (nI pp)), (2, .int (nI cc))]) hx hb dX10_credit_77 hl (k := 3) rfl (by rw [show 1000 - (i1 + 1) = 999 - i1 by omega]; exact addm1 _) (by decide) rfl (fun ls hl => ?_)
            refine lv_goto (tgt := 23) hx hb dX10_credit_80 (by decide) ?_
            exact ih23 _ _ _ (by omega) ⟨d_23, hP, hD, hS, lv_sub hl [1, 2, 3, 0] (rfl), (by rw [hR, hst, show 1000 - (i1 + 1) = 999 - i1 by omega]; exact if_neg (by first | exact hno | exact fun q => hz q.1))⟩
          · skip
            have hz : 999 - i1 = 0 ∨ mayB t n pp cc (nI (999 - i1)) := Or.inr cq6
            refine lv_aload_n hx hb dX10_credit_41 rfl (lv_at hl 0 rfl) ?_
            refine cX_V (Cn := RX10) (n := 0) (As := []) (rest := []) (wsn := mW G a i j t r n (va_cpy n d_23 0 0 54) ps im kp tx cd bk py pt mt) C (c_X10_layAside l G a i j t r n d_23 ps im kp tx cd bk py pt mt   ) gX10_credit_X10_layAside rfl ⟨rfl, rfl⟩ hd_X10_layAside ⟨(Nat.le_of_ble_eq_true rfl), (Nat.le_of_ble_eq_true rfl)⟩ hK hP hD hS [0, 1, 2, 3, 4, 5, 6, 7, 8, 9, 10, 11, 12, 13] (by decide) rfl (mW_f.trans mW_f.symm) rfl (mW_f.trans mW_f.symm) (va_recv hK hP (ci := 10) (q0 := 0) rfl rfl) rfl hl.1 rfl (Nat.le_of_ble_eq_true rfl) dX10_credit_42 ⟨(Nat.le_of_ble_eq_true rfl), (Nat.le_of_ble_eq_true rfl)⟩ (fun H locs hP hD hS => ?_)
            refine lv_aload_n hx hb dX10_credit_45 rfl (lv_at hl 0 rfl) ?_
            refine va_get (D := G.1) (ci := 10) (v := .ref (a 4)) (C := RX10) (T := TX10) (N := 25) hx hb hts k2 hown hK hP 0 rfl rfl 3 (by decide) k1 (fun _ h9 => h9) rfl dX10_credit_46 ?_
            refine lv_iconst (v := 0) hx hb dX10_credit_49 (by decide) ?_
            refine lv_iconst (v := 4) hx hb dX10_credit_50 (by decide) ?_
            refine lv_iload_n hx hb dX10_credit_51 rfl (lv_at hl 1 rfl) ?_
            refine n_imul hx hb dX10_credit_52 (u := 4) (v := pp) rfl rfl (j := 4 * pp) (by omega) ?_
            refine n_iadd hx hb dX10_credit_53 (u := 0) (v := 4 * pp) rfl rfl (j := 4 * pp) (by omega) ?_
            refine lv_iload_n hx hb dX10_credit_54 rfl (lv_at hl 2 rfl) ?_
            refine n_iadd hx hb dX10_credit_55 (u := 4 * pp) (v := cc) rfl rfl (j := (4 * pp) + cc) (by omega) ?_
            refine lv_dup2_11 hx hb dX10_credit_56 rfl rfl ?_
            refine n_iald hx hb hK hP 4 0 rfl rfl (j := (4 * pp) + cc) rfl (by omega) (by decide) dX10_credit_57 ?_
            refine lv_iload_n hx hb dX10_credit_58 rfl (lv_at hl 3 rfl) ?_
            refine lv_iadd hx hb dX10_credit_59 ?_
            refine n_iast hx hb hK hP hD hS 4 0 rfl rfl (x := (((va_cpy n d_23 0 0 54) ((4 * pp) + cc)) + (nI (999 - i1)))) (j := (4 * pp) + cc) rfl (by omega) (by decide) dX10_credit_60 (wsn := mW G a i j t r n (upd (va_cpy n d_23 0 0 54) ((4 * pp) + cc) (((va_cpy n d_23 0 0 54) ((4 * pp) + cc)) + (nI (999 - i1)))) ps im kp tx cd bk py pt mt) rfl (fun H locs hP hD hS => ?_)
            refine lv_aload_n hx hb dX10_credit_61 rfl (lv_at hl 0 rfl) ?_
            refine lv_aload_n hx hb dX10_credit_62 rfl (lv_at hl 0 rfl) ?_
            refine va_get (D := G.1) (ci := 10) (v := .ref (a 4)) (C := RX10) (T := TX10) (N := 25) hx hb hts k2 hown hK hP 0 rfl rfl 3 (by decide) k1 (fun _ h9 => h9) rfl dX10_credit_63 ?_
            refine lv_iload_n hx hb dX10_credit_66 rfl (lv_at hl 1 rfl) ?_
            refine lv_iload_n hx hb dX10_credit_67 rfl (lv_at hl 2 rfl) ?_
            refine cR_V (Cn := RX10) (n := 3) (As := [.ref (a 4), .int (nI pp), .int (nI cc)]) (rest := []) C (c_X10_temperOf_d l G a i j t r n (upd (va_cpy n d_23 0 0 54) ((4 * pp) + cc) (((va_cpy n d_23 0 0 54) ((4 * pp) + cc)) + (nI (999 - i1)))) ps im kp tx cd bk py pt mt  pp cc (by omega) (by omega)) gX10_credit_X10_temperOf rfl ⟨rfl, rfl⟩ hd_X10_temperOf ⟨(Nat.le_of_ble_eq_true rfl), (Nat.le_of_ble_eq_true rfl)⟩ hK hP (va_recv hK hP (ci := 10) (q0 := 0) rfl rfl) rfl hl.1 rfl (Nat.le_of_ble_eq_true rfl) dX10_credit_68 ⟨(Nat.le_of_ble_eq_true rfl), (Nat.le_of_ble_eq_true rfl)⟩ ?_
            refine lv_iconst (v := 1) hx hb dX10_credit_71 (by decide) ?_
            refine lv_icmp_ne (tgt := 77) hx hb dX10_credit_72 (by decide) (fun cq7 => ?_) (fun cq7 => ?_)
            · skip
              have htm : tm t (upd (va_cpy n d_23 0 0 54) (4 * pp + cc) (va_cpy n d_23 0 0 54 (4 * pp + cc) + nI (999 - i1))) pp cc = tm t (upd n (4 * pp + cc) (n (4 * pp + cc) + nI (999 - i1))) pp cc := tm_c (upd_c (cpy54 _ _) _ (by rw [cpy54 _ _ _ (by omega)])) (by omega) (by omega)
              rw [htm] at cq7
              have hno : ¬ crdC t n pp cc (999 - i1) := fun q => cq7 q.2
              refine lv_iinc (v := nI (1000 - (i1 + 1)) - 1) (lv' := [(3, .int (nI (1000 - (i1 + 1)) - 1)), (0, .ref (a 0)), (1, .int (nI pp)), (2, .int (nI cc))]) hx hb dX10_credit_77 hl (k := 3) rfl (by rw [show 1000 - (i1 + 1) = 999 - i1 by omega]; exact addm1 _) (by decide) rfl (fun ls hl => ?_)
              refine lv_goto (tgt := 23) hx hb dX10_credit_80 (by decide) ?_
              exact ih23 _ _ _ (by omega) ⟨(upd (va_cpy n d_23 0 0 54) ((4 * pp) + cc) (((va_cpy n d_23 0 0 54) ((4 * pp) + cc)) + (nI (999 - i1)))), hP, hD, hS, lv_sub hl [1, 2, 3, 0] (rfl), (by rw [hR, hst, show 1000 - (i1 + 1) = 999 - i1 by omega]; exact if_neg (by first | exact hno | exact fun q => hz q.1))⟩
            · skip
              have htm : tm t (upd (va_cpy n d_23 0 0 54) (4 * pp + cc) (va_cpy n d_23 0 0 54 (4 * pp + cc) + nI (999 - i1))) pp cc = tm t (upd n (4 * pp + cc) (n (4 * pp + cc) + nI (999 - i1))) pp cc := tm_c (upd_c (cpy54 _ _) _ (by rw [cpy54 _ _ _ (by omega)])) (by omega) (by omega)
              rw [htm] at cq7
              have hyes : crdC t n pp cc (999 - i1) := ⟨hz, cq7⟩
              refine lv_iload_n hx hb dX10_credit_75 rfl (lv_at hl 3 rfl) ?_
              exact mE_iret hAe C (u := (upd (va_cpy n d_23 0 0 54) ((4 * pp) + cc) (((va_cpy n d_23 0 0 54) ((4 * pp) + cc)) + (nI (999 - i1))))) hP hS dX10_credit_76 (by unfold cdR; rw [if_neg (not_not_intro ⟨cq1, cq2⟩), hcl_pp, hcl_cc, hR, hst, if_pos hyes])
    · skip
      refine lv_ldc hx hb hown k0 dX10_credit_16 ?_
      exact mE_iret hAe C (u := d) hP hS dX10_credit_18 (by simp [cdR, cq1, hcl_pp, cq2])
