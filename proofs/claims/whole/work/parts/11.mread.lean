theorem hd_X10_temperOf : yX10_temperOf.cls = RX10 ∧ yX10_temperOf.cls ≠ "java/lang/invoke/MethodHandle" ∧ yX10_temperOf.cls ≠ "java/lang/invoke/VarHandle" ∧ (parseMethodDescriptor yX10_temperOf.desc).map (fun d => d.parameters.length) = some 3 := by decide +kernel
set_option maxRecDepth 100000 in
set_option maxHeartbeats 4000000 in
theorem c_X10_temperOf_n (l : Launch) (G : gG) (a : Nat → Nat) (i : Nat → Int32) (j : Nat → Int32) (t : Nat → Int32) (r : Nat → Int32) (n : Nat → Int32) (d : Nat → Int32) (ps : Nat → Int32) (im : Nat → Int32) (kp : Nat → Int32) (tx : Nat → Int32) (cd : Nat → Int32) (bk : Nat → Int32) (py : Nat → Int32) (pt : Nat → Int32) (mt : Nat → Int32) (p : Nat) (c : Nat) (hp : p < 8) (hc : c < 4) : mR l yX10_temperOf wsX10_temperOf ({ frames := 1, cells := 0, slots := 0, locals := 21 }) G (mW G a i j t r n d ps im kp tx cd bk py pt mt) [.ref (a 0), .ref (a 3), .int (nI p), .int (nI c)] (tm t n p c) := by
  refine mR.of (cc := cX10_temperOf) (maxL := 5) (ret := (some .int)) (by decide) rfl (Nat.le_of_ble_eq_true rfl) ?_
  intro zp ze zs zm zb zt zc ls C hP hK hl
  obtain ⟨hx, hb, hr, hml, hown, hts, hlk⟩ := id C
  have hl : lv_has ls 5 [(0, .ref (a 0)), (1, .ref (a 3)), (2, .int (nI p)), (3, .int (nI c))] := hl
  have k0 := hts (.fieldLink RX10 7 "DebtDowryModel" "town" "[I") (by decide +kernel)
  have k1 := (fun w h => by revert w; decide +kernel : ∀ w ∈ wsX100, w ∈ wsX10_temperOf)
  refine lv_aload_n hx hb dX10_temperOf_0 rfl (lv_at hl 1 rfl) ?_
  refine lv_iconst (v := 0) hx hb dX10_temperOf_1 (by decide) ?_
  refine lv_iconst (v := 4) hx hb dX10_temperOf_2 (by decide) ?_
  refine lv_iload_n hx hb dX10_temperOf_3 rfl (lv_at hl 2 rfl) ?_
  refine n_imul hx hb dX10_temperOf_4 (u := 4) (v := p) rfl rfl (j := 4 * p) (by omega) ?_
  refine n_iadd hx hb dX10_temperOf_5 (u := 0) (v := 4 * p) rfl rfl (j := 4 * p) (by omega) ?_
  refine lv_iload_n hx hb dX10_temperOf_6 rfl (lv_at hl 3 rfl) ?_
  refine n_iadd hx hb dX10_temperOf_7 (u := 4 * p) (v := c) rfl rfl (j := (4 * p) + c) (by omega) ?_
  refine n_iald hx hb hK hP 3 0 rfl rfl (j := (4 * p) + c) rfl (by omega) (by decide) dX10_temperOf_8 ?_
  refine lv_istore (lv' := [(4, .int (n ((4 * p) + c))), (0, .ref (a 0)), (1, .ref (a 3)), (2, .int (nI p)), (3, .int (nI c))]) hx hb dX10_temperOf_9 hl (by decide) rfl (fun ls hl => ?_)
  refine lv_aload_n hx hb dX10_temperOf_11 rfl (lv_at hl 2 rfl) ?_
  refine lv_bipush (v := 52) hx hb dX10_temperOf_12 (by decide) ?_
  refine n_iald hx hb hK hP 3 0 rfl rfl (j := 52) rfl (by decide) (by decide) dX10_temperOf_14 ?_
  refine lv_iload_n hx hb dX10_temperOf_15 rfl (lv_at hl 4 rfl) ?_
  refine cR_S (n := 2) (As := [.int (n 52), .int (nI c)]) (rest := []) C (c_X10_has l G    (n 52) c ) gX10_temperOf_X10_has rfl ⟨rfl, rfl⟩ hd_X10_has ⟨(Nat.le_of_ble_eq_true rfl), (Nat.le_of_ble_eq_true rfl)⟩ hK (hP.sub [] rfl) rfl hl.1 rfl (Nat.le_of_ble_eq_true rfl) dX10_temperOf_16 ⟨(Nat.le_of_ble_eq_true rfl), (Nat.le_of_ble_eq_true rfl)⟩ ?_
  refine b_if_eq (tgt := 24) hx hb dX10_temperOf_19 (by decide) (fun cq1 => ?_) (fun cq1 => ?_)
  · skip
    refine lv_aload_n hx hb dX10_temperOf_24 rfl (lv_at hl 2 rfl) ?_
    refine lv_bipush (v := 36) hx hb dX10_temperOf_25 (by decide) ?_
    refine lv_iload_n hx hb dX10_temperOf_27 rfl (lv_at hl 3 rfl) ?_
    refine n_iadd hx hb dX10_temperOf_28 (u := 36) (v := p) rfl rfl (j := 36 + p) (by omega) ?_
    refine n_iald hx hb hK hP 3 0 rfl rfl (j := 36 + p) rfl (by omega) (by decide) dX10_temperOf_29 ?_
    refine lv_iload_n hx hb dX10_temperOf_30 rfl (lv_at hl 4 rfl) ?_
    refine cR_S (n := 2) (As := [.int (n (36 + p)), .int (nI c)]) (rest := []) C (c_X10_has l G    (n (36 + p)) c ) gX10_temperOf_X10_has rfl ⟨rfl, rfl⟩ hd_X10_has ⟨(Nat.le_of_ble_eq_true rfl), (Nat.le_of_ble_eq_true rfl)⟩ hK (hP.sub [] rfl) rfl hl.1 rfl (Nat.le_of_ble_eq_true rfl) dX10_temperOf_31 ⟨(Nat.le_of_ble_eq_true rfl), (Nat.le_of_ble_eq_true rfl)⟩ ?_
    refine b_if_ne (tgt := 51) hx hb dX10_temperOf_34 (by decide) (fun cq2 => ?_) (fun cq2 => ?_)
    · skip
      refine lv_iconst (v := 0) hx hb dX10_temperOf_51 (by decide) ?_
      exact mR_iret C dX10_temperOf_52 (by simp [tm, tmG, cq1, cq2])
    · skip
      refine lv_iload hx hb dX10_temperOf_37 (lv_at hl 0 rfl) ?_
      refine lv_aload_n hx hb dX10_temperOf_39 rfl (lv_at hl 1 rfl) ?_
      refine va_get (D := G.1) (ci := 10) (v := .ref (a 1)) (C := RX10) (T := TX10) (N := 25) hx hb hts k1 hown hK hP 0 rfl rfl 0 (by decide) k0 (fun _ h9 => h9) rfl dX10_temperOf_40 ?_
      refine lv_bipush (v := 9) hx hb dX10_temperOf_43 (by decide) ?_
      refine lv_iload_n hx hb dX10_temperOf_45 rfl (lv_at hl 4 rfl) ?_
      refine n_iadd hx hb dX10_temperOf_46 (u := 9) (v := c) rfl rfl (j := 9 + c) (by omega) ?_
      refine n_iald hx hb hK hP 1 0 rfl rfl (j := 9 + c) rfl (by omega) (by decide) dX10_temperOf_47 ?_
      refine lv_icmp_ge (tgt := 53) hx hb dX10_temperOf_48 (by decide) (fun cq3 => ?_) (fun cq3 => ?_)
      · skip
        refine lv_iload hx hb dX10_temperOf_53 (lv_at hl 0 rfl) ?_
        refine lv_aload_n hx hb dX10_temperOf_55 rfl (lv_at hl 1 rfl) ?_
        refine va_get (D := G.1) (ci := 10) (v := .ref (a 1)) (C := RX10) (T := TX10) (N := 25) hx hb hts k1 hown hK hP 0 rfl rfl 0 (by decide) k0 (fun _ h9 => h9) rfl dX10_temperOf_56 ?_
        refine lv_bipush (v := 13) hx hb dX10_temperOf_59 (by decide) ?_
        refine lv_iload_n hx hb dX10_temperOf_61 rfl (lv_at hl 4 rfl) ?_
        refine n_iadd hx hb dX10_temperOf_62 (u := 13) (v := c) rfl rfl (j := 13 + c) (by omega) ?_
        refine n_iald hx hb hK hP 1 0 rfl rfl (j := 13 + c) rfl (by omega) (by decide) dX10_temperOf_63 ?_
        refine lv_icmp_gt (tgt := 71) hx hb dX10_temperOf_64 (by decide) (fun cq4 => ?_) (fun cq4 => ?_)
        · skip
          refine lv_iconst (v := 2) hx hb dX10_temperOf_71 (by decide) ?_
          exact mR_iret C dX10_temperOf_72 (by simp [tm, tmG, cq1, cq2, cq3, (i32_nlt.mpr cq3), cq4, (i32_nle.mpr cq4)])
        · skip
          refine lv_iconst (v := 1) hx hb dX10_temperOf_67 (by decide) ?_
          refine lv_goto (tgt := 72) hx hb dX10_temperOf_68 (by decide) ?_
          exact mR_iret C dX10_temperOf_72 (by simp [tm, tmG, cq1, cq2, cq3, (i32_nlt.mpr cq3), cq4, (i32_nlt.mp cq4)])
      · skip
        refine lv_iconst (v := 0) hx hb dX10_temperOf_51 (by decide) ?_
        exact mR_iret C dX10_temperOf_52 (by simp [tm, tmG, cq1, cq2, cq3, (i32_nle.mp cq3)])
  · skip
    refine lv_iconst (v := 3) hx hb dX10_temperOf_22 (by decide) ?_
    exact mR_iret C dX10_temperOf_23 (by simp [tm, tmG, cq1])
theorem hd_X10_standing : yX10_standing.cls = RX10 ∧ yX10_standing.cls ≠ "java/lang/invoke/MethodHandle" ∧ yX10_standing.cls ≠ "java/lang/invoke/VarHandle" ∧ (parseMethodDescriptor yX10_standing.desc).map (fun d => d.parameters.length) = some 2 := by decide +kernel
set_option maxRecDepth 100000 in
set_option maxHeartbeats 4000000 in
theorem c_X10_standing_n (l : Launch) (G : gG) (a : Nat → Nat) (i : Nat → Int32) (j : Nat → Int32) (t : Nat → Int32) (r : Nat → Int32) (n : Nat → Int32) (d : Nat → Int32) (ps : Nat → Int32) (im : Nat → Int32) (kp : Nat → Int32) (tx : Nat → Int32) (cd : Nat → Int32) (bk : Nat → Int32) (py : Nat → Int32) (pt : Nat → Int32) (mt : Nat → Int32) (nc : Nat) (np : Nat) (p : Nat) (hT : tw t nc np) (hp : p < 8) : mR l yX10_standing wsX10_standing ({ frames := 2, cells := 0, slots := 0, locals := 45 }) G (mW G a i j t r n d ps im kp tx cd bk py pt mt) [.ref (a 0), .ref (a 3), .int (nI p)] (stU t n p nc) := by
  refine mR.of (cc := cX10_standing) (maxL := 6) (ret := (some .int)) (by decide) rfl (Nat.le_of_ble_eq_true rfl) ?_
  intro zp ze zs zm zb zt zc ls C hP hK hl
  obtain ⟨hx, hb, hr, hml, hown, hts, hlk⟩ := id C
  have hl : lv_has ls 6 [(0, .ref (a 0)), (1, .ref (a 3)), (2, .int (nI p))] := hl
  have hT2 := hT.2.2
  have k0 := hts (.fieldLink RX10 7 "DebtDowryModel" "town" "[I") (by decide +kernel)
  have k1 := (fun w h => by revert w; decide +kernel : ∀ w ∈ wsX100, w ∈ wsX10_standing)
  refine lv_iconst (v := 0) hx hb dX10_standing_0 (by decide) ?_
  refine lv_istore_n (lv' := [(3, .int 0), (0, .ref (a 0)), (1, .ref (a 3)), (2, .int (nI p))]) hx hb dX10_standing_1 rfl hl (by decide) rfl (fun ls hl => ?_)
  refine lv_iconst (v := 0) hx hb dX10_standing_2 (by decide) ?_
  refine lv_istore (lv' := [(4, .int 0), (3, .int 0), (0, .ref (a 0)), (1, .ref (a 3)), (2, .int (nI p))]) hx hb dX10_standing_3 hl (by decide) rfl (fun ls hl => ?_)
  refine wl_R (B := nc) (i0 := 0) (Inv := fun i1 ls => lv_has ls 6 [(0, .ref (a 0)), (1, .ref (a 3)), (2, .int (nI p)), (3, .int (stU t n p i1)), (4, .int (nI i1))] ∧ True) (by omega) ⟨lv_sub hl [2, 3, 4, 1, 0] (rfl), trivial⟩ ?_
  rintro i1 ls hle5 ⟨hl, -⟩ ih5
  refine lv_iload hx hb dX10_standing_5 (lv_at hl 4 rfl) ?_
  refine lv_aload_n hx hb dX10_standing_7 rfl (lv_at hl 0 rfl) ?_
  refine va_get (D := G.1) (ci := 10) (v := .ref (a 1)) (C := RX10) (T := TX10) (N := 25) hx hb hts k1 hown hK hP 0 rfl rfl 0 (by decide) k0 (fun _ h9 => h9) rfl dX10_standing_8 ?_
  refine lv_iconst (v := 3) hx hb dX10_standing_11 (by decide) ?_
  refine n_iald hx hb hK hP 1 0 rfl rfl (j := 3) rfl (by decide) (by decide) dX10_standing_12 ?_
  refine n_icmp_ge (tgt := 65) hx hb dX10_standing_13 (by decide) (u := i1) (v := nc) rfl hT.1 (by omega) (by omega) (fun cq1 => ?_) (fun cq1 => ?_)
  · skip
    obtain rfl : nc = i1 := by omega
    refine lv_iload_n hx hb dX10_standing_65 rfl (lv_at hl 3 rfl) ?_
    exact mR_iret C dX10_standing_66 (rfl)
  · skip
    refine lv_aload_n hx hb dX10_standing_16 rfl (lv_at hl 0 rfl) ?_
    refine lv_aload_n hx hb dX10_standing_17 rfl (lv_at hl 1 rfl) ?_
    refine lv_iload_n hx hb dX10_standing_18 rfl (lv_at hl 2 rfl) ?_
    refine lv_iload hx hb dX10_standing_19 (lv_at hl 4 rfl) ?_
    refine cR_V (Cn := RX10) (n := 3) (As := [.ref (a 3), .int (nI p), .int (nI i1)]) (rest := []) C (c_X10_temperOf_n l G a i j t r n d ps im kp tx cd bk py pt mt  p i1 (by omega) (by omega)) gX10_standing_X10_temperOf rfl ⟨rfl, rfl⟩ hd_X10_temperOf ⟨(Nat.le_of_ble_eq_true rfl), (Nat.le_of_ble_eq_true rfl)⟩ hK hP (va_recv hK hP (ci := 10) (q0 := 0) rfl rfl) rfl hl.1 rfl (Nat.le_of_ble_eq_true rfl) dX10_standing_21 ⟨(Nat.le_of_ble_eq_true rfl), (Nat.le_of_ble_eq_true rfl)⟩ ?_
    refine lv_istore (lv' := [(5, .int (tm t n p i1)), (0, .ref (a 0)), (1, .ref (a 3)), (2, .int (nI p)), (3, .int (stU t n p i1)), (4, .int (nI i1))]) hx hb dX10_standing_24 hl (by decide) rfl (fun ls hl => ?_)
    refine lv_iload_n hx hb dX10_standing_26 rfl (lv_at hl 4 rfl) ?_
    refine lv_iload hx hb dX10_standing_27 (lv_at hl 0 rfl) ?_
    refine lv_iconst (v := 1) hx hb dX10_standing_29 (by decide) ?_
    refine lv_icmp_ne (tgt := 46) hx hb dX10_standing_30 (by decide) (fun cq2 => ?_) (fun cq2 => ?_)
    · skip
      refine lv_iload hx hb dX10_standing_46 (lv_at hl 0 rfl) ?_
      refine lv_iconst (v := 2) hx hb dX10_standing_48 (by decide) ?_
      refine lv_icmp_ne (tgt := 56) hx hb dX10_standing_49 (by decide) (fun cq3 => ?_) (fun cq3 => ?_)
      · skip
        refine lv_iconst (v := 0) hx hb dX10_standing_56 (by decide) ?_
        refine lv_iadd hx hb dX10_standing_57 ?_
        refine lv_istore_n (lv' := [(3, .int ((stU t n p i1) + 0)), (5, .int (tm t n p i1)), (0, .ref (a 0)), (1, .ref (a 3)), (2, .int (nI p)), (4, .int (nI i1))]) hx hb dX10_standing_58 rfl hl (by decide) rfl (fun ls hl => ?_)
        refine lv_iinc (v := nI (i1 + 1)) (lv' := [(4, .int (nI (i1 + 1))), (3, .int ((stU t n p i1) + 0)), (5, .int (tm t n p i1)), (0, .ref (a 0)), (1, .ref (a 3)), (2, .int (nI p))]) hx hb dX10_standing_59 hl (k := 5) rfl (by rw [show (nI i1 : Int32) = nI i1 from rfl]; exact nI_add _ 1) (by decide) rfl (fun ls hl => ?_)
        refine lv_goto (tgt := 5) hx hb dX10_standing_62 (by decide) ?_
        have e4 : (stU t n p i1) + 0 = stU t n p (i1 + 1) := by show _ = sumU _ _ + wrG _ _; simp [wrG, stU, cq1, cq2, cq3]
        exact ih5 _ (by omega) ⟨lv_sub hl [3, 4, 5, 1, 0] (by rw [← e4]; rfl), trivial⟩
      · skip
        refine lv_iconst (v := (-1)) hx hb dX10_standing_52 (by decide) ?_
        refine lv_goto (tgt := 57) hx hb dX10_standing_53 (by decide) ?_
        refine lv_iadd hx hb dX10_standing_57 ?_
        refine lv_istore_n (lv' := [(3, .int ((stU t n p i1) + (-1))), (5, .int (tm t n p i1)), (0, .ref (a 0)), (1, .ref (a 3)), (2, .int (nI p)), (4, .int (nI i1))]) hx hb dX10_standing_58 rfl hl (by decide) rfl (fun ls hl => ?_)
        refine lv_iinc (v := nI (i1 + 1)) (lv' := [(4, .int (nI (i1 + 1))), (3, .int ((stU t n p i1) + (-1))), (5, .int (tm t n p i1)), (0, .ref (a 0)), (1, .ref (a 3)), (2, .int (nI p))]) hx hb dX10_standing_59 hl (k := 5) rfl (by rw [show (nI i1 : Int32) = nI i1 from rfl]; exact nI_add _ 1) (by decide) rfl (fun ls hl => ?_)
        refine lv_goto (tgt := 5) hx hb dX10_standing_62 (by decide) ?_
        have e5 : (stU t n p i1) + (-1) = stU t n p (i1 + 1) := by show _ = sumU _ _ + wrG _ _; simp [wrG, stU, cq1, cq2, cq3]
        exact ih5 _ (by omega) ⟨lv_sub hl [3, 4, 5, 1, 0] (by rw [← e5]; rfl), trivial⟩
    · skip
      refine lv_aload_n hx hb dX10_standing_33 rfl (lv_at hl 1 rfl) ?_
      refine va_get (D := G.1) (ci := 10) (v := .ref (a 1)) (C := RX10) (T := TX10) (N := 25) hx hb hts k1 hown hK hP 0 rfl rfl 0 (by decide) k0 (fun _ h9 => h9) rfl dX10_standing_34 ?_
      refine lv_bipush (v := 17) hx hb dX10_standing_37 (by decide) ?_
      refine lv_iload hx hb dX10_standing_39 (lv_at hl 5 rfl) ?_
      refine n_iadd hx hb dX10_standing_41 (u := 17) (v := i1) rfl rfl (j := 17 + i1) (by omega) ?_
      refine n_iald hx hb hK hP 1 0 rfl rfl (j := 17 + i1) rfl (by omega) (by decide) dX10_standing_42 ?_
      refine lv_goto (tgt := 57) hx hb dX10_standing_43 (by decide) ?_
      refine lv_iadd hx hb dX10_standing_57 ?_
      refine lv_istore_n (lv' := [(3, .int ((stU t n p i1) + (t (17 + i1)))), (5, .int (tm t n p i1)), (0, .ref (a 0)), (1, .ref (a 3)), (2, .int (nI p)), (4, .int (nI i1))]) hx hb dX10_standing_58 rfl hl (by decide) rfl (fun ls hl => ?_)
      refine lv_iinc (v := nI (i1 + 1)) (lv' := [(4, .int (nI (i1 + 1))), (3, .int ((stU t n p i1) + (t (17 + i1)))), (5, .int (tm t n p i1)), (0, .ref (a 0)), (1, .ref (a 3)), (2, .int (nI p))]) hx hb dX10_standing_59 hl (k := 5) rfl (by rw [show (nI i1 : Int32) = nI i1 from rfl]; exact nI_add _ 1) (by decide) rfl (fun ls hl => ?_)
      refine lv_goto (tgt := 5) hx hb dX10_standing_62 (by decide) ?_
      have e6 : (stU t n p i1) + (t (17 + i1)) = stU t n p (i1 + 1) := by show _ = sumU _ _ + wrG _ _; simp [wrG, stU, cq1, cq2]
      exact ih5 _ (by omega) ⟨lv_sub hl [3, 4, 5, 1, 0] (by rw [← e6]; rfl), trivial⟩
theorem hd_X10_sumOf : yX10_sumOf.cls = RX10 ∧ yX10_sumOf.cls ≠ "java/lang/invoke/MethodHandle" ∧ yX10_sumOf.cls ≠ "java/lang/invoke/VarHandle" ∧ (parseMethodDescriptor yX10_sumOf.desc).map (fun d => d.parameters.length) = some 2 := by decide +kernel
set_option maxRecDepth 100000 in
set_option maxHeartbeats 4000000 in
theorem c_X10_sumOf_n (l : Launch) (G : gG) (a : Nat → Nat) (i : Nat → Int32) (j : Nat → Int32) (t : Nat → Int32) (r : Nat → Int32) (n : Nat → Int32) (d : Nat → Int32) (ps : Nat → Int32) (im : Nat → Int32) (kp : Nat → Int32) (tx : Nat → Int32) (cd : Nat → Int32) (bk : Nat → Int32) (py : Nat → Int32) (pt : Nat → Int32) (mt : Nat → Int32) (p : Nat) (hp : p < 8) : mR l yX10_sumOf wsX10_sumOf ({ frames := 0, cells := 0, slots := 0, locals := 0 }) G (mW G a i j t r n d ps im kp tx cd bk py pt mt) [.ref (a 0), .ref (a 3), .int (nI p)] (owU n p 4) := by
  refine mR.of (cc := cX10_sumOf) (maxL := 5) (ret := (some .int)) (by decide) rfl (Nat.le_of_ble_eq_true rfl) ?_
  intro zp ze zs zm zb zt zc ls C hP hK hl
  obtain ⟨hx, hb, hr, hml, hown, hts, hlk⟩ := id C
  have hl : lv_has ls 5 [(0, .ref (a 0)), (1, .ref (a 3)), (2, .int (nI p))] := hl
  refine lv_iconst (v := 0) hx hb dX10_sumOf_0 (by decide) ?_
  refine lv_istore_n (lv' := [(3, .int 0), (0, .ref (a 0)), (1, .ref (a 3)), (2, .int (nI p))]) hx hb dX10_sumOf_1 rfl hl (by decide) rfl (fun ls hl => ?_)
  refine lv_iconst (v := 0) hx hb dX10_sumOf_2 (by decide) ?_
  refine lv_istore (lv' := [(4, .int 0), (3, .int 0), (0, .ref (a 0)), (1, .ref (a 3)), (2, .int (nI p))]) hx hb dX10_sumOf_3 hl (by decide) rfl (fun ls hl => ?_)
  refine wl_R (B := 4) (i0 := 0) (Inv := fun i1 ls => lv_has ls 5 [(0, .ref (a 0)), (1, .ref (a 3)), (2, .int (nI p)), (3, .int (owU n p i1)), (4, .int (nI i1))] ∧ True) (by omega) ⟨lv_sub hl [2, 3, 4, 1, 0] (rfl), trivial⟩ ?_
  rintro i1 ls hle5 ⟨hl, -⟩ ih5
  refine lv_iload hx hb dX10_sumOf_5 (lv_at hl 4 rfl) ?_
  refine lv_iconst (v := 4) hx hb dX10_sumOf_7 (by decide) ?_
  refine n_icmp_ge (tgt := 30) hx hb dX10_sumOf_8 (by decide) (u := i1) (v := 4) rfl rfl (by omega) (by omega) (fun cq1 => ?_) (fun cq1 => ?_)
  · skip
    obtain rfl : i1 = 4 := by omega
    refine lv_iload_n hx hb dX10_sumOf_30 rfl (lv_at hl 3 rfl) ?_
    exact mR_iret C dX10_sumOf_31 (rfl)
  · skip
    refine lv_iload_n hx hb dX10_sumOf_11 rfl (lv_at hl 3 rfl) ?_
    refine lv_aload_n hx hb dX10_sumOf_12 rfl (lv_at hl 1 rfl) ?_
    refine lv_iconst (v := 0) hx hb dX10_sumOf_13 (by decide) ?_
    refine lv_iconst (v := 4) hx hb dX10_sumOf_14 (by decide) ?_
    refine lv_iload_n hx hb dX10_sumOf_15 rfl (lv_at hl 2 rfl) ?_
    refine n_imul hx hb dX10_sumOf_16 (u := 4) (v := p) rfl rfl (j := 4 * p) (by omega) ?_
    refine n_iadd hx hb dX10_sumOf_17 (u := 0) (v := 4 * p) rfl rfl (j := 4 * p) (by omega) ?_
    refine lv_iload hx hb dX10_sumOf_18 (lv_at hl 4 rfl) ?_
    refine n_iadd hx hb dX10_sumOf_20 (u := 4 * p) (v := i1) rfl rfl (j := (4 * p) + i1) (by omega) ?_
    refine n_iald hx hb hK hP 3 0 rfl rfl (j := (4 * p) + i1) rfl (by omega) (by decide) dX10_sumOf_21 ?_
    refine lv_iadd hx hb dX10_sumOf_22 ?_
    refine lv_istore_n (lv' := [(3, .int ((owU n p i1) + (n ((4 * p) + i1)))), (0, .ref (a 0)), (1, .ref (a 3)), (2, .int (nI p)), (4, .int (nI i1))]) hx hb dX10_sumOf_23 rfl hl (by decide) rfl (fun ls hl => ?_)
    refine lv_iinc (v := nI (i1 + 1)) (lv' := [(4, .int (nI (i1 + 1))), (3, .int ((owU n p i1) + (n ((4 * p) + i1)))), (0, .ref (a 0)), (1, .ref (a 3)), (2, .int (nI p))]) hx hb dX10_sumOf_24 hl (k := 4) rfl (by rw [show (nI i1 : Int32) = nI i1 from rfl]; exact nI_add _ 1) (by decide) rfl (fun ls hl => ?_)
    refine lv_goto (tgt := 5) hx hb dX10_sumOf_27 (by decide) ?_
    exact ih5 _ (by omega) ⟨lv_sub hl [2, 3, 4, 1, 0] (rfl), trivial⟩
set_option maxRecDepth 100000 in
set_option maxHeartbeats 4000000 in
theorem c_X10_temperOf_d (l : Launch) (G : gG) (a : Nat → Nat) (i : Nat → Int32) (j : Nat → Int32) (t : Nat → Int32) (r : Nat → Int32) (n : Nat → Int32) (d : Nat → Int32) (ps : Nat → Int32) (im : Nat → Int32) (kp : Nat → Int32) (tx : Nat → Int32) (cd : Nat → Int32) (bk : Nat → Int32) (py : Nat → Int32) (pt : Nat → Int32) (mt : Nat → Int32) (p : Nat) (c : Nat) (hp : p < 8) (hc : c < 4) : mR l yX10_temperOf wsX10_temperOf ({ frames := 1, cells := 0, slots := 0, locals := 21 }) G (mW G a i j t r n d ps im kp tx cd bk py pt mt) [.ref (a 0), .ref (a 4), .int (nI p), .int (nI c)] (tm t d p c) := by
  refine mR.of (cc := cX10_temperOf) (maxL := 5) (ret := (some .int)) (by decide) rfl (Nat.le_of_ble_eq_true rfl) ?_
  intro zp ze zs zm zb zt zc ls C hP hK hl
  obtain ⟨hx, hb, hr, hml, hown, hts, hlk⟩ := id C
  have hl : lv_has ls 5 [(0, .ref (a 0)), (1, .ref (a 4)), (2, .int (nI p)), (3, .int (nI c))] := hl
  have k0 := hts (.fieldLink RX10 7 "DebtDowryModel" "town" "[I") (by decide +kernel)
  have k1 := (fun w h => by revert w; decide +kernel : ∀ w ∈ wsX100, w ∈ wsX10_temperOf)
  refine lv_aload_n hx hb dX10_temperOf_0 rfl (lv_at hl 1 rfl) ?_
  refine lv_iconst (v := 0) hx hb dX10_temperOf_1 (by decide) ?_
  refine lv_iconst (v := 4) hx hb dX10_temperOf_2 (by decide) ?_
  refine lv_iload_n hx hb dX10_temperOf_3 rfl (lv_at hl 2 rfl) ?_
  refine n_imul hx hb dX10_temperOf_4 (u := 4) (v := p) rfl rfl (j := 4 * p) (by omega) ?_
  refine n_iadd hx hb dX10_temperOf_5 (u := 0) (v := 4 * p) rfl rfl (j := 4 * p) (by omega) ?_
  refine lv_iload_n hx hb dX10_temperOf_6 rfl (lv_at hl 3 rfl) ?_
  refine n_iadd hx hb dX10_temperOf_7 (u := 4 * p) (v := c) rfl rfl (j := (4 * p) + c) (by omega) ?_
  refine n_iald hx hb hK hP 4 0 rfl rfl (j := (4 * p) + c) rfl (by omega) (by decide) dX10_temperOf_8 ?_
  refine lv_istore (lv' := [(4, .int (d ((4 * p) + c))), (0, .ref (a 0)), (1, .ref (a 4)), (2, .int (nI p)), (3, .int (nI c))]) hx hb dX10_temperOf_9 hl (by decide) rfl (fun ls hl => ?_)
  refine lv_aload_n hx hb dX10_temperOf_11 rfl (lv_at hl 2 rfl) ?_
  refine lv_bipush (v := 52) hx hb dX10_temperOf_12 (by decide) ?_
  refine n_iald hx hb hK hP 4 0 rfl rfl (j := 52) rfl (by decide) (by decide) dX10_temperOf_14 ?_
  refine lv_iload_n hx hb dX10_temperOf_15 rfl (lv_at hl 4 rfl) ?_
  refine cR_S (n := 2) (As := [.int (d 52), .int (nI c)]) (rest := []) C (c_X10_has l G    (d 52) c ) gX10_temperOf_X10_has rfl ⟨rfl, rfl⟩ hd_X10_has ⟨(Nat.le_of_ble_eq_true rfl), (Nat.le_of_ble_eq_true rfl)⟩ hK (hP.sub [] rfl) rfl hl.1 rfl (Nat.le_of_ble_eq_true rfl) dX10_temperOf_16 ⟨(Nat.le_of_ble_eq_true rfl), (Nat.le_of_ble_eq_true rfl)⟩ ?_
  refine b_if_eq (tgt := 24) hx hb dX10_temperOf_19 (by decide) (fun cq1 => ?_) (fun cq1 => ?_)
  · skip
    refine lv_aload_n hx hb dX10_temperOf_24 rfl (lv_at hl 2 rfl) ?_
    refine lv_bipush (v := 36) hx hb dX10_temperOf_25 (by decide) ?_
    refine lv_iload_n hx hb dX10_temperOf_27 rfl (lv_at hl 3 rfl) ?_
    refine n_iadd hx hb dX10_temperOf_28 (u := 36) (v := p) rfl rfl (j := 36 + p) (by omega) ?_
    refine n_iald hx hb hK hP 4 0 rfl rfl (j := 36 + p) rfl (by omega) (by decide) dX10_temperOf_29 ?_
    refine lv_iload_n hx hb dX10_temperOf_30 rfl (lv_at hl 4 rfl) ?_
    refine cR_S (n := 2) (As := [.int (d (36 + p)), .int (nI c)]) (rest := []) C (c_X10_has l G    (d (36 + p)) c ) gX10_temperOf_X10_has rfl ⟨rfl, rfl⟩ hd_X10_has ⟨(Nat.le_of_ble_eq_true rfl), (Nat.le_of_ble_eq_true rfl)⟩ hK (hP.sub [] rfl) rfl hl.1 rfl (Nat.le_of_ble_eq_true rfl) dX10_temperOf_31 ⟨(Nat.le_of_ble_eq_true rfl), (Nat.le_of_ble_eq_true rfl)⟩ ?_
    refine b_if_ne (tgt := 51) hx hb dX10_temperOf_34 (by decide) (fun cq2 => ?_) (fun cq2 => ?_)
    · skip
      refine lv_iconst (v := 0) hx hb dX10_temperOf_51 (by decide) ?_
      exact mR_iret C dX10_temperOf_52 (by simp [tm, tmG, cq1, cq2])
    · skip
      refine lv_iload hx hb dX10_temperOf_37 (lv_at hl 0 rfl) ?_
      refine lv_aload_n hx hb dX10_temperOf_39 rfl (lv_at hl 1 rfl) ?_
      refine va_get (D := G.1) (ci := 10) (v := .ref (a 1)) (C := RX10) (T := TX10) (N := 25) hx hb hts k1 hown hK hP 0 rfl rfl 0 (by decide) k0 (fun _ h9 => h9) rfl dX10_temperOf_40 ?_
      refine lv_bipush (v := 9) hx hb dX10_temperOf_43 (by decide) ?_
      refine lv_iload_n hx hb dX10_temperOf_45 rfl (lv_at hl 4 rfl) ?_
      refine n_iadd hx hb dX10_temperOf_46 (u := 9) (v := c) rfl rfl (j := 9 + c) (by omega) ?_
      refine n_iald hx hb hK hP 1 0 rfl rfl (j := 9 + c) rfl (by omega) (by decide) dX10_temperOf_47 ?_
      refine lv_icmp_ge (tgt := 53) hx hb dX10_temperOf_48 (by decide) (fun cq3 => ?_) (fun cq3 => ?_)
      · skip
        refine lv_iload hx hb dX10_temperOf_53 (lv_at hl 0 rfl) ?_
        refine lv_aload_n hx hb dX10_temperOf_55 rfl (lv_at hl 1 rfl) ?_
        refine va_get (D := G.1) (ci := 10) (v := .ref (a 1)) (C := RX10) (T := TX10) (N := 25) hx hb hts k1 hown hK hP 0 rfl rfl 0 (by decide) k0 (fun _ h9 => h9) rfl dX10_temperOf_56 ?_
        refine lv_bipush (v := 13) hx hb dX10_temperOf_59 (by decide) ?_
        refine lv_iload_n hx hb dX10_temperOf_61 rfl (lv_at hl 4 rfl) ?_
        refine n_iadd hx hb dX10_temperOf_62 (u := 13) (v := c) rfl rfl (j := 13 + c) (by omega) ?_
        refine n_iald hx hb hK hP 1 0 rfl rfl (j := 13 + c) rfl (by omega) (by decide) dX10_temperOf_63 ?_
        refine lv_icmp_gt (tgt := 71) hx hb dX10_temperOf_64 (by decide) (fun cq4 => ?_) (fun cq4 => ?_)
        · skip
          refine lv_iconst (v := 2) hx hb dX10_temperOf_71 (by decide) ?_
          exact mR_iret C dX10_temperOf_72 (by simp [tm, tmG, cq1, cq2, cq3, (i32_nlt.mpr cq3), cq4, (i32_nle.mpr cq4)])
        · skip
          refine lv_iconst (v := 1) hx hb dX10_temperOf_67 (by decide) ?_
          refine lv_goto (tgt := 72) hx hb dX10_temperOf_68 (by decide) ?_
          exact mR_iret C dX10_temperOf_72 (by simp [tm, tmG, cq1, cq2, cq3, (i32_nlt.mpr cq3), cq4, (i32_nlt.mp cq4)])
      · skip
        refine lv_iconst (v := 0) hx hb dX10_temperOf_51 (by decide) ?_
        exact mR_iret C dX10_temperOf_52 (by simp [tm, tmG, cq1, cq2, cq3, (i32_nle.mp cq3)])
  · skip
    refine lv_iconst (v := 3) hx hb dX10_temperOf_22 (by decide) ?_
    exact mR_iret C dX10_temperOf_23 (by simp [tm, tmG, cq1])
set_option maxRecDepth 100000 in
set_option maxHeartbeats 4000000 in
theorem c_X10_standing_d (l : Launch) (G : gG) (a : Nat → Nat) (i : Nat → Int32) (j : Nat → Int32) (t : Nat → Int32) (r : Nat → Int32) (n : Nat → Int32) (d : Nat → Int32) (ps : Nat → Int32) (im : Nat → Int32) (kp : Nat → Int32) (tx : Nat → Int32) (cd : Nat → Int32) (bk : Nat → Int32) (py : Nat → Int32) (pt : Nat → Int32) (mt : Nat → Int32) (nc : Nat) (np : Nat) (p : Nat) (hT : tw t nc np) (hp : p < 8) : mR l yX10_standing wsX10_standing ({ frames := 2, cells := 0, slots := 0, locals := 45 }) G (mW G a i j t r n d ps im kp tx cd bk py pt mt) [.ref (a 0), .ref (a 4), .int (nI p)] (stU t d p nc) := by
  refine mR.of (cc := cX10_standing) (maxL := 6) (ret := (some .int)) (by decide) rfl (Nat.le_of_ble_eq_true rfl) ?_
  intro zp ze zs zm zb zt zc ls C hP hK hl
  obtain ⟨hx, hb, hr, hml, hown, hts, hlk⟩ := id C
  have hl : lv_has ls 6 [(0, .ref (a 0)), (1, .ref (a 4)), (2, .int (nI p))] := hl
  have hT2 := hT.2.2
  have k0 := hts (.fieldLink RX10 7 "DebtDowryModel" "town" "[I") (by decide +kernel)
  have k1 := (fun w h => by revert w; decide +kernel : ∀ w ∈ wsX100, w ∈ wsX10_standing)
  refine lv_iconst (v := 0) hx hb dX10_standing_0 (by decide) ?_
  refine lv_istore_n (lv' := [(3, .int 0), (0, .ref (a 0)), (1, .ref (a 4)), (2, .int (nI p))]) hx hb dX10_standing_1 rfl hl (by decide) rfl (fun ls hl => ?_)
  refine lv_iconst (v := 0) hx hb dX10_standing_2 (by decide) ?_
  refine lv_istore (lv' := [(4, .int 0), (3, .int 0), (0, .ref (a 0)), (1, .ref (a 4)), (2, .int (nI p))]) hx hb dX10_standing_3 hl (by decide) rfl (fun ls hl => ?_)
  refine wl_R (B := nc) (i0 := 0) (Inv := fun i1 ls => lv_has ls 6 [(0, .ref (a 0)), (1, .ref (a 4)), (2, .int (nI p)), (3, .int (stU t d p i1)), (4, .int (nI i1))] ∧ True) (by omega) ⟨lv_sub hl [2, 3, 4, 1, 0] (rfl), trivial⟩ ?_
  rintro i1 ls hle5 ⟨hl, -⟩ ih5
  refine lv_iload hx hb dX10_standing_5 (lv_at hl 4 rfl) ?_
  refine lv_aload_n hx hb dX10_standing_7 rfl (lv_at hl 0 rfl) ?_
  refine va_get (D := G.1) (ci := 10) (v := .ref (a 1)) (C := RX10) (T := TX10) (N := 25) hx hb hts k1 hown hK hP 0 rfl rfl 0 (by decide) k0 (fun _ h9 => h9) rfl dX10_standing_8 ?_
  refine lv_iconst (v := 3) hx hb dX10_standing_11 (by decide) ?_
  refine n_iald hx hb hK hP 1 0 rfl rfl (j := 3) rfl (by decide) (by decide) dX10_standing_12 ?_
  refine n_icmp_ge (tgt := 65) hx hb dX10_standing_13 (by decide) (u := i1) (v := nc) rfl hT.1 (by omega) (by omega) (fun cq1 => ?_) (fun cq1 => ?_)
  · skip
    obtain rfl : nc = i1 := by omega
    refine lv_iload_n hx hb dX10_standing_65 rfl (lv_at hl 3 rfl) ?_
    exact mR_iret C dX10_standing_66 (rfl)
  · skip
    refine lv_aload_n hx hb dX10_standing_16 rfl (lv_at hl 0 rfl) ?_
    refine lv_aload_n hx hb dX10_standing_17 rfl (lv_at hl 1 rfl) ?_
    refine lv_iload_n hx hb dX10_standing_18 rfl (lv_at hl 2 rfl) ?_
    refine lv_iload hx hb dX10_standing_19 (lv_at hl 4 rfl) ?_
    refine cR_V (Cn := RX10) (n := 3) (As := [.ref (a 4), .int (nI p), .int (nI i1)]) (rest := []) C (c_X10_temperOf_d l G a i j t r n d ps im kp tx cd bk py pt mt  p i1 (by omega) (by omega)) gX10_standing_X10_temperOf rfl ⟨rfl, rfl⟩ hd_X10_temperOf ⟨(Nat.le_of_ble_eq_true rfl), (Nat.le_of_ble_eq_true rfl)⟩ hK hP (va_recv hK hP (ci := 10) (q0 := 0) rfl rfl) rfl hl.1 rfl (Nat.le_of_ble_eq_true rfl) dX10_standing_21 ⟨(Nat.le_of_ble_eq_true rfl), (Nat.le_of_ble_eq_true rfl)⟩ ?_
    refine lv_istore (lv' := [(5, .int (tm t d p i1)), (0, .ref (a 0)), (1, .ref (a 4)), (2, .int (nI p)), (3, .int (stU t d p i1)), (4, .int (nI i1))]) hx hb dX10_standing_24 hl (by decide) rfl (fun ls hl => ?_)
    refine lv_iload_n hx hb dX10_standing_26 rfl (lv_at hl 4 rfl) ?_
    refine lv_iload hx hb dX10_standing_27 (lv_at hl 0 rfl) ?_
    refine lv_iconst (v := 1) hx hb dX10_standing_29 (by decide) ?_
    refine lv_icmp_ne (tgt := 46) hx hb dX10_standing_30 (by decide) (fun cq2 => ?_) (fun cq2 => ?_)
    · skip
      refine lv_iload hx hb dX10_standing_46 (lv_at hl 0 rfl) ?_
      refine lv_iconst (v := 2) hx hb dX10_standing_48 (by decide) ?_
      refine lv_icmp_ne (tgt := 56) hx hb dX10_standing_49 (by decide) (fun cq3 => ?_) (fun cq3 => ?_)
      · skip
        refine lv_iconst (v := 0) hx hb dX10_standing_56 (by decide) ?_
        refine lv_iadd hx hb dX10_standing_57 ?_
        refine lv_istore_n (lv' := [(3, .int ((stU t d p i1) + 0)), (5, .int (tm t d p i1)), (0, .ref (a 0)), (1, .ref (a 4)), (2, .int (nI p)), (4, .int (nI i1))]) hx hb dX10_standing_58 rfl hl (by decide) rfl (fun ls hl => ?_)
        refine lv_iinc (v := nI (i1 + 1)) (lv' := [(4, .int (nI (i1 + 1))), (3, .int ((stU t d p i1) + 0)), (5, .int (tm t d p i1)), (0, .ref (a 0)), (1, .ref (a 4)), (2, .int (nI p))]) hx hb dX10_standing_59 hl (k := 5) rfl (by rw [show (nI i1 : Int32) = nI i1 from rfl]; exact nI_add _ 1) (by decide) rfl (fun ls hl => ?_)
        refine lv_goto (tgt := 5) hx hb dX10_standing_62 (by decide) ?_
        have e4 : (stU t d p i1) + 0 = stU t d p (i1 + 1) := by show _ = sumU _ _ + wrG _ _; simp [wrG, stU, cq1, cq2, cq3]
        exact ih5 _ (by omega) ⟨lv_sub hl [3, 4, 5, 1, 0] (by rw [← e4]; rfl), trivial⟩
      · skip
        refine lv_iconst (v := (-1)) hx hb dX10_standing_52 (by decide) ?_
        refine lv_goto (tgt := 57) hx hb dX10_standing_53 (by decide) ?_
        refine lv_iadd hx hb dX10_standing_57 ?_
        refine lv_istore_n (lv' := [(3, .int ((stU t d p i1) + (-1))), (5, .int (tm t d p i1)), (0, .ref (a 0)), (1, .ref (a 4)), (2, .int (nI p)), (4, .int (nI i1))]) hx hb dX10_standing_58 rfl hl (by decide) rfl (fun ls hl => ?_)
        refine lv_iinc (v := nI (i1 + 1)) (lv' := [(4, .int (nI (i1 + 1))), (3, .int ((stU t d p i1) + (-1))), (5, .int (tm t d p i1)), (0, .ref (a 0)), (1, .ref (a 4)), (2, .int (nI p))]) hx hb dX10_standing_59 hl (k := 5) rfl (by rw [show (nI i1 : Int32) = nI i1 from rfl]; exact nI_add _ 1) (by decide) rfl (fun ls hl => ?_)
        refine lv_goto (tgt := 5) hx hb dX10_standing_62 (by decide) ?_
        have e5 : (stU t d p i1) + (-1) = stU t d p (i1 + 1) := by show _ = sumU _ _ + wrG _ _; simp [wrG, stU, cq1, cq2, cq3]
        exact ih5 _ (by omega) ⟨lv_sub hl [3, 4, 5, 1, 0] (by rw [← e5]; rfl), trivial⟩
    · skip
      refine lv_aload_n hx hb dX10_standing_33 rfl (lv_at hl 1 rfl) ?_
      refine va_get (D := G.1) (ci := 10) (v := .ref (a 1)) (C := RX10) (T := TX10) (N := 25) hx hb hts k1 hown hK hP 0 rfl rfl 0 (by decide) k0 (fun _ h9 => h9) rfl dX10_standing_34 ?_
      refine lv_bipush (v := 17) hx hb dX10_standing_37 (by decide) ?_
      refine lv_iload hx hb dX10_standing_39 (lv_at hl 5 rfl) ?_
      refine n_iadd hx hb dX10_standing_41 (u := 17) (v := i1) rfl rfl (j := 17 + i1) (by omega) ?_
      refine n_iald hx hb hK hP 1 0 rfl rfl (j := 17 + i1) rfl (by omega) (by decide) dX10_standing_42 ?_
      refine lv_goto (tgt := 57) hx hb dX10_standing_43 (by decide) ?_
      refine lv_iadd hx hb dX10_standing_57 ?_
      refine lv_istore_n (lv' := [(3, .int ((stU t d p i1) + (t (17 + i1)))), (5, .int (tm t d p i1)), (0, .ref (a 0)), (1, .ref (a 4)), (2, .int (nI p)), (4, .int (nI i1))]) hx hb dX10_standing_58 rfl hl (by decide) rfl (fun ls hl => ?_)
      refine lv_iinc (v := nI (i1 + 1)) (lv' := [(4, .int (nI (i1 + 1))), (3, .int ((stU t d p i1) + (t (17 + i1)))), (5, .int (tm t d p i1)), (0, .ref (a 0)), (1, .ref (a 4)), (2, .int (nI p))]) hx hb dX10_standing_59 hl (k := 5) rfl (by rw [show (nI i1 : Int32) = nI i1 from rfl]; exact nI_add _ 1) (by decide) rfl (fun ls hl => ?_)
      refine lv_goto (tgt := 5) hx hb dX10_standing_62 (by decide) ?_
      have e6 : (stU t d p i1) + (t (17 + i1)) = stU t d p (i1 + 1) := by show _ = sumU _ _ + wrG _ _; simp [wrG, stU, cq1, cq2]
      exact ih5 _ (by omega) ⟨lv_sub hl [3, 4, 5, 1, 0] (by rw [← e6]; rfl), trivial⟩
set_option maxRecDepth 100000 in
set_option maxHeartbeats 4000000 in
theorem c_X10_sumOf_d (l : Launch) (G : gG) (a : Nat → Nat) (i : Nat → Int32) (j : Nat → Int32) (t : Nat → Int32) (r : Nat → Int32) (n : Nat → Int32) (d : Nat → Int32) (ps : Nat → Int32) (im : Nat → Int32) (kp : Nat → Int32) (tx : Nat → Int32) (cd : Nat → Int32) (bk : Nat → Int32) (py : Nat → Int32) (pt : Nat → Int32) (mt : Nat → Int32) (p : Nat) (hp : p < 8) : mR l yX10_sumOf wsX10_sumOf ({ frames := 0, cells := 0, slots := 0, locals := 0 }) G (mW G a i j t r n d ps im kp tx cd bk py pt mt) [.ref (a 0), .ref (a 4), .int (nI p)] (owU d p 4) := by
  refine mR.of (cc := cX10_sumOf) (maxL := 5) (ret := (some .int)) (by decide) rfl (Nat.le_of_ble_eq_true rfl) ?_
  intro zp ze zs zm zb zt zc ls C hP hK hl
  obtain ⟨hx, hb, hr, hml, hown, hts, hlk⟩ := id C
  have hl : lv_has ls 5 [(0, .ref (a 0)), (1, .ref (a 4)), (2, .int (nI p))] := hl
  refine lv_iconst (v := 0) hx hb dX10_sumOf_0 (by decide) ?_
  refine lv_istore_n (lv' := [(3, .int 0), (0, .ref (a 0)), (1, .ref (a 4)), (2, .int (nI p))]) hx hb dX10_sumOf_1 rfl hl (by decide) rfl (fun ls hl => ?_)
  refine lv_iconst (v := 0) hx hb dX10_sumOf_2 (by decide) ?_
  refine lv_istore (lv' := [(4, .int 0), (3, .int 0), (0, .ref (a 0)), (1, .ref (a 4)), (2, .int (nI p))]) hx hb dX10_sumOf_3 hl (by decide) rfl (fun ls hl => ?_)
  refine wl_R (B := 4) (i0 := 0) (Inv := fun i1 ls => lv_has ls 5 [(0, .ref (a 0)), (1, .ref (a 4)), (2, .int (nI p)), (3, .int (owU d p i1)), (4, .int (nI i1))] ∧ True) (by omega) ⟨lv_sub hl [2, 3, 4, 1, 0] (rfl), trivial⟩ ?_
  rintro i1 ls hle5 ⟨hl, -⟩ ih5
  refine lv_iload hx hb dX10_sumOf_5 (lv_at hl 4 rfl) ?_
  refine lv_iconst (v := 4) hx hb dX10_sumOf_7 (by decide) ?_
  refine n_icmp_ge (tgt := 30) hx hb dX10_sumOf_8 (by decide) (u := i1) (v := 4) rfl rfl (by omega) (by omega) (fun cq1 => ?_) (fun cq1 => ?_)
  · skip
    obtain rfl : i1 = 4 := by omega
    refine lv_iload_n hx hb dX10_sumOf_30 rfl (lv_at hl 3 rfl) ?_
    exact mR_iret C dX10_sumOf_31 (rfl)
  · skip
    refine lv_iload_n hx hb dX10_sumOf_11 rfl (lv_at hl 3 rfl) ?_
    refine lv_aload_n hx hb dX10_sumOf_12 rfl (lv_at hl 1 rfl) ?_
    refine lv_iconst (v := 0) hx hb dX10_sumOf_13 (by decide) ?_
    refine lv_iconst (v := 4) hx hb dX10_sumOf_14 (by decide) ?_
    refine lv_iload_n hx hb dX10_sumOf_15 rfl (lv_at hl 2 rfl) ?_
    refine n_imul hx hb dX10_sumOf_16 (u := 4) (v := p) rfl rfl (j := 4 * p) (by omega) ?_
    refine n_iadd hx hb dX10_sumOf_17 (u := 0) (v := 4 * p) rfl rfl (j := 4 * p) (by omega) ?_
    refine lv_iload hx hb dX10_sumOf_18 (lv_at hl 4 rfl) ?_
    refine n_iadd hx hb dX10_sumOf_20 (u := 4 * p) (v := i1) rfl rfl (j := (4 * p) + i1) (by omega) ?_
    refine n_iald hx hb hK hP 4 0 rfl rfl (j := (4 * p) + i1) rfl (by omega) (by decide) dX10_sumOf_21 ?_
    refine lv_iadd hx hb dX10_sumOf_22 ?_
    refine lv_istore_n (lv' := [(3, .int ((owU d p i1) + (d ((4 * p) + i1)))), (0, .ref (a 0)), (1, .ref (a 4)), (2, .int (nI p)), (4, .int (nI i1))]) hx hb dX10_sumOf_23 rfl hl (by decide) rfl (fun ls hl => ?_)
    refine lv_iinc (v := nI (i1 + 1)) (lv' := [(4, .int (nI (i1 + 1))), (3, .int ((owU d p i1) + (d ((4 * p) + i1)))), (0, .ref (a 0)), (1, .ref (a 4)), (2, .int (nI p))]) hx hb dX10_sumOf_24 hl (k := 4) rfl (by rw [show (nI i1 : Int32) = nI i1 from rfl]; exact nI_add _ 1) (by decide) rfl (fun ls hl => ?_)
    refine lv_goto (tgt := 5) hx hb dX10_sumOf_27 (by decide) ?_
    exact ih5 _ (by omega) ⟨lv_sub hl [2, 3, 4, 1, 0] (rfl), trivial⟩
theorem hd_X10_grows : yX10_grows.cls = RX10 ∧ yX10_grows.cls ≠ "java/lang/invoke/MethodHandle" ∧ yX10_grows.cls ≠ "java/lang/invoke/VarHandle" ∧ (parseMethodDescriptor yX10_grows.desc).map (fun d => d.parameters.length) = some 1 := by decide +kernel
set_option maxRecDepth 100000 in
set_option maxHeartbeats 4000000 in
theorem c_X10_grows (l : Launch) (G : gG) (a : Nat → Nat) (i : Nat → Int32) (j : Nat → Int32) (t : Nat → Int32) (r : Nat → Int32) (n : Nat → Int32) (d : Nat → Int32) (ps : Nat → Int32) (im : Nat → Int32) (kp : Nat → Int32) (tx : Nat → Int32) (cd : Nat → Int32) (bk : Nat → Int32) (py : Nat → Int32) (pt : Nat → Int32) (mt : Nat → Int32) (o : Int32) : mR l yX10_grows wsX10_grows ({ frames := 1, cells := 0, slots := 0, locals := 21 }) G (mW G a i j t r n d ps im kp tx cd bk py pt mt) [.ref (a 0), .int o] (growI o (t 1)) := by
  refine mR.of (cc := cX10_grows) (maxL := 2) (ret := (some .int)) (by decide) rfl (Nat.le_of_ble_eq_true rfl) ?_
  intro zp ze zs zm zb zt zc ls C hP hK hl
  obtain ⟨hx, hb, hr, hml, hown, hts, hlk⟩ := id C
  have hl : lv_has ls 2 [(0, .ref (a 0)), (1, .int o)] := hl
  have k0 := hts (.fieldLink RX10 7 "DebtDowryModel" "town" "[I") (by decide +kernel)
  have k1 := (fun w h => by revert w; decide +kernel : ∀ w ∈ wsX100, w ∈ wsX10_grows)
  refine lv_iload_n hx hb dX10_grows_0 rfl (lv_at hl 1 rfl) ?_
  refine lv_iload_n hx hb dX10_grows_1 rfl (lv_at hl 1 rfl) ?_
  refine lv_aload_n hx hb dX10_grows_2 rfl (lv_at hl 0 rfl) ?_
  refine va_get (D := G.1) (ci := 10) (v := .ref (a 1)) (C := RX10) (T := TX10) (N := 25) hx hb hts k1 hown hK hP 0 rfl rfl 0 (by decide) k0 (fun _ h9 => h9) rfl dX10_grows_3 ?_
  refine lv_iconst (v := 1) hx hb dX10_grows_6 (by decide) ?_
  refine n_iald hx hb hK hP 1 0 rfl rfl (j := 1) rfl (by decide) (by decide) dX10_grows_7 ?_
  refine lv_imul hx hb dX10_grows_8 ?_
  refine lv_bipush (v := 100) hx hb dX10_grows_9 (by decide) ?_
  refine lv_idiv hx hb dX10_grows_11 (by decide) ?_
  refine lv_iadd hx hb dX10_grows_12 ?_
  refine lv_sipush (v := 9999) hx hb dX10_grows_13 (by decide) ?_
  refine cR_S (n := 2) (As := [.int (o + ((o * (t 1)) / 100)), .int 9999]) (rest := []) C (c_X10_lesser l G    (o + ((o * (t 1)) / 100)) 9999 ) gX10_grows_X10_lesser rfl ⟨rfl, rfl⟩ hd_X10_lesser ⟨(Nat.le_of_ble_eq_true rfl), (Nat.le_of_ble_eq_true rfl)⟩ hK (hP.sub [] rfl) rfl hl.1 rfl (Nat.le_of_ble_eq_true rfl) dX10_grows_16 ⟨(Nat.le_of_ble_eq_true rfl), (Nat.le_of_ble_eq_true rfl)⟩ ?_
  exact mR_iret C dX10_grows_19 (rfl)
