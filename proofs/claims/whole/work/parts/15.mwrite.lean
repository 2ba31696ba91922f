theorem hd_X10_remember : yX10_remember.cls = RX10 ∧ yX10_remember.cls ≠ "java/lang/invoke/MethodHandle" ∧ yX10_remember.cls ≠ "java/lang/invoke/VarHandle" ∧ (parseMethodDescriptor yX10_remember.desc).map (fun d => d.parameters.length) = some 0 := by decide +kernel
set_option maxRecDepth 100000 in
set_option maxHeartbeats 4000000 in
theorem c_X10_remember (l : Launch) (G : gG) (a : Nat → Nat) (i : Nat → Int32) (j : Nat → Int32) (t : Nat → Int32) (r : Nat → Int32) (n : Nat → Int32) (d : Nat → Int32) (ps : Nat → Int32) (im : Nat → Int32) (kp : Nat → Int32) (tx : Nat → Int32) (cd : Nat → Int32) (bk : Nat → Int32) (py : Nat → Int32) (pt : Nat → Int32) (mt : Nat → Int32) (un : Nat) (hun : i 5 = nI un) (hul : un ≤ 30) : mX l yX10_remember wsX10_remember ({ frames := 1, cells := 0, slots := 0, locals := 25 }) G (mW G a i j t r n d ps im kp tx cd bk py pt mt) (mW G a (rmI i un) j t r n d (rmP n ps un) im kp tx cd bk py pt mt) [.ref (a 0)] (.returned none) := by
  refine mX.of (cc := cX10_remember) (maxL := 2) (ret := none) (by decide) rfl (Nat.le_of_ble_eq_true rfl) ?_
  intro zp ze zs zm zb zt zc ls A hAe C hP hK hD hS hl
  obtain ⟨hx, hb, hr, hml, hown, hts, hlk⟩ := id C
  have hl : lv_has ls 2 [(0, .ref (a 0))] := hl
  have k0 := hts (.fieldLink RX10 69 "DebtDowryModel" "undos" "I") (by decide +kernel)
  have k1 := (fun w h => by revert w; decide +kernel : ∀ w ∈ wsX100, w ∈ wsX10_remember)
  have k2 := hts (.fieldLink RX10 16 "DebtDowryModel" "now" "[I") (by decide +kernel)
  have k3 := hts (.fieldLink RX10 22 "DebtDowryModel" "past" "[I") (by decide +kernel)
  refine lv_aload_n hx hb dX10_remember_0 rfl (lv_at hl 0 rfl) ?_
  refine va_get (D := G.1) (ci := 10) (v := .int (i 5)) (C := RX10) (T := TX10) (N := 25) hx hb hts k1 hown hK hP 0 rfl rfl 5 (by decide) k0 (fun _ h9 => h9) rfl dX10_remember_1 ?_
  refine lv_bipush (v := 30) hx hb dX10_remember_4 (by decide) ?_
  refine n_icmp_ne (tgt := 49) hx hb dX10_remember_6 (by decide) (u := un) (v := 30) hun rfl (by omega) (by omega) (fun cq1 => ?_) (fun cq1 => ?_)
  · skip
    have hne : ¬ un = 30 := cq1
    refine lv_aload_n hx hb dX10_remember_49 rfl (lv_at hl 0 rfl) ?_
    refine va_get (D := G.1) (ci := 10) (v := .ref (a 3)) (C := RX10) (T := TX10) (N := 25) hx hb hts k1 hown hK hP 0 rfl rfl 2 (by decide) k2 (fun _ h9 => h9) rfl dX10_remember_50 ?_
    refine lv_iconst (v := 0) hx hb dX10_remember_53 (by decide) ?_
    refine lv_aload_n hx hb dX10_remember_54 rfl (lv_at hl 0 rfl) ?_
    refine va_get (D := G.1) (ci := 10) (v := .ref (a 5)) (C := RX10) (T := TX10) (N := 25) hx hb hts k1 hown hK hP 0 rfl rfl 4 (by decide) k3 (fun _ h9 => h9) rfl dX10_remember_55 ?_
    refine lv_bipush (v := 54) hx hb dX10_remember_58 (by decide) ?_
    refine lv_aload_n hx hb dX10_remember_60 rfl (lv_at hl 0 rfl) ?_
    refine va_get (D := G.1) (ci := 10) (v := .int (i 5)) (C := RX10) (T := TX10) (N := 25) hx hb hts k1 hown hK hP 0 rfl rfl 5 (by decide) k0 (fun _ h9 => h9) rfl dX10_remember_61 ?_
    refine n_imul hx hb dX10_remember_64 (u := 54) (v := un) rfl hun (j := 54 * un) (by omega) ?_
    refine lv_bipush (v := 54) hx hb dX10_remember_65 (by decide) ?_
    refine cX_S (n := 5) (As := [.ref (a 3), .int (nI 0), .ref (a 5), .int (nI (54 * un)), .int (nI 54)]) (rest := []) (wsn := mW G a i j t r n d (va_cpy n ps 0 (54 * un) 54) im kp tx cd bk py pt mt) C (c_X10_copies l G (a 3) (a 5) 54 1620 n ps  0 (54 * un) 54 (by omega) (by omega) (by decide)) gX10_remember_X10_copies rfl ⟨rfl, rfl⟩ hd_X10_copies ⟨(Nat.le_of_ble_eq_true rfl), (Nat.le_of_ble_eq_true rfl)⟩ hK hP hD hS [3, 5] (by decide) rfl (cpW_f.trans cpW_f.symm) rfl (mW_f.trans mW_f.symm) rfl hl.1 rfl (Nat.le_of_ble_eq_true rfl) dX10_remember_67 ⟨(Nat.le_of_ble_eq_true rfl), (Nat.le_of_ble_eq_true rfl)⟩ (fun H locs hP hD hS => ?_)
    refine lv_aload_n hx hb dX10_remember_70 rfl (lv_at hl 0 rfl) ?_
    refine lv_dup hx hb dX10_remember_71 rfl ?_
    refine va_get (D := G.1) (ci := 10) (v := .int (i 5)) (C := RX10) (T := TX10) (N := 25) hx hb hts k1 hown hK hP 0 rfl rfl 5 (by decide) k0 (fun _ h9 => h9) rfl dX10_remember_72 ?_
    refine lv_iconst (v := 1) hx hb dX10_remember_75 (by decide) ?_
    refine n_iadd hx hb dX10_remember_76 (u := un) (v := 1) hun rfl (j := un + 1) (by omega) ?_
    refine n_put (D := G.1) (wsn := mW G a (upd i 5 (nI (un + 1))) j t r n d (va_cpy n ps 0 (54 * un) 54) im kp tx cd bk py pt mt) (ci := 10) (v := .int (nI (un + 1))) (ty := .int) (C := RX10) (T := TX10) (N := 25) hx hb hts k1 tyX10 tyX10_ok nmX10 hown hK hP hD hS 0 rfl rfl 5 (by decide) k0 (fun _ h9 => h9) rfl (by decide +kernel) rfl rfl (Nat.le_of_ble_eq_true rfl) rfl dX10_remember_77 (fun H locs hP hD hS => ?_)
    have hP : va_P G.1 vwCl (mW G a (rmI i un) j t r n d (rmP n ps un) im kp tx cd bk py pt mt) H := by rw [show (rmI i un) = (upd i 5 (nI (un + 1))) from by first | exact (upd_upd _ _ _ _).symm | (unfold rmI rmU; rw [if_neg hne]), show (rmP n ps un) = (va_cpy n ps 0 (54 * un) 54) from by first | exact if_pos rfl | exact if_neg hne]; exact hP
    exact mX_vret hAe C hP hS dX10_remember_80
  · skip
    subst cq1
    refine lv_iconst (v := 0) hx hb dX10_remember_9 (by decide) ?_
    refine lv_istore_n (lv' := [(1, .int 0), (0, .ref (a 0))]) hx hb dX10_remember_10 rfl hl (by decide) rfl (fun ls hl => ?_)
    refine wl_X (B := 1566) (i0 := 0) (Inv := fun i1 H locs ls => va_P G.1 vwCl (mW G a i j t r n d (upto ps (fun k => ps (k + 54)) i1) im kp tx cd bk py pt mt) H ∧ va_D A (mW G a i j t r n d (upto ps (fun k => ps (k + 54)) i1) im kp tx cd bk py pt mt) ∧ va_S A zs.heap H locs ∧ lv_has ls 2 [(0, .ref (a 0)), (1, .int (nI i1))] ∧ True) (by omega) ⟨by rw [upto_0]; exact hP, by rw [upto_0]; exact hD, hS, lv_sub hl [1, 0] (rfl), trivial⟩ ?_
    rintro i1 H locs ls hle11 ⟨hP, hD, hS, hl, -⟩ ih11
    refine lv_iload_n hx hb dX10_remember_11 rfl (lv_at hl 1 rfl) ?_
    refine lv_sipush (v := 1566) hx hb dX10_remember_12 (by decide) ?_
    refine n_icmp_ge (tgt := 39) hx hb dX10_remember_15 (by decide) (u := i1) (v := 1566) rfl rfl (by omega) (by omega) (fun cq2 => ?_) (fun cq2 => ?_)
    · skip
      obtain rfl : i1 = 1566 := by omega
      refine lv_aload_n hx hb dX10_remember_39 rfl (lv_at hl 0 rfl) ?_
      refine lv_dup hx hb dX10_remember_40 rfl ?_
      refine va_get (D := G.1) (ci := 10) (v := .int (i 5)) (C := RX10) (T := TX10) (N := 25) hx hb hts k1 hown hK hP 0 rfl rfl 5 (by decide) k0 (fun _ h9 => h9) rfl dX10_remember_41 ?_
      refine lv_iconst (v := 1) hx hb dX10_remember_44 (by decide) ?_
      refine n_isub hx hb dX10_remember_45 (u := 30) (v := 1) hun rfl (by omega) (j := 29) (by omega) ?_
      refine n_put (D := G.1) (wsn := mW G a (upd i 5 (nI 29)) j t r n d (upto ps (fun k => ps (k + 54)) 1566) im kp tx cd bk py pt mt) (ci := 10) (v := .int (nI 29)) (ty := .int) (C := RX10) (T := TX10) (N := 25) hx hb hts k1 tyX10 tyX10_ok nmX10 hown hK hP hD hS 0 rfl rfl 5 (by decide) k0 (fun _ h9 => h9) rfl (by decide +kernel) rfl rfl (Nat.le_of_ble_eq_true rfl) rfl dX10_remember_46 (fun H locs hP hD hS => ?_)
      refine lv_aload_n hx hb dX10_remember_49 rfl (lv_at hl 0 rfl) ?_
      refine va_get (D := G.1) (ci := 10) (v := .ref (a 3)) (C := RX10) (T := TX10) (N := 25) hx hb hts k1 hown hK hP 0 rfl rfl 2 (by decide) k2 (fun _ h9 => h9) rfl dX10_remember_50 ?_
      refine lv_iconst (v := 0) hx hb dX10_remember_53 (by decide) ?_
      refine lv_aload_n hx hb dX10_remember_54 rfl (lv_at hl 0 rfl) ?_
      refine va_get (D := G.1) (ci := 10) (v := .ref (a 5)) (C := RX10) (T := TX10) (N := 25) hx hb hts k1 hown hK hP 0 rfl rfl 4 (by decide) k3 (fun _ h9 => h9) rfl dX10_remember_55 ?_
      refine lv_bipush (v := 54) hx hb dX10_remember_58 (by decide) ?_
      refine lv_aload_n hx hb dX10_remember_60 rfl (lv_at hl 0 rfl) ?_
      refine va_get (D := G.1) (ci := 10) (v := .int (nI 29)) (C := RX10) (T := TX10) (N := 25) hx hb hts k1 hown hK hP 0 rfl rfl 5 (by decide) k0 (fun _ h9 => h9) rfl dX10_remember_61 ?_
      refine n_imul hx hb dX10_remember_64 (u := 54) (v := 29) rfl rfl (j := 1566) (by omega) ?_
      refine lv_bipush (v := 54) hx hb dX10_remember_65 (by decide) ?_
      refine cX_S (n := 5) (As := [.ref (a 3), .int (nI 0), .ref (a 5), .int (nI 1566), .int (nI 54)]) (rest := []) (wsn := mW G a (upd i 5 (nI 29)) j t r n d (va_cpy n (upto ps (fun k => ps (k + 54)) 1566) 0 1566 54) im kp tx cd bk py pt mt) C (c_X10_copies l G (a 3) (a 5) 54 1620 n (upto ps (fun k => ps (k + 54)) 1566)  0 1566 54 (by omega) (by omega) (by decide)) gX10_remember_X10_copies rfl ⟨rfl, rfl⟩ hd_X10_copies ⟨(Nat.le_of_ble_eq_true rfl), (Nat.le_of_ble_eq_true rfl)⟩ hK hP hD hS [3, 5] (by decide) rfl (cpW_f.trans cpW_f.symm) rfl (mW_f.trans mW_f.symm) rfl hl.1 rfl (Nat.le_of_ble_eq_true rfl) dX10_remember_67 ⟨(Nat.le_of_ble_eq_true rfl), (Nat.le_of_ble_eq_true rfl)⟩ (fun H locs hP hD hS => ?_)
      refine lv_aload_n hx hb dX10_remember_70 rfl (lv_at hl 0 rfl) ?_
      refine lv_dup hx hb dX10_remember_71 rfl ?_
      refine va_get (D := G.1) (ci := 10) (v := .int (nI 29)) (C := RX10) (T := TX10) (N := 25) hx hb hts k1 hown hK hP 0 rfl rfl 5 (by decide) k0 (fun _ h9 => h9) rfl dX10_remember_72 ?_
      refine lv_iconst (v := 1) hx hb dX10_remember_75 (by decide) ?_
      refine n_iadd hx hb dX10_remember_76 (u := 29) (v := 1) rfl rfl (j := 30) (by omega) ?_
      refine n_put (D := G.1) (wsn := mW G a (upd (upd i 5 (nI 29)) 5 (nI 30)) j t r n d (va_cpy n (upto ps (fun k => ps (k + 54)) 1566) 0 1566 54) im kp tx cd bk py pt mt) (ci := 10) (v := .int (nI 30)) (ty := .int) (C := RX10) (T := TX10) (N := 25) hx hb hts k1 tyX10 tyX10_ok nmX10 hown hK hP hD hS 0 rfl rfl 5 (by decide) k0 (fun _ h9 => h9) rfl (by decide +kernel) rfl rfl (Nat.le_of_ble_eq_true rfl) rfl dX10_remember_77 (fun H locs hP hD hS => ?_)
      have hP : va_P G.1 vwCl (mW G a (rmI i 30) j t r n d (rmP n ps 30) im kp tx cd bk py pt mt) H := by rw [show (rmI i 30) = (upd (upd i 5 (nI 29)) 5 (nI 30)) from by first | exact (upd_upd _ _ _ _).symm | (unfold rmI rmU; rw [if_neg hne]), show (rmP n ps 30) = (va_cpy n (upto ps (fun k => ps (k + 54)) 1566) 0 1566 54) from by first | exact if_pos rfl | exact if_neg hne]; exact hP
      exact mX_vret hAe C hP hS dX10_remember_80
    · skip
      refine lv_aload_n hx hb dX10_remember_18 rfl (lv_at hl 0 rfl) ?_
      refine va_get (D := G.1) (ci := 10) (v := .ref (a 5)) (C := RX10) (T := TX10) (N := 25) hx hb hts k1 hown hK hP 0 rfl rfl 4 (by decide) k3 (fun _ h9 => h9) rfl dX10_remember_19 ?_
      refine lv_iload_n hx hb dX10_remember_22 rfl (lv_at hl 1 rfl) ?_
      refine lv_aload_n hx hb dX10_remember_23 rfl (lv_at hl 0 rfl) ?_
      refine va_get (D := G.1) (ci := 10) (v := .ref (a 5)) (C := RX10) (T := TX10) (N := 25) hx hb hts k1 hown hK hP 0 rfl rfl 4 (by decide) k3 (fun _ h9 => h9) rfl dX10_remember_24 ?_
      refine lv_iload_n hx hb dX10_remember_27 rfl (lv_at hl 1 rfl) ?_
      refine lv_bipush (v := 54) hx hb dX10_remember_28 (by decide) ?_
      refine n_iadd hx hb dX10_remember_30 (u := i1) (v := 54) rfl rfl (j := i1 + 54) (by omega) ?_
      refine n_iald hx hb hK hP 5 0 rfl rfl (j := i1 + 54) rfl (by omega) (by decide) dX10_remember_31 ?_
      refine n_iast hx hb hK hP hD hS 5 0 rfl rfl (x := ((upto ps (fun k => ps (k + 54)) i1) (i1 + 54))) (j := i1) rfl (by omega) (by decide) dX10_remember_32 (wsn := mW G a i j t r n d (upd (upto ps (fun k => ps (k + 54)) i1) i1 ((upto ps (fun k => ps (k + 54)) i1) (i1 + 54))) im kp tx cd bk py pt mt) rfl (fun H locs hP hD hS => ?_)
      refine lv_iinc (v := nI (i1 + 1)) (lv' := [(1, .int (nI (i1 + 1))), (0, .ref (a 0))]) hx hb dX10_remember_33 hl (k := 1) rfl (by rw [show (nI i1 : Int32) = nI i1 from rfl]; exact nI_add _ 1) (by decide) rfl (fun ls hl => ?_)
      refine lv_goto (tgt := 11) hx hb dX10_remember_36 (by decide) ?_
      have e3 : (upd (upto ps (fun k => ps (k + 54)) i1) i1 ((upto ps (fun k => ps (k + 54)) i1) (i1 + 54))) = upto ps (fun k => ps (k + 54)) (i1 + 1) := upto_v (upto_at _ _ (by omega))
      rw [e3] at hP hD
      exact ih11 _ _ _ (by omega) ⟨hP, hD, hS, lv_sub hl [1, 0] (rfl), trivial⟩
theorem hd_X10_isWedMan : yX10_isWedMan.cls = RX10 ∧ yX10_isWedMan.cls ≠ "java/lang/invoke/MethodHandle" ∧ yX10_isWedMan.cls ≠ "java/lang/invoke/VarHandle" ∧ (parseMethodDescriptor yX10_isWedMan.desc).map (fun d => d.parameters.length) = some 1 := by decide +kernel
set_option maxRecDepth 100000 in
set_option maxHeartbeats 4000000 in
theorem c_X10_isWedMan (l : Launch) (G : gG) (a : Nat → Nat) (i : Nat → Int32) (j : Nat → Int32) (t : Nat → Int32) (r : Nat → Int32) (n : Nat → Int32) (d : Nat → Int32) (ps : Nat → Int32) (im : Nat → Int32) (kp : Nat → Int32) (tx : Nat → Int32) (cd : Nat → Int32) (bk : Nat → Int32) (py : Nat → Int32) (pt : Nat → Int32) (mt : Nat → Int32) (nc : Nat) (np : Nat) (p : Nat) (hT : tw t nc np) (hp : p < np) : mR l yX10_isWedMan wsX10_isWedMan ({ frames := 3, cells := 0, slots := 0, locals := 67 }) G (mW G a i j t r n d ps im kp tx cd bk py pt mt) [.ref (a 0), .int (nI p)] (bI (¬ hasB (t 21) p ∧ ¬ n (44 + p) = -1)) := by
  refine mR.of (cc := cX10_isWedMan) (maxL := 2) (ret := (some .boolean)) (by decide) rfl (Nat.le_of_ble_eq_true rfl) ?_
  intro zp ze zs zm zb zt zc ls C hP hK hl
  obtain ⟨hx, hb, hr, hml, hown, hts, hlk⟩ := id C
  have hl : lv_has ls 2 [(0, .ref (a 0)), (1, .int (nI p))] := hl
  have hT2 := hT.2.2
  have hin := inB_of hT.2.1 (by omega) hp
  have k0 := hts (.fieldLink RX10 16 "DebtDowryModel" "now" "[I") (by decide +kernel)
  have k1 := (fun w h => by revert w; decide +kernel : ∀ w ∈ wsX100, w ∈ wsX10_isWedMan)
  refine lv_aload_n hx hb dX10_isWedMan_0 rfl (lv_at hl 0 rfl) ?_
  refine lv_iload_n hx hb dX10_isWedMan_1 rfl (lv_at hl 1 rfl) ?_
  refine cR_V (Cn := RX10) (n := 1) (As := [.int (nI p)]) (rest := []) C (c_X10_isMan l G a i j t r n d ps im kp tx cd bk py pt mt  (nI p) ) gX10_isWedMan_X10_isMan rfl ⟨rfl, rfl⟩ hd_X10_isMan ⟨(Nat.le_of_ble_eq_true rfl), (Nat.le_of_ble_eq_true rfl)⟩ hK hP (va_recv hK hP (ci := 10) (q0 := 0) rfl rfl) rfl hl.1 rfl (Nat.le_of_ble_eq_true rfl) dX10_isWedMan_2 ⟨(Nat.le_of_ble_eq_true rfl), (Nat.le_of_ble_eq_true rfl)⟩ ?_
  refine b_if_eq (tgt := 25) hx hb dX10_isWedMan_5 (by decide) (fun cq1 => ?_) (fun cq1 => ?_)
  · skip
    refine lv_iconst (v := 0) hx hb dX10_isWedMan_25 (by decide) ?_
    exact mR_zret C dX10_isWedMan_26 (by decide) ((bI_f (fun h => cq1 ⟨hin, h.1⟩)).symm)
  · skip
    refine lv_aload_n hx hb dX10_isWedMan_8 rfl (lv_at hl 0 rfl) ?_
    refine va_get (D := G.1) (ci := 10) (v := .ref (a 3)) (C := RX10) (T := TX10) (N := 25) hx hb hts k1 hown hK hP 0 rfl rfl 2 (by decide) k0 (fun _ h9 => h9) rfl dX10_isWedMan_9 ?_
    refine lv_bipush (v := 44) hx hb dX10_isWedMan_12 (by decide) ?_
    refine lv_iload_n hx hb dX10_isWedMan_14 rfl (lv_at hl 1 rfl) ?_
    refine n_iadd hx hb dX10_isWedMan_15 (u := 44) (v := p) rfl rfl (j := 44 + p) (by omega) ?_
    refine n_iald hx hb hK hP 3 0 rfl rfl (j := 44 + p) rfl (by omega) (by decide) dX10_isWedMan_16 ?_
    refine lv_iconst (v := (-1)) hx hb dX10_isWedMan_17 (by decide) ?_
    refine lv_icmp_eq (tgt := 25) hx hb dX10_isWedMan_18 (by decide) (fun cq2 => ?_) (fun cq2 => ?_)
    · skip
      refine lv_iconst (v := 0) hx hb dX10_isWedMan_25 (by decide) ?_
      exact mR_zret C dX10_isWedMan_26 (by decide) ((bI_f (fun h => h.2 cq2)).symm)
    · skip
      refine lv_iconst (v := 1) hx hb dX10_isWedMan_21 (by decide) ?_
      refine lv_goto (tgt := 26) hx hb dX10_isWedMan_22 (by decide) ?_
      exact mR_zret C dX10_isWedMan_26 (by decide) ((bI_t ⟨cq1.2, cq2⟩).symm)
theorem hd_X10_mayBorrow : yX10_mayBorrow.cls = RX10 ∧ yX10_mayBorrow.cls ≠ "java/lang/invoke/MethodHandle" ∧ yX10_mayBorrow.cls ≠ "java/lang/invoke/VarHandle" ∧ (parseMethodDescriptor yX10_mayBorrow.desc).map (fun d => d.parameters.length) = some 3 := by decide +kernel
set_option maxRecDepth 100000 in
set_option maxHeartbeats 4000000 in
theorem c_X10_mayBorrow (l : Launch) (G : gG) (a : Nat → Nat) (i : Nat → Int32) (j : Nat → Int32) (t : Nat → Int32) (r : Nat → Int32) (n : Nat → Int32) (d : Nat → Int32) (ps : Nat → Int32) (im : Nat → Int32) (kp : Nat → Int32) (tx : Nat → Int32) (cd : Nat → Int32) (bk : Nat → Int32) (py : Nat → Int32) (pt : Nat → Int32) (mt : Nat → Int32) (nc : Nat) (np : Nat) (p : Nat) (c : Nat) (k : Int32) (hT : tw t nc np) (hp : p < np) (hc : c < 4) : mR l yX10_mayBorrow wsX10_mayBorrow ({ frames := 4, cells := 0, slots := 0, locals := 88 }) G (mW G a i j t r n d ps im kp tx cd bk py pt mt) [.ref (a 0), .int (nI p), .int (nI c), .int k] (bI (mayB t n p c k)) := by
  refine mR.of (cc := cX10_mayBorrow) (maxL := 4) (ret := (some .boolean)) (by decide) rfl (Nat.le_of_ble_eq_true rfl) ?_
  intro zp ze zs zm zb zt zc ls C hP hK hl
  obtain ⟨hx, hb, hr, hml, hown, hts, hlk⟩ := id C
  have hl : lv_has ls 4 [(0, .ref (a 0)), (1, .int (nI p)), (2, .int (nI c)), (3, .int k)] := hl
  have hT2 := hT.2.2
  have k0 := hts (.fieldLink RX10 16 "DebtDowryModel" "now" "[I") (by decide +kernel)
  have k1 := (fun w h => by revert w; decide +kernel : ∀ w ∈ wsX100, w ∈ wsX10_mayBorrow)
  refine lv_aload_n hx hb dX10_mayBorrow_0 rfl (lv_at hl 0 rfl) ?_
  refine lv_iload_n hx hb dX10_mayBorrow_1 rfl (lv_at hl 1 rfl) ?_
  refine cR_V (Cn := RX10) (n := 1) (As := [.int (nI p)]) (rest := []) C (c_X10_isWedMan l G a i j t r n d ps im kp tx cd bk py pt mt nc np p hT (by omega)) gX10_mayBorrow_X10_isWedMan rfl ⟨rfl, rfl⟩ hd_X10_isWedMan ⟨(Nat.le_of_ble_eq_true rfl), (Nat.le_of_ble_eq_true rfl)⟩ hK hP (va_recv hK hP (ci := 10) (q0 := 0) rfl rfl) rfl hl.1 rfl (Nat.le_of_ble_eq_true rfl) dX10_mayBorrow_2 ⟨(Nat.le_of_ble_eq_true rfl), (Nat.le_of_ble_eq_true rfl)⟩ ?_
  refine b_if_ne (tgt := 39) hx hb dX10_mayBorrow_5 (by decide) (fun cq1 => ?_) (fun cq1 => ?_)
  · skip
    refine lv_iconst (v := 0) hx hb dX10_mayBorrow_39 (by decide) ?_
    exact mR_zret C dX10_mayBorrow_40 (by decide) ((bI_f (fun h => h.1 cq1)).symm)
  · skip
    refine lv_aload_n hx hb dX10_mayBorrow_8 rfl (lv_at hl 0 rfl) ?_
    refine va_get (D := G.1) (ci := 10) (v := .ref (a 3)) (C := RX10) (T := TX10) (N := 25) hx hb hts k1 hown hK hP 0 rfl rfl 2 (by decide) k0 (fun _ h9 => h9) rfl dX10_mayBorrow_9 ?_
    refine lv_bipush (v := 52) hx hb dX10_mayBorrow_12 (by decide) ?_
    refine n_iald hx hb hK hP 3 0 rfl rfl (j := 52) rfl (by decide) (by decide) dX10_mayBorrow_14 ?_
    refine lv_iload_n hx hb dX10_mayBorrow_15 rfl (lv_at hl 2 rfl) ?_
    refine cR_S (n := 2) (As := [.int (n 52), .int (nI c)]) (rest := []) C (c_X10_has l G    (n 52) c ) gX10_mayBorrow_X10_has rfl ⟨rfl, rfl⟩ hd_X10_has ⟨(Nat.le_of_ble_eq_true rfl), (Nat.le_of_ble_eq_true rfl)⟩ hK (hP.sub [] rfl) rfl hl.1 rfl (Nat.le_of_ble_eq_true rfl) dX10_mayBorrow_16 ⟨(Nat.le_of_ble_eq_true rfl), (Nat.le_of_ble_eq_true rfl)⟩ ?_
    refine b_if_ne (tgt := 39) hx hb dX10_mayBorrow_19 (by decide) (fun cq2 => ?_) (fun cq2 => ?_)
    · skip
      refine lv_iconst (v := 0) hx hb dX10_mayBorrow_39 (by decide) ?_
      exact mR_zret C dX10_mayBorrow_40 (by decide) ((bI_f (fun h => h.2.1 cq2)).symm)
    · skip
      refine lv_aload_n hx hb dX10_mayBorrow_22 rfl (lv_at hl 0 rfl) ?_
      refine va_get (D := G.1) (ci := 10) (v := .ref (a 3)) (C := RX10) (T := TX10) (N := 25) hx hb hts k1 hown hK hP 0 rfl rfl 2 (by decide) k0 (fun _ h9 => h9) rfl dX10_mayBorrow_23 ?_
      refine lv_bipush (v := 32) hx hb dX10_mayBorrow_26 (by decide) ?_
      refine lv_iload_n hx hb dX10_mayBorrow_28 rfl (lv_at hl 2 rfl) ?_
      refine n_iadd hx hb dX10_mayBorrow_29 (u := 32) (v := c) rfl rfl (j := 32 + c) (by omega) ?_
      refine n_iald hx hb hK hP 3 0 rfl rfl (j := 32 + c) rfl (by omega) (by decide) dX10_mayBorrow_30 ?_
      refine lv_iload_n hx hb dX10_mayBorrow_31 rfl (lv_at hl 3 rfl) ?_
      refine lv_icmp_lt (tgt := 39) hx hb dX10_mayBorrow_32 (by decide) (fun cq3 => ?_) (fun cq3 => ?_)
      · skip
        refine lv_iconst (v := 0) hx hb dX10_mayBorrow_39 (by decide) ?_
        exact mR_zret C dX10_mayBorrow_40 (by decide) ((bI_f (fun h => i32_nle.mpr cq3 h.2.2)).symm)
      · skip
        refine lv_iconst (v := 1) hx hb dX10_mayBorrow_35 (by decide) ?_
        refine lv_goto (tgt := 40) hx hb dX10_mayBorrow_36 (by decide) ?_
        exact mR_zret C dX10_mayBorrow_40 (by decide) ((bI_t ⟨cq1, cq2, i32_nlt.mp cq3⟩).symm)
theorem hd_X10_borrows : yX10_borrows.cls = RX10 ∧ yX10_borrows.cls ≠ "java/lang/invoke/MethodHandle" ∧ yX10_borrows.cls ≠ "java/lang/invoke/VarHandle" ∧ (parseMethodDescriptor yX10_borrows.desc).map (fun d => d.parameters.length) = some 3 := by decide +kernel
set_option maxRecDepth 100000 in
set_option maxHeartbeats 4000000 in
theorem c_X10_borrows (l : Launch) (G : gG) (a : Nat → Nat) (i : Nat → Int32) (j : Nat → Int32) (t : Nat → Int32) (r : Nat → Int32) (n : Nat → Int32) (d : Nat → Int32) (ps : Nat → Int32) (im : Nat → Int32) (kp : Nat → Int32) (tx : Nat → Int32) (cd : Nat → Int32) (bk : Nat → Int32) (py : Nat → Int32) (pt : Nat → Int32) (mt : Nat → Int32) (p : Nat) (c : Nat) (k : Int32) (hp : p < 8) (hc : c < 4) : mX l yX10_borrows wsX10_borrows ({ frames := 1, cells := 0, slots := 0, locals := 21 }) G (mW G a i j t r n d ps im kp tx cd bk py pt mt) (mW G a i j t r (borF n p c k) d ps im kp tx cd bk py pt mt) [.ref (a 0), .int (nI p), .int (nI c), .int k] (.returned none) := by
  refine mX.of (cc := cX10_borrows) (maxL := 4) (ret := none) (by decide) rfl (Nat.le_of_ble_eq_true rfl) ?_
  intro zp ze zs zm zb zt zc ls A hAe C hP hK hD hS hl
  obtain ⟨hx, hb, hr, hml, hown, hts, hlk⟩ := id C
  have hl : lv_has ls 4 [(0, .ref (a 0)), (1, .int (nI p)), (2, .int (nI c)), (3, .int k)] := hl
  have k0 := hts (.fieldLink RX10 16 "DebtDowryModel" "now" "[I") (by decide +kernel)
  have k1 := (fun w h => by revert w; decide +kernel : ∀ w ∈ wsX100, w ∈ wsX10_borrows)
  refine lv_aload_n hx hb dX10_borrows_0 rfl (lv_at hl 0 rfl) ?_
  refine va_get (D := G.1) (ci := 10) (v := .ref (a 3)) (C := RX10) (T := TX10) (N := 25) hx hb hts k1 hown hK hP 0 rfl rfl 2 (by decide) k0 (fun _ h9 => h9) rfl dX10_borrows_1 ?_
  refine lv_iconst (v := 0) hx hb dX10_borrows_4 (by decide) ?_
  refine lv_iconst (v := 4) hx hb dX10_borrows_5 (by decide) ?_
  refine lv_iload_n hx hb dX10_borrows_6 rfl (lv_at hl 1 rfl) ?_
  refine n_imul hx hb dX10_borrows_7 (u := 4) (v := p) rfl rfl (j := 4 * p) (by omega) ?_
  refine n_iadd hx hb dX10_borrows_8 (u := 0) (v := 4 * p) rfl rfl (j := 4 * p) (by omega) ?_
  refine lv_iload_n hx hb dX10_borrows_9 rfl (lv_at hl 2 rfl) ?_
  refine n_iadd hx hb dX10_borrows_10 (u := 4 * p) (v := c) rfl rfl (j := (4 * p) + c) (by omega) ?_
  refine lv_aload_n hx hb dX10_borrows_11 rfl (lv_at hl 0 rfl) ?_
  refine va_get (D := G.1) (ci := 10) (v := .ref (a 3)) (C := RX10) (T := TX10) (N := 25) hx hb hts k1 hown hK hP 0 rfl rfl 2 (by decide) k0 (fun _ h9 => h9) rfl dX10_borrows_12 ?_
  refine lv_iconst (v := 0) hx hb dX10_borrows_15 (by decide) ?_
  refine lv_iconst (v := 4) hx hb dX10_borrows_16 (by decide) ?_
  refine lv_iload_n hx hb dX10_borrows_17 rfl (lv_at hl 1 rfl) ?_
  refine n_imul hx hb dX10_borrows_18 (u := 4) (v := p) rfl rfl (j := 4 * p) (by omega) ?_
  refine n_iadd hx hb dX10_borrows_19 (u := 0) (v := 4 * p) rfl rfl (j := 4 * p) (by omega) ?_
  refine lv_iload_n hx hb dX10_borrows_20 rfl (lv_at hl 2 rfl) ?_
  refine n_iadd hx hb dX10_borrows_21 (u := 4 * p) (v := c) rfl rfl (j := (4 * p) + c) (by omega) ?_
  refine n_iald hx hb hK hP 3 0 rfl rfl (j := (4 * p) + c) rfl (by omega) (by decide) dX10_borrows_22 ?_
  refine lv_iload_n hx hb dX10_borrows_23 rfl (lv_at hl 3 rfl) ?_
  refine lv_iadd hx hb dX10_borrows_24 ?_
  refine lv_sipush (v := 9999) hx hb dX10_borrows_25 (by decide) ?_
  refine cR_S (n := 2) (As := [.int ((n ((4 * p) + c)) + k), .int 9999]) (rest := [.int (nI ((4 * p) + c)), .ref (a 3)]) C (c_X10_lesser l G    ((n ((4 * p) + c)) + k) 9999 ) gX10_borrows_X10_lesser rfl ⟨rfl, rfl⟩ hd_X10_lesser ⟨(Nat.le_of_ble_eq_true rfl), (Nat.le_of_ble_eq_true rfl)⟩ hK (hP.sub [] rfl) rfl hl.1 rfl (Nat.le_of_ble_eq_true rfl) dX10_borrows_28 ⟨(Nat.le_of_ble_eq_true rfl), (Nat.le_of_ble_eq_true rfl)⟩ ?_
  refine n_iast hx hb hK hP hD hS 3 0 rfl rfl (x := (lessI ((n ((4 * p) + c)) + k) 9999)) (j := (4 * p) + c) rfl (by omega) (by decide) dX10_borrows_31 (wsn := mW G a i j t r (upd n ((4 * p) + c) (lessI ((n ((4 * p) + c)) + k) 9999)) d ps im kp tx cd bk py pt mt) rfl (fun H locs hP hD hS => ?_)
  refine lv_aload_n hx hb dX10_borrows_32 rfl (lv_at hl 0 rfl) ?_
  refine va_get (D := G.1) (ci := 10) (v := .ref (a 3)) (C := RX10) (T := TX10) (N := 25) hx hb hts k1 hown hK hP 0 rfl rfl 2 (by decide) k0 (fun _ h9 => h9) rfl dX10_borrows_33 ?_
  refine lv_bipush (v := 32) hx hb dX10_borrows_36 (by decide) ?_
  refine lv_iload_n hx hb dX10_borrows_38 rfl (lv_at hl 2 rfl) ?_
  refine n_iadd hx hb dX10_borrows_39 (u := 32) (v := c) rfl rfl (j := 32 + c) (by omega) ?_
  refine lv_dup2_11 hx hb dX10_borrows_40 rfl rfl ?_
  refine n_iald hx hb hK hP 3 0 rfl rfl (j := 32 + c) rfl (by omega) (by decide) dX10_borrows_41 ?_
  refine lv_iload_n hx hb dX10_borrows_42 rfl (lv_at hl 3 rfl) ?_
  refine lv_isub hx hb dX10_borrows_43 ?_
  refine n_iast hx hb hK hP hD hS 3 0 rfl rfl (x := (((upd n ((4 * p) + c) (lessI ((n ((4 * p) + c)) + k) 9999)) (32 + c)) - k)) (j := 32 + c) rfl (by omega) (by decide) dX10_borrows_44 (wsn := mW G a i j t r (upd (upd n ((4 * p) + c) (lessI ((n ((4 * p) + c)) + k) 9999)) (32 + c) (((upd n ((4 * p) + c) (lessI ((n ((4 * p) + c)) + k) 9999)) (32 + c)) - k)) d ps im kp tx cd bk py pt mt) rfl (fun H locs hP hD hS => ?_)
  have hP : va_P G.1 vwCl (mW G a i j t r (borF n p c k) d ps im kp tx cd bk py pt mt) H := by rw [show (borF n p c k) = (upd (upd n ((4 * p) + c) (lessI ((n ((4 * p) + c)) + k) 9999)) (32 + c) (((upd n ((4 * p) + c) (lessI ((n ((4 * p) + c)) + k) 9999)) (32 + c)) - k)) from rfl]; exact hP
  exact mX_vret hAe C hP hS dX10_borrows_45
theorem hd_X10_borrow : yX10_borrow.cls = RX10 ∧ yX10_borrow.cls ≠ "java/lang/invoke/MethodHandle" ∧ yX10_borrow.cls ≠ "java/lang/invoke/VarHandle" ∧ (parseMethodDescriptor yX10_borrow.desc).map (fun d => d.parameters.length) = some 3 := by decide +kernel
set_option maxRecDepth 100000 in
set_option maxHeartbeats 4000000 in
theorem c_X10_borrow (l : Launch) (G : gG) (a : Nat → Nat) (i : Nat → Int32) (j : Nat → Int32) (t : Nat → Int32) (r : Nat → Int32) (n : Nat → Int32) (d : Nat → Int32) (ps : Nat → Int32) (im : Nat → Int32) (kp : Nat → Int32) (tx : Nat → Int32) (cd : Nat → Int32) (bk : Nat → Int32) (py : Nat → Int32) (pt : Nat → Int32) (mt : Nat → Int32) (nc : Nat) (np : Nat) (un : Nat) (p : Int32) (c : Int32) (k : Int32) (hT : tw t nc np) (hun : i 5 = nI un) (hul : un ≤ 30) : mX l yX10_borrow wsX10_borrow ({ frames := 5, cells := 0, slots := 0, locals := 111 }) G (mW G a i j t r n d ps im kp tx cd bk py pt mt) (mW G a (if okBor t n p c k then rmI i un else i) j t r (if okBor t n p c k then borF n (cl p) (cl c) k else n) d (if okBor t n p c k then rmP n ps un else ps) im kp tx cd bk py pt mt) [.ref (a 0), .int p, .int c, .int k] (.returned (some (.int (borR t n p c k)))) := by
  refine mX.of (cc := cX10_borrow) (maxL := 4) (ret := (some .int)) (by decide) rfl (Nat.le_of_ble_eq_true rfl) ?_
  intro zp ze zs zm zb zt zc ls A hAe C hP hK hD hS hl
  obtain ⟨hx, hb, hr, hml, hown, hts, hlk⟩ := id C
  have hl : lv_has ls 4 [(0, .ref (a 0)), (1, .int p), (2, .int c), (3, .int k)] := hl
  have hT2 := hT.2.2
  have k0 := hts (.constant RX10 175 (-1000000001)) (by decide +kernel)
  have k1 := hts (.constantLong RX10 188 (999)) (by decide +kernel)
  have k2 := hts (.fieldLink RX10 16 "DebtDowryModel" "now" "[I") (by decide +kernel)
  have k3 := (fun w h => by revert w; decide +kernel : ∀ w ∈ wsX100, w ∈ wsX10_borrow)
  have k4 := hts (.constant RX10 193 (-1000000003)) (by decide +kernel)
  have k5 := hts (.constant RX10 80 (-1000000002)) (by decide +kernel)
  refine lv_aload_n hx hb dX10_borrow_0 rfl (lv_at hl 0 rfl) ?_
  refine lv_iload_n hx hb dX10_borrow_1 rfl (lv_at hl 1 rfl) ?_
  refine cR_V (Cn := RX10) (n := 1) (As := [.int p]) (rest := []) C (c_X10_isPerson l G a i j t r n d ps im kp tx cd bk py pt mt  p ) gX10_borrow_X10_isPerson rfl ⟨rfl, rfl⟩ hd_X10_isPerson ⟨(Nat.le_of_ble_eq_true rfl), (Nat.le_of_ble_eq_true rfl)⟩ hK hP (va_recv hK hP (ci := 10) (q0 := 0) rfl rfl) rfl hl.1 rfl (Nat.le_of_ble_eq_true rfl) dX10_borrow_2 ⟨(Nat.le_of_ble_eq_true rfl), (Nat.le_of_ble_eq_true rfl)⟩ ?_
  refine b_if_eq (tgt := 16) hx hb dX10_borrow_5 (by decide) (fun cq1 => ?_) (fun cq1 => ?_)
  · skip
    refine lv_ldc hx hb hown k0 dX10_borrow_16 ?_
    have hP : va_P G.1 vwCl (mW G a (if okBor t n p c k then rmI i un else i) j t r (if okBor t n p c k then borF n (cl p) (cl c) k else n) d (if okBor t n p c k then rmP n ps un else ps) im kp tx cd bk py pt mt) zs.heap := by rw [show (if okBor t n p c k then rmI i un else i) = i from by first | rfl | simp [okBor, cq1], show (if okBor t n p c k then borF n (cl p) (cl c) k else n) = n from by first | rfl | simp [okBor, cq1], show (if okBor t n p c k then rmP n ps un else ps) = ps from by first | rfl | simp [okBor, cq1]]; exact hP
    exact mX_iret hAe C hP hS dX10_borrow_18 (by simp only [borR]; rw [if_pos (by simp only [cq1, false_and, and_false, not_false_eq_true])])
  · skip
    obtain ⟨pp, hpp, rfl⟩ := inB_nat hT.2.1 (by omega) cq1
    have hcl_pp := cl_nI (n := pp) (by omega)
    refine lv_aload_n hx hb dX10_borrow_8 rfl (lv_at hl 0 rfl) ?_
    refine lv_iload_n hx hb dX10_borrow_9 rfl (lv_at hl 2 rfl) ?_
    refine cR_V (Cn := RX10) (n := 1) (As := [.int c]) (rest := []) C (c_X10_isCreditor l G a i j t r n d ps im kp tx cd bk py pt mt  c ) gX10_borrow_X10_isCreditor rfl ⟨rfl, rfl⟩ hd_X10_isCreditor ⟨(Nat.le_of_ble_eq_true rfl), (Nat.le_of_ble_eq_true rfl)⟩ hK hP (va_recv hK hP (ci := 10) (q0 := 0) rfl rfl) rfl hl.1 rfl (Nat.le_of_ble_eq_true rfl) dX10_borrow_10 ⟨(Nat.le_of_ble_eq_true rfl), (Nat.le_of_ble_eq_true rfl)⟩ ?_
    refine b_if_ne (tgt := 19) hx hb dX10_borrow_13 (by decide) (fun cq2 => ?_) (fun cq2 => ?_)
    · skip
      obtain ⟨cc, hcc, rfl⟩ := inB_nat hT.1 (by omega) cq2
      have hcl_cc := cl_nI (n := cc) (by omega)
      refine lv_iload_n hx hb dX10_borrow_19 rfl (lv_at hl 3 rfl) ?_
      refine lv_i2l (v := k.toInt64) hx hb dX10_borrow_20 rfl ?_
      refine lv_lconst (v := 1) hx hb dX10_borrow_21 (by decide) ?_
      refine lv_ldc2 hx hb hown k1 dX10_borrow_22 ?_
      refine cR_S (n := 3) (As := [.long k.toInt64, .long 1, .long 999]) (rest := []) C (c_X10_in l G    k k.toInt64 rfl 1 1 rfl 999 999 rfl ) gX10_borrow_X10_in rfl ⟨rfl, rfl⟩ hd_X10_in ⟨(Nat.le_of_ble_eq_true rfl), (Nat.le_of_ble_eq_true rfl)⟩ hK (hP.sub [] rfl) rfl hl.1 rfl (Nat.le_of_ble_eq_true rfl) dX10_borrow_25 ⟨(Nat.le_of_ble_eq_true rfl), (Nat.le_of_ble_eq_true rfl)⟩ ?_
      refine b_if_ne (tgt := 34) hx hb dX10_borrow_28 (by decide) (fun cq3 => ?_) (fun cq3 => ?_)
      · skip
        refine lv_aload_n hx hb dX10_borrow_34 rfl (lv_at hl 0 rfl) ?_
        refine lv_iload_n hx hb dX10_borrow_35 rfl (lv_at hl 1 rfl) ?_
        refine lv_iload_n hx hb dX10_borrow_36 rfl (lv_at hl 2 rfl) ?_
        refine lv_iload_n hx hb dX10_borrow_37 rfl (lv_at hl 3 rfl) ?_
        refine cR_V (Cn := RX10) (n := 3) (As := [.int (nI pp), .int (nI cc), .int k]) (rest := []) C (c_X10_mayBorrow l G a i j t r n d ps im kp tx cd bk py pt mt nc np pp cc k hT (by omega) (by omega)) gX10_borrow_X10_mayBorrow rfl ⟨rfl, rfl⟩ hd_X10_mayBorrow ⟨(Nat.le_of_ble_eq_true rfl), (Nat.le_of_ble_eq_true rfl)⟩ hK hP (va_recv hK hP (ci := 10) (q0 := 0) rfl rfl) rfl hl.1 rfl (Nat.le_of_ble_eq_true rfl) dX10_borrow_38 ⟨(Nat.le_of_ble_eq_true rfl), (Nat.le_of_ble_eq_true rfl)⟩ ?_
        refine b_if_ne (tgt := 47) hx hb dX10_borrow_41 (by decide) (fun cq4 => ?_) (fun cq4 => ?_)
        · skip
          refine lv_aload_n hx hb dX10_borrow_47 rfl (lv_at hl 0 rfl) ?_
          refine cX_V (Cn := RX10) (n := 0) (As := []) (rest := []) (wsn := mW G a (rmI i un) j t r n d (rmP n ps un) im kp tx cd bk py pt mt) C (c_X10_remember l G a i j t r n d ps im kp tx cd bk py pt mt un  hun (by omega)) gX10_borrow_X10_remember rfl ⟨rfl, rfl⟩ hd_X10_remember ⟨(Nat.le_of_ble_eq_true rfl), (Nat.le_of_ble_eq_true rfl)⟩ hK hP hD hS [0, 1, 2, 3, 4, 5, 6, 7, 8, 9, 10, 11, 12, 13] (by decide) rfl (mW_f.trans mW_f.symm) rfl (mW_f.trans mW_f.symm) (va_recv hK hP (ci := 10) (q0 := 0) rfl rfl) rfl hl.1 rfl (Nat.le_of_ble_eq_true rfl) dX10_borrow_48 ⟨(Nat.le_of_ble_eq_true rfl), (Nat.le_of_ble_eq_true rfl)⟩ (fun H locs hP hD hS => ?_)
          refine lv_aload_n hx hb dX10_borrow_51 rfl (lv_at hl 0 rfl) ?_
          refine lv_iload_n hx hb dX10_borrow_52 rfl (lv_at hl 1 rfl) ?_
          refine lv_iload_n hx hb dX10_borrow_53 rfl (lv_at hl 2 rfl) ?_
          refine lv_iload_n hx hb dX10_borrow_54 rfl (lv_at hl 3 rfl) ?_
          refine cX_V (Cn := RX10) (n := 3) (As := [.int (nI pp), .int (nI cc), .int k]) (rest := []) (wsn := mW G a (rmI i un) j t r (borF n pp cc k) d (rmP n ps un) im kp tx cd bk py pt mt) C (c_X10_borrows l G a (rmI i un) j t r n d (rmP n ps un) im kp tx cd bk py pt mt  pp cc k (by omega) (by omega)) gX10_borrow_X10_borrows rfl ⟨rfl, rfl⟩ hd_X10_borrows ⟨(Nat.le_of_ble_eq_true rfl), (Nat.le_of_ble_eq_true rfl)⟩ hK hP hD hS [0, 1, 2, 3, 4, 5, 6, 7, 8, 9, 10, 11, 12, 13] (by decide) rfl (mW_f.trans mW_f.symm) rfl (mW_f.trans mW_f.symm) (va_recv hK hP (ci := 10) (q0 := 0) rfl rfl) rfl hl.1 rfl (Nat.le_of_ble_eq_true rfl) dX10_borrow_55 ⟨(Nat.le_of_ble_eq_true rfl), (Nat.le_of_ble_eq_true rfl)⟩ (fun H locs hP hD hS => ?_)
          refine lv_aload_n hx hb dX10_borrow_58 rfl (lv_at hl 0 rfl) ?_
          refine va_get (D := G.1) (ci := 10) (v := .ref (a 3)) (C := RX10) (T := TX10) (N := 25) hx hb hts k3 hown hK hP 0 rfl rfl 2 (by decide) k2 (fun _ h9 => h9) rfl dX10_borrow_59 ?_
          refine lv_iconst (v := 0) hx hb dX10_borrow_62 (by decide) ?_
          refine lv_iconst (v := 4) hx hb dX10_borrow_63 (by decide) ?_
          refine lv_iload_n hx hb dX10_borrow_64 rfl (lv_at hl 1 rfl) ?_
          refine n_imul hx hb dX10_borrow_65 (u := 4) (v := pp) rfl rfl (j := 4 * pp) (by omega) ?_
          refine n_iadd hx hb dX10_borrow_66 (u := 0) (v := 4 * pp) rfl rfl (j := 4 * pp) (by omega) ?_
          refine lv_iload_n hx hb dX10_borrow_67 rfl (lv_at hl 2 rfl) ?_
          refine n_iadd hx hb dX10_borrow_68 (u := 4 * pp) (v := cc) rfl rfl (j := (4 * pp) + cc) (by omega) ?_
          refine n_iald hx hb hK hP 3 0 rfl rfl (j := (4 * pp) + cc) rfl (by omega) (by decide) dX10_borrow_69 ?_
          have hP : va_P G.1 vwCl (mW G a (if okBor t n (nI pp) (nI cc) k then rmI i un else i) j t r (if okBor t n (nI pp) (nI cc) k then borF n (cl (nI pp)) (cl (nI cc)) k else n) d (if okBor t n (nI pp) (nI cc) k then rmP n ps un else ps) im kp tx cd bk py pt mt) H := by rw [show (if okBor t n (nI pp) (nI cc) k then rmI i un else i) = (rmI i un) from by first | rfl | simp [okBor, cq1, hcl_pp, cq2, hcl_cc, cq3, cq4], show (if okBor t n (nI pp) (nI cc) k then borF n (cl (nI pp)) (cl (nI cc)) k else n) = (borF n pp cc k) from by first | rfl | simp [okBor, cq1, hcl_pp, cq2, hcl_cc, cq3, cq4], show (if okBor t n (nI pp) (nI cc) k then rmP n ps un else ps) = (rmP n ps un) from by first | rfl | simp [okBor, cq1, hcl_pp, cq2, hcl_cc, cq3, cq4]]; exact hP
          exact mX_iret hAe C hP hS dX10_borrow_70 (by simp [borR, cq1, hcl_pp, cq2, hcl_cc, cq3, cq4])
        · skip
          refine lv_ldc hx hb hown k4 dX10_borrow_44 ?_
          have hP : va_P G.1 vwCl (mW G a (if okBor t n (nI pp) (nI cc) k then rmI i un else i) j t r (if okBor t n (nI pp) (nI cc) k then borF n (cl (nI pp)) (cl (nI cc)) k else n) d (if okBor t n (nI pp) (nI cc) k then rmP n ps un else ps) im kp tx cd bk py pt mt) zs.heap := by rw [show (if okBor t n (nI pp) (nI cc) k then rmI i un else i) = i from by first | rfl | simp [okBor, cq1, hcl_pp, cq2, hcl_cc, cq3, cq4], show (if okBor t n (nI pp) (nI cc) k then borF n (cl (nI pp)) (cl (nI cc)) k else n) = n from by first | rfl | simp [okBor, cq1, hcl_pp, cq2, hcl_cc, cq3, cq4], show (if okBor t n (nI pp) (nI cc) k then rmP n ps un else ps) = ps from by first | rfl | simp [okBor, cq1, hcl_pp, cq2, hcl_cc, cq3, cq4]]; exact hP
          exact mX_iret hAe C hP hS dX10_borrow_46 (by simp [borR, cq1, hcl_pp, cq2, hcl_cc, cq3, cq4])
      · skip
        refine lv_ldc hx hb hown k5 dX10_borrow_31 ?_
        have hP : va_P G.1 vwCl (mW G a (if okBor t n (nI pp) (nI cc) k then rmI i un else i) j t r (if okBor t n (nI pp) (nI cc) k then borF n (cl (nI pp)) (cl (nI cc)) k else n) d (if okBor t n (nI pp) (nI cc) k then rmP n ps un else ps) im kp tx cd bk py pt mt) zs.heap := by rw [show (if okBor t n (nI pp) (nI cc) k then rmI i un else i) = i from by first | rfl | simp [okBor, cq1, hcl_pp, cq2, hcl_cc, cq3], show (if okBor t n (nI pp) (nI cc) k then borF n (cl (nI pp)) (cl (nI cc)) k else n) = n from by first | rfl | simp [okBor, cq1, hcl_pp, cq2, hcl_cc, cq3], show (if okBor t n (nI pp) (nI cc) k then rmP n ps un else ps) = ps from by first | rfl | simp [okBor, cq1, hcl_pp, cq2, hcl_cc, cq3]]; exact hP
        exact mX_iret hAe C hP hS dX10_borrow_33 (by simp only [borR]; simp [cq1, hcl_pp, cq2, hcl_cc, cq3])
    · skip
      refine lv_ldc hx hb hown k0 dX10_borrow_16 ?_
      have hP : va_P G.1 vwCl (mW G a (if okBor t n (nI pp) c k then rmI i un else i) j t r (if okBor t n (nI pp) c k then borF n (cl (nI pp)) (cl c) k else n) d (if okBor t n (nI pp) c k then rmP n ps un else ps) im kp tx cd bk py pt mt) zs.heap := by rw [show (if okBor t n (nI pp) c k then rmI i un else i) = i from by first | rfl | simp [okBor, cq1, hcl_pp, cq2], show (if okBor t n (nI pp) c k then borF n (cl (nI pp)) (cl c) k else n) = n from by first | rfl | simp [okBor, cq1, hcl_pp, cq2], show (if okBor t n (nI pp) c k then rmP n ps un else ps) = ps from by first | rfl | simp [okBor, cq1, hcl_pp, cq2]]; exact hP
      exact mX_iret hAe C hP hS dX10_borrow_18 (by simp only [borR]; rw [if_pos (by simp only [cq1, hcl_pp, cq2, false_and, and_false, not_false_eq_true])])
theorem hd_X10_pay : yX10_pay.cls = RX10 ∧ yX10_pay.cls ≠ "java/lang/invoke/MethodHandle" ∧ yX10_pay.cls ≠ "java/lang/invoke/VarHandle" ∧ (parseMethodDescriptor yX10_pay.desc).map (fun d => d.parameters.length) = some 3 := by decide +kernel
set_option maxRecDepth 100000 in
set_option maxHeartbeats 4000000 in
theorem c_X10_pay (l : Launch) (G : gG) (a : Nat → Nat) (i : Nat → Int32) (j : Nat → Int32) (t : Nat → Int32) (r : Nat → Int32) (n : Nat → Int32) (d : Nat → Int32) (ps : Nat → Int32) (im : Nat → Int32) (kp : Nat → Int32) (tx : Nat → Int32) (cd : Nat → Int32) (bk : Nat → Int32) (py : Nat → Int32) (pt : Nat → Int32) (mt : Nat → Int32) (nc : Nat) (np : Nat) (un : Nat) (p : Int32) (c : Int32) (k : Int32) (hT : tw t nc np) (hun : i 5 = nI un) (hul : un ≤ 30) : mX l yX10_pay wsX10_pay ({ frames := 2, cells := 0, slots := 0, locals := 46 }) G (mW G a i j t r n d ps im kp tx cd bk py pt mt) (mW G a (if okPay t n p c k then rmI i un else i) j t r (if okPay t n p c k then payF t n (cl p) (cl c) k else n) d (if okPay t n p c k then rmP n ps un else ps) im kp tx cd bk py pt mt) [.ref (a 0), .int p, .int c, .int k] (.returned (some (.int (payR t n p c k)))) := by
  refine mX.of (cc := cX10_pay) (maxL := 5) (ret := (some .int)) (by decide) rfl (Nat.le_of_ble_eq_true rfl) ?_
  intro zp ze zs zm zb zt zc ls A hAe C hP hK hD hS hl
  obtain ⟨hx, hb, hr, hml, hown, hts, hlk⟩ := id C
  have hl : lv_has ls 5 [(0, .ref (a 0)), (1, .int p), (2, .int c), (3, .int k)] := hl
  have hT2 := hT.2.2
  have k0 := hts (.constant RX10 175 (-1000000001)) (by decide +kernel)
  have k1 := hts (.constantLong RX10 201 (9999)) (by decide +kernel)
  have k2 := hts (.fieldLink RX10 16 "DebtDowryModel" "now" "[I") (by decide +kernel)
  have k3 := (fun w h => by revert w; decide +kernel : ∀ w ∈ wsX100, w ∈ wsX10_pay)
  have k4 := hts (.fieldLink RX10 7 "DebtDowryModel" "town" "[I") (by decide +kernel)
  have k5 := hts (.constant RX10 193 (-1000000003)) (by decide +kernel)
  have k6 := hts (.constant RX10 80 (-1000000002)) (by decide +kernel)
  refine lv_aload_n hx hb dX10_pay_0 rfl (lv_at hl 0 rfl) ?_
  refine lv_iload_n hx hb dX10_pay_1 rfl (lv_at hl 1 rfl) ?_
  refine cR_V (Cn := RX10) (n := 1) (As := [.int p]) (rest := []) C (c_X10_isPerson l G a i j t r n d ps im kp tx cd bk py pt mt  p ) gX10_pay_X10_isPerson rfl ⟨rfl, rfl⟩ hd_X10_isPerson ⟨(Nat.le_of_ble_eq_true rfl), (Nat.le_of_ble_eq_true rfl)⟩ hK hP (va_recv hK hP (ci := 10) (q0 := 0) rfl rfl) rfl hl.1 rfl (Nat.le_of_ble_eq_true rfl) dX10_pay_2 ⟨(Nat.le_of_ble_eq_true rfl), (Nat.le_of_ble_eq_true rfl)⟩ ?_
  refine b_if_eq (tgt := 16) hx hb dX10_pay_5 (by decide) (fun cq1 => ?_) (fun cq1 => ?_)
  · skip
    refine lv_ldc hx hb hown k0 dX10_pay_16 ?_
    have hP : va_P G.1 vwCl (mW G a (if okPay t n p c k then rmI i un else i) j t r (if okPay t n p c k then payF t n (cl p) (cl c) k else n) d (if okPay t n p c k then rmP n ps un else ps) im kp tx cd bk py pt mt) zs.heap := by rw [show (if okPay t n p c k then rmI i un else i) = i from by first | rfl | simp [okPay, payF, pay2, pay1, cq1], show (if okPay t n p c k then payF t n (cl p) (cl c) k else n) = n from by first | rfl | simp [okPay, payF, pay2, pay1, cq1], show (if okPay t n p c k then rmP n ps un else ps) = ps from by first | rfl | simp [okPay, payF, pay2, pay1, cq1]]; exact hP
    exact mX_iret hAe C hP hS dX10_pay_18 (by simp [payR, cq1])
  · skip
    obtain ⟨pp, hpp, rfl⟩ := inB_nat hT.2.1 (by omega) cq1
    have hcl_pp := cl_nI (n := pp) (by omega)
    refine lv_aload_n hx hb dX10_pay_8 rfl (lv_at hl 0 rfl) ?_
    refine lv_iload_n hx hb dX10_pay_9 rfl (lv_at hl 2 rfl) ?_
    refine cR_V (Cn := RX10) (n := 1) (As := [.int c]) (rest := []) C (c_X10_isCreditor l G a i j t r n d ps im kp tx cd bk py pt mt  c ) gX10_pay_X10_isCreditor rfl ⟨rfl, rfl⟩ hd_X10_isCreditor ⟨(Nat.le_of_ble_eq_true rfl), (Nat.le_of_ble_eq_true rfl)⟩ hK hP (va_recv hK hP (ci := 10) (q0 := 0) rfl rfl) rfl hl.1 rfl (Nat.le_of_ble_eq_true rfl) dX10_pay_10 ⟨(Nat.le_of_ble_eq_true rfl), (Nat.le_of_ble_eq_true rfl)⟩ ?_
    refine b_if_ne (tgt := 19) hx hb dX10_pay_13 (by decide) (fun cq2 => ?_) (fun cq2 => ?_)
    · skip
      obtain ⟨cc, hcc, rfl⟩ := inB_nat hT.1 (by omega) cq2
      have hcl_cc := cl_nI (n := cc) (by omega)
      refine lv_iload_n hx hb dX10_pay_19 rfl (lv_at hl 3 rfl) ?_
      refine lv_i2l (v := k.toInt64) hx hb dX10_pay_20 rfl ?_
      refine lv_lconst (v := 1) hx hb dX10_pay_21 (by decide) ?_
      refine lv_ldc2 hx hb hown k1 dX10_pay_22 ?_
      refine cR_S (n := 3) (As := [.long k.toInt64, .long 1, .long 9999]) (rest := []) C (c_X10_in l G    k k.toInt64 rfl 1 1 rfl 9999 9999 rfl ) gX10_pay_X10_in rfl ⟨rfl, rfl⟩ hd_X10_in ⟨(Nat.le_of_ble_eq_true rfl), (Nat.le_of_ble_eq_true rfl)⟩ hK (hP.sub [] rfl) rfl hl.1 rfl (Nat.le_of_ble_eq_true rfl) dX10_pay_25 ⟨(Nat.le_of_ble_eq_true rfl), (Nat.le_of_ble_eq_true rfl)⟩ ?_
      refine b_if_ne (tgt := 34) hx hb dX10_pay_28 (by decide) (fun cq3 => ?_) (fun cq3 => ?_)
      · skip
        refine lv_aload_n hx hb dX10_pay_34 rfl (lv_at hl 0 rfl) ?_
        refine va_get (D := G.1) (ci := 10) (v := .ref (a 3)) (C := RX10) (T := TX10) (N := 25) hx hb hts k3 hown hK hP 0 rfl rfl 2 (by decide) k2 (fun _ h9 => h9) rfl dX10_pay_35 ?_
        refine lv_iconst (v := 0) hx hb dX10_pay_38 (by decide) ?_
        refine lv_iconst (v := 4) hx hb dX10_pay_39 (by decide) ?_
        refine lv_iload_n hx hb dX10_pay_40 rfl (lv_at hl 1 rfl) ?_
        refine n_imul hx hb dX10_pay_41 (u := 4) (v := pp) rfl rfl (j := 4 * pp) (by omega) ?_
        refine n_iadd hx hb dX10_pay_42 (u := 0) (v := 4 * pp) rfl rfl (j := 4 * pp) (by omega) ?_
        refine lv_iload_n hx hb dX10_pay_43 rfl (lv_at hl 2 rfl) ?_
        refine n_iadd hx hb dX10_pay_44 (u := 4 * pp) (v := cc) rfl rfl (j := (4 * pp) + cc) (by omega) ?_
        refine n_iald hx hb hK hP 3 0 rfl rfl (j := (4 * pp) + cc) rfl (by omega) (by decide) dX10_pay_45 ?_
        refine lv_istore (lv' := [(4, .int (n ((4 * pp) + cc))), (0, .ref (a 0)), (1, .int (nI pp)), (2, .int (nI cc)), (3, .int k)]) hx hb dX10_pay_46 hl (by decide) rfl (fun ls hl => ?_)
        refine lv_iload hx hb dX10_pay_48 (lv_at hl 0 rfl) ?_
        refine lv_iload_n hx hb dX10_pay_50 rfl (lv_at hl 4 rfl) ?_
        refine lv_icmp_ge (tgt := 57) hx hb dX10_pay_51 (by decide) (fun cq4 => ?_) (fun cq4 => ?_)
        · skip
          refine lv_aload_n hx hb dX10_pay_57 rfl (lv_at hl 1 rfl) ?_
          refine cX_V (Cn := RX10) (n := 0) (As := []) (rest := []) (wsn := mW G a (rmI i un) j t r n d (rmP n ps un) im kp tx cd bk py pt mt) C (c_X10_remember l G a i j t r n d ps im kp tx cd bk py pt mt un  hun (by omega)) gX10_pay_X10_remember rfl ⟨rfl, rfl⟩ hd_X10_remember ⟨(Nat.le_of_ble_eq_true rfl), (Nat.le_of_ble_eq_true rfl)⟩ hK hP hD hS [0, 1, 2, 3, 4, 5, 6, 7, 8, 9, 10, 11, 12, 13] (by decide) rfl (mW_f.trans mW_f.symm) rfl (mW_f.trans mW_f.symm) (va_recv hK hP (ci := 10) (q0 := 0) rfl rfl) rfl hl.1 rfl (Nat.le_of_ble_eq_true rfl) dX10_pay_58 ⟨(Nat.le_of_ble_eq_true rfl), (Nat.le_of_ble_eq_true rfl)⟩ (fun H locs hP hD hS => ?_)
          refine lv_aload_n hx hb dX10_pay_61 rfl (lv_at hl 1 rfl) ?_
          refine va_get (D := G.1) (ci := 10) (v := .ref (a 3)) (C := RX10) (T := TX10) (N := 25) hx hb hts k3 hown hK hP 0 rfl rfl 2 (by decide) k2 (fun _ h9 => h9) rfl dX10_pay_62 ?_
          refine lv_bipush (v := 36) hx hb dX10_pay_65 (by decide) ?_
          refine lv_iload_n hx hb dX10_pay_67 rfl (lv_at hl 2 rfl) ?_
          refine n_iadd hx hb dX10_pay_68 (u := 36) (v := pp) rfl rfl (j := 36 + pp) (by omega) ?_
          refine lv_dup2_11 hx hb dX10_pay_69 rfl rfl ?_
          refine n_iald hx hb hK hP 3 0 rfl rfl (j := 36 + pp) rfl (by omega) (by decide) dX10_pay_70 ?_
          refine lv_iload_n hx hb dX10_pay_71 rfl (lv_at hl 4 rfl) ?_
          refine lv_bipush (v := 100) hx hb dX10_pay_72 (by decide) ?_
          refine lv_imul hx hb dX10_pay_74 ?_
          refine lv_aload_n hx hb dX10_pay_75 rfl (lv_at hl 1 rfl) ?_
          refine va_get (D := G.1) (ci := 10) (v := .ref (a 1)) (C := RX10) (T := TX10) (N := 25) hx hb hts k3 hown hK hP 0 rfl rfl 0 (by decide) k4 (fun _ h9 => h9) rfl dX10_pay_76 ?_
          refine lv_iconst (v := 2) hx hb dX10_pay_79 (by decide) ?_
          refine n_iald hx hb hK hP 1 0 rfl rfl (j := 2) rfl (by decide) (by decide) dX10_pay_80 ?_
          refine lv_iload hx hb dX10_pay_81 (lv_at hl 0 rfl) ?_
          refine lv_imul hx hb dX10_pay_83 ?_
          refine lv_icmp_le (tgt := 93) hx hb dX10_pay_84 (by decide) (fun cq5 => ?_) (fun cq5 => ?_)
          · skip
            refine lv_iconst (v := 0) hx hb dX10_pay_93 (by decide) ?_
            refine lv_ior hx hb dX10_pay_94 ?_
            refine n_iast hx hb hK hP hD hS 3 0 rfl rfl (x := ((n (36 + pp)) ||| 0)) (j := 36 + pp) rfl (by omega) (by decide) dX10_pay_95 (wsn := mW G a (rmI i un) j t r (upd n (36 + pp) ((n (36 + pp)) ||| 0)) d (rmP n ps un) im kp tx cd bk py pt mt) rfl (fun H locs hP hD hS => ?_)
            refine lv_aload_n hx hb dX10_pay_96 rfl (lv_at hl 1 rfl) ?_
            refine va_get (D := G.1) (ci := 10) (v := .ref (a 3)) (C := RX10) (T := TX10) (N := 25) hx hb hts k3 hown hK hP 0 rfl rfl 2 (by decide) k2 (fun _ h9 => h9) rfl dX10_pay_97 ?_
            refine lv_iconst (v := 0) hx hb dX10_pay_100 (by decide) ?_
            refine lv_iconst (v := 4) hx hb dX10_pay_101 (by decide) ?_
            refine lv_iload_n hx hb dX10_pay_102 rfl (lv_at hl 2 rfl) ?_
            refine n_imul hx hb dX10_pay_103 (u := 4) (v := pp) rfl rfl (j := 4 * pp) (by omega) ?_
            refine n_iadd hx hb dX10_pay_104 (u := 0) (v := 4 * pp) rfl rfl (j := 4 * pp) (by omega) ?_
            refine lv_iload_n hx hb dX10_pay_105 rfl (lv_at hl 3 rfl) ?_
            refine n_iadd hx hb dX10_pay_106 (u := 4 * pp) (v := cc) rfl rfl (j := (4 * pp) + cc) (by omega) ?_
            refine lv_iload hx hb dX10_pay_107 (lv_at hl 0 rfl) ?_
            refine lv_iload_n hx hb dX10_pay_109 rfl (lv_at hl 4 rfl) ?_
            refine lv_isub hx hb dX10_pay_110 ?_
            refine n_iast hx hb hK hP hD hS 3 0 rfl rfl (x := ((n ((4 * pp) + cc)) - k)) (j := (4 * pp) + cc) rfl (by omega) (by decide) dX10_pay_111 (wsn := mW G a (rmI i un) j t r (upd (upd n (36 + pp) ((n (36 + pp)) ||| 0)) ((4 * pp) + cc) ((n ((4 * pp) + cc)) - k)) d (rmP n ps un) im kp tx cd bk py pt mt) rfl (fun H locs hP hD hS => ?_)
            refine lv_aload_n hx hb dX10_pay_112 rfl (lv_at hl 1 rfl) ?_
            refine va_get (D := G.1) (ci := 10) (v := .ref (a 3)) (C := RX10) (T := TX10) (N := 25) hx hb hts k3 hown hK hP 0 rfl rfl 2 (by decide) k2 (fun _ h9 => h9) rfl dX10_pay_113 ?_
            refine lv_bipush (v := 32) hx hb dX10_pay_116 (by decide) ?_
            refine lv_iload_n hx hb dX10_pay_118 rfl (lv_at hl 3 rfl) ?_
            refine n_iadd hx hb dX10_pay_119 (u := 32) (v := cc) rfl rfl (j := 32 + cc) (by omega) ?_
            refine lv_aload_n hx hb dX10_pay_120 rfl (lv_at hl 1 rfl) ?_
            refine va_get (D := G.1) (ci := 10) (v := .ref (a 3)) (C := RX10) (T := TX10) (N := 25) hx hb hts k3 hown hK hP 0 rfl rfl 2 (by decide) k2 (fun _ h9 => h9) rfl dX10_pay_121 ?_
            refine lv_bipush (v := 32) hx hb dX10_pay_124 (by decide) ?_
            refine lv_iload_n hx hb dX10_pay_126 rfl (lv_at hl 3 rfl) ?_
            refine n_iadd hx hb dX10_pay_127 (u := 32) (v := cc) rfl rfl (j := 32 + cc) (by omega) ?_
            refine n_iald hx hb hK hP 3 0 rfl rfl (j := 32 + cc) rfl (by omega) (by decide) dX10_pay_128 ?_
            refine lv_iload_n hx hb dX10_pay_129 rfl (lv_at hl 4 rfl) ?_
            refine lv_iadd hx hb dX10_pay_130 ?_
            refine lv_sipush (v := 9999) hx hb dX10_pay_131 (by decide) ?_
            refine cR_S (n := 2) (As := [.int (((upd (upd n (36 + pp) ((n (36 + pp)) ||| 0)) ((4 * pp) + cc) ((n ((4 * pp) + cc)) - k)) (32 + cc)) + k), .int 9999]) (rest := [.int (nI (32 + cc)), .ref (a 3)]) C (c_X10_lesser l G    (((upd (upd n (36 + pp) ((n (36 + pp)) ||| 0)) ((4 * pp) + cc) ((n ((4 * pp) + cc)) - k)) (32 + cc)) + k) 9999 ) gX10_pay_X10_lesser rfl ⟨rfl, rfl⟩ hd_X10_lesser ⟨(Nat.le_of_ble_eq_true rfl), (Nat.le_of_ble_eq_true rfl)⟩ hK (hP.sub [] rfl) rfl hl.1 rfl (Nat.le_of_ble_eq_true rfl) dX10_pay_134 ⟨(Nat.le_of_ble_eq_true rfl), (Nat.le_of_ble_eq_true rfl)⟩ ?_
            refine n_iast hx hb hK hP hD hS 3 0 rfl rfl (x := (lessI (((upd (upd n (36 + pp) ((n (36 + pp)) ||| 0)) ((4 * pp) + cc) ((n ((4 * pp) + cc)) - k)) (32 + cc)) + k) 9999)) (j := 32 + cc) rfl (by omega) (by decide) dX10_pay_137 (wsn := mW G a (rmI i un) j t r (upd (upd (upd n (36 + pp) ((n (36 + pp)) ||| 0)) ((4 * pp) + cc) ((n ((4 * pp) + cc)) - k)) (32 + cc) (lessI (((upd (upd n (36 + pp) ((n (36 + pp)) ||| 0)) ((4 * pp) + cc) ((n ((4 * pp) + cc)) - k)) (32 + cc)) + k) 9999)) d (rmP n ps un) im kp tx cd bk py pt mt) rfl (fun H locs hP hD hS => ?_)
            refine lv_iload hx hb dX10_pay_138 (lv_at hl 0 rfl) ?_
            refine lv_iload_n hx hb dX10_pay_140 rfl (lv_at hl 4 rfl) ?_
            refine lv_isub hx hb dX10_pay_141 ?_
            have hP : va_P G.1 vwCl (mW G a (if okPay t n (nI pp) (nI cc) k then rmI i un else i) j t r (if okPay t n (nI pp) (nI cc) k then payF t n (cl (nI pp)) (cl (nI cc)) k else n) d (if okPay t n (nI pp) (nI cc) k then rmP n ps un else ps) im kp tx cd bk py pt mt) H := by rw [show (if okPay t n (nI pp) (nI cc) k then rmI i un else i) = (rmI i un) from by first | rfl | simp [okPay, payF, pay2, pay1, cq1, hcl_pp, cq2, hcl_cc, cq3, cq4, (i32_nlt.mpr cq4), cq5, (i32_nlt.mpr cq5)], show (if okPay t n (nI pp) (nI cc) k then payF t n (cl (nI pp)) (cl (nI cc)) k else n) = (upd (upd (upd n (36 + pp) ((n (36 + pp)) ||| 0)) ((4 * pp) + cc) ((n ((4 * pp) + cc)) - k)) (32 + cc) (lessI (((upd (upd n (36 + pp) ((n (36 + pp)) ||| 0)) ((4 * pp) + cc) ((n ((4 * pp) + cc)) - k)) (32 + cc)) + k) 9999)) from by first | rfl | simp [okPay, payF, pay2, pay1, cq1, hcl_pp, cq2, hcl_cc, cq3, cq4, (i32_nlt.mpr cq4), cq5, (i32_nlt.mpr cq5)], show (if okPay t n (nI pp) (nI cc) k then rmP n ps un else ps) = (rmP n ps un) from by first | rfl | simp [okPay, payF, pay2, pay1, cq1, hcl_pp, cq2, hcl_cc, cq3, cq4, (i32_nlt.mpr cq4), cq5, (i32_nlt.mpr cq5)]]; exact hP
            exact mX_iret hAe C hP hS dX10_pay_142 (by simp [payR, cq1, hcl_pp, cq2, hcl_cc, cq3, cq4, (i32_nlt.mpr cq4), cq5, (i32_nlt.mpr cq5)])
          · skip
            refine lv_iconst (v := 1) hx hb dX10_pay_87 (by decide) ?_
            refine lv_iload_n hx hb dX10_pay_88 rfl (lv_at hl 3 rfl) ?_
            refine lv_ishl hx hb dX10_pay_89 ?_
            refine lv_goto (tgt := 94) hx hb dX10_pay_90 (by decide) ?_
            refine lv_ior hx hb dX10_pay_94 ?_
            refine n_iast hx hb hK hP hD hS 3 0 rfl rfl (x := ((n (36 + pp)) ||| (1 <<< ((nI cc) &&& 31)))) (j := 36 + pp) rfl (by omega) (by decide) dX10_pay_95 (wsn := mW G a (rmI i un) j t r (upd n (36 + pp) ((n (36 + pp)) ||| (1 <<< ((nI cc) &&& 31)))) d (rmP n ps un) im kp tx cd bk py pt mt) rfl (fun H locs hP hD hS => ?_)
            refine lv_aload_n hx hb dX10_pay_96 rfl (lv_at hl 1 rfl) ?_
            refine va_get (D := G.1) (ci := 10) (v := .ref (a 3)) (C := RX10) (T := TX10) (N := 25) hx hb hts k3 hown hK hP 0 rfl rfl 2 (by decide) k2 (fun _ h9 => h9) rfl dX10_pay_97 ?_
            refine lv_iconst (v := 0) hx hb dX10_pay_100 (by decide) ?_
            refine lv_iconst (v := 4) hx hb dX10_pay_101 (by decide) ?_
            refine lv_iload_n hx hb dX10_pay_102 rfl (lv_at hl 2 rfl) ?_
            refine n_imul hx hb dX10_pay_103 (u := 4) (v := pp) rfl rfl (j := 4 * pp) (by omega) ?_
            refine n_iadd hx hb dX10_pay_104 (u := 0) (v := 4 * pp) rfl rfl (j := 4 * pp) (by omega) ?_
            refine lv_iload_n hx hb dX10_pay_105 rfl (lv_at hl 3 rfl) ?_
            refine n_iadd hx hb dX10_pay_106 (u := 4 * pp) (v := cc) rfl rfl (j := (4 * pp) + cc) (by omega) ?_
            refine lv_iload hx hb dX10_pay_107 (lv_at hl 0 rfl) ?_
            refine lv_iload_n hx hb dX10_pay_109 rfl (lv_at hl 4 rfl) ?_
            refine lv_isub hx hb dX10_pay_110 ?_
            refine n_iast hx hb hK hP hD hS 3 0 rfl rfl (x := ((n ((4 * pp) + cc)) - k)) (j := (4 * pp) + cc) rfl (by omega) (by decide) dX10_pay_111 (wsn := mW G a (rmI i un) j t r (upd (upd n (36 + pp) ((n (36 + pp)) ||| (1 <<< ((nI cc) &&& 31)))) ((4 * pp) + cc) ((n ((4 * pp) + cc)) - k)) d (rmP n ps un) im kp tx cd bk py pt mt) rfl (fun H locs hP hD hS => ?_)
            refine lv_aload_n hx hb dX10_pay_112 rfl (lv_at hl 1 rfl) ?_
            refine va_get (D := G.1) (ci := 10) (v := .ref (a 3)) (C := RX10) (T := TX10) (N := 25) hx hb hts k3 hown hK hP 0 rfl rfl 2 (by decide) k2 (fun _ h9 => h9) rfl dX10_pay_113 ?_
            refine lv_bipush (v := 32) hx hb dX10_pay_116 (by decide) ?_
            refine lv_iload_n hx hb dX10_pay_118 rfl (lv_at hl 3 rfl) ?_
            refine n_iadd hx hb dX10_pay_119 (u := 32) (v := cc) rfl rfl (j := 32 + cc) (by omega) ?_
            refine lv_aload_n hx hb dX10_pay_120 rfl (lv_at hl 1 rfl) ?_
            refine va_get (D := G.1) (ci := 10) (v := .ref (a 3)) (C := RX10) (T := TX10) (N := 25) hx hb hts k3 hown hK hP 0 rfl rfl 2 (by decide) k2 (fun _ h9 => h9) rfl dX10_pay_121 ?_
            refine lv_bipush (v := 32) hx hb dX10_pay_124 (by decide) ?_
            refine lv_iload_n hx hb dX10_pay_126 rfl (lv_at hl 3 rfl) ?_
            refine n_iadd hx hb dX10_pay_127 (u := 32) (v := cc) rfl rfl (j := 32 + cc) (by omega) ?_
            refine n_iald hx hb hK hP 3 0 rfl rfl (j := 32 + cc) rfl (by omega) (by decide) dX10_pay_128 ?_
            refine lv_iload_n hx hb dX10_pay_129 rfl (lv_at hl 4 rfl) ?_
            refine lv_iadd hx hb dX10_pay_130 ?_
            refine lv_sipush (v := 9999) hx hb dX10_pay_131 (by decide) ?_
            refine cR_S (n := 2) (As := [.int (((upd (upd n (36 + pp) ((n (36 + pp)) ||| (1 <<< ((nI cc) &&& 31)))) ((4 * pp) + cc) ((n ((4 * pp) + cc)) - k)) (32 + cc)) + k), .int 9999]) (rest := [.int (nI (32 + cc)), .ref (a 3)]) C (c_X10_lesser l G    (((upd (upd n (36 + pp) ((n (36 + pp)) ||| (1 <<< ((nI cc) &&& 31)))) ((4 * pp) + cc) ((n ((4 * pp) + cc)) - k)) (32 + cc)) + k) 9999 ) gX10_pay_X10_lesser rfl ⟨rfl, rfl⟩ hd_X10_lesser ⟨(Nat.le_of_ble_eq_true rfl), (Nat.le_of_ble_eq_true rfl)⟩ hK (hP.sub [] rfl) rfl hl.1 rfl (Nat.le_of_ble_eq_true rfl) dX10_pay_134 ⟨(Nat.le_of_ble_eq_true rfl), (Nat.le_of_ble_eq_true rfl)⟩ ?_
            refine n_iast hx hb hK hP hD hS 3 0 rfl rfl (x := (lessI (((upd (upd n (36 + pp) ((n (36 + pp)) ||| (1 <<< ((nI cc) &&& 31)))) ((4 * pp) + cc) ((n ((4 * pp) + cc)) - k)) (32 + cc)) + k) 9999)) (j := 32 + cc) rfl (by omega) (by decide) dX10_pay_137 (wsn := mW G a (rmI i un) j t r (upd (upd (upd n (36 + pp) ((n (36 + pp)) ||| (1 <<< ((nI cc) &&& 31)))) ((4 * pp) + cc) ((n ((4 * pp) + cc)) - k)) (32 + cc) (lessI (((upd (upd n (36 + pp) ((n (36 + pp)) ||| (1 <<< ((nI cc) &&& 31)))) ((4 * pp) + cc) ((n ((4 * pp) + cc)) - k)) (32 + cc)) + k) 9999)) d (rmP n ps un) im kp tx cd bk py pt mt) rfl (fun H locs hP hD hS => ?_)
            refine lv_iload hx hb dX10_pay_138 (lv_at hl 0 rfl) ?_
            refine lv_iload_n hx hb dX10_pay_140 rfl (lv_at hl 4 rfl) ?_
            refine lv_isub hx hb dX10_pay_141 ?_
            have hP : va_P G.1 vwCl (mW G a (if okPay t n (nI pp) (nI cc) k then rmI i un else i) j t r (if okPay t n (nI pp) (nI cc) k then payF t n (cl (nI pp)) (cl (nI cc)) k else n) d (if okPay t n (nI pp) (nI cc) k then rmP n ps un else ps) im kp tx cd bk py pt mt) H := by rw [show (if okPay t n (nI pp) (nI cc) k then rmI i un else i) = (rmI i un) from by first | rfl | simp [okPay, payF, pay2, pay1, cq1, hcl_pp, cq2, hcl_cc, cq3, cq4, (i32_nlt.mpr cq4), cq5, (i32_nle.mp cq5)], show (if okPay t n (nI pp) (nI cc) k then payF t n (cl (nI pp)) (cl (nI cc)) k else n) = (upd (upd (upd n (36 + pp) ((n (36 + pp)) ||| (1 <<< ((nI cc) &&& 31)))) ((4 * pp) + cc) ((n ((4 * pp) + cc)) - k)) (32 + cc) (lessI (((upd (upd n (36 + pp) ((n (36 + pp)) ||| (1 <<< ((nI cc) &&& 31)))) ((4 * pp) + cc) ((n ((4 * pp) + cc)) - k)) (32 + cc)) + k) 9999)) from by first | rfl | simp [okPay, payF, pay2, pay1, cq1, hcl_pp, cq2, hcl_cc, cq3, cq4, (i32_nlt.mpr cq4), cq5, (i32_nle.mp cq5)], show (if okPay t n (nI pp) (nI cc) k then rmP n ps un else ps) = (rmP n ps un) from by first | rfl | simp [okPay, payF, pay2, pay1, cq1, hcl_pp, cq2, hcl_cc, cq3, cq4, (i32_nlt.mpr cq4), cq5, (i32_nle.mp cq5)]]; exact hP
            exact mX_iret hAe C hP hS dX10_pay_142 (by simp [payR, cq1, hcl_pp, cq2, hcl_cc, cq3, cq4, (i32_nlt.mpr cq4), cq5, (i32_nle.mp cq5)])
        · skip
          refine lv_ldc hx hb hown k5 dX10_pay_54 ?_
          have hP : va_P G.1 vwCl (mW G a (if okPay t n (nI pp) (nI cc) k then rmI i un else i) j t r (if okPay t n (nI pp) (nI cc) k then payF t n (cl (nI pp)) (cl (nI cc)) k else n) d (if okPay t n (nI pp) (nI cc) k then rmP n ps un else ps) im kp tx cd bk py pt mt) zs.heap := by rw [show (if okPay t n (nI pp) (nI cc) k then rmI i un else i) = i from by first | rfl | simp [okPay, payF, pay2, pay1, cq1, hcl_pp, cq2, hcl_cc, cq3, cq4, (i32_nle.mp cq4)], show (if okPay t n (nI pp) (nI cc) k then payF t n (cl (nI pp)) (cl (nI cc)) k else n) = n from by first | rfl | simp [okPay, payF, pay2, pay1, cq1, hcl_pp, cq2, hcl_cc, cq3, cq4, (i32_nle.mp cq4)], show (if okPay t n (nI pp) (nI cc) k then rmP n ps un else ps) = ps from by first | rfl | simp [okPay, payF, pay2, pay1, cq1, hcl_pp, cq2, hcl_cc, cq3, cq4, (i32_nle.mp cq4)]]; exact hP
          exact mX_iret hAe C hP hS dX10_pay_56 (by simp [payR, cq1, hcl_pp, cq2, hcl_cc, cq3, cq4, (i32_nle.mp cq4)])
      · skip
        refine lv_ldc hx hb hown k6 dX10_pay_31 ?_
        have hP : va_P G.1 vwCl (mW G a (if okPay t n (nI pp) (nI cc) k then rmI i un else i) j t r (if okPay t n (nI pp) (nI cc) k then payF t n (cl (nI pp)) (cl (nI cc)) k else n) d (if okPay t n (nI pp) (nI cc) k then rmP n ps un else ps) im kp tx cd bk py pt mt) zs.heap := by rw [show (if okPay t n (nI pp) (nI cc) k then rmI i un else i) = i from by first | rfl | simp [okPay, payF, pay2, pay1, cq1, hcl_pp, cq2, hcl_cc, cq3], show (if okPay t n (nI pp) (nI cc) k then payF t n (cl (nI pp)) (cl (nI cc)) k else n) = n from by first | rfl | simp [okPay, payF, pay2, pay1, cq1, hcl_pp, cq2, hcl_cc, cq3], show (if okPay t n (nI pp) (nI cc) k then rmP n ps un else ps) = ps from by first | rfl | simp [okPay, payF, pay2, pay1, cq1, hcl_pp, cq2, hcl_cc, cq3]]; exact hP
        exact mX_iret hAe C hP hS dX10_pay_33 (by simp [payR, cq1, hcl_pp, cq2, hcl_cc, cq3])
    · skip
      refine lv_ldc hx hb hown k0 dX10_pay_16 ?_
      have hP : va_P G.1 vwCl (mW G a (if okPay t n (nI pp) c k then rmI i un else i) j t r (if okPay t n (nI pp) c k then payF t n (cl (nI pp)) (cl c) k else n) d (if okPay t n (nI pp) c k then rmP n ps un else ps) im kp tx cd bk py pt mt) zs.heap := by rw [show (if okPay t n (nI pp) c k then rmI i un else i) = i from by first | rfl | simp [okPay, payF, pay2, pay1, cq1, hcl_pp, cq2], show (if okPay t n (nI pp) c k then payF t n (cl (nI pp)) (cl c) k else n) = n from by first | rfl | simp [okPay, payF, pay2, pay1, cq1, hcl_pp, cq2], show (if okPay t n (nI pp) c k then rmP n ps un else ps) = ps from by first | rfl | simp [okPay, payF, pay2, pay1, cq1, hcl_pp, cq2]]; exact hP
      exact mX_iret hAe C hP hS dX10_pay_18 (by simp [payR, cq1, hcl_pp, cq2])
theorem hd_X10_refuses : yX10_refuses.cls = RX10 ∧ yX10_refuses.cls ≠ "java/lang/invoke/MethodHandle" ∧ yX10_refuses.cls ≠ "java/lang/invoke/VarHandle" ∧ (parseMethodDescriptor yX10_refuses.desc).map (fun d => d.parameters.length) = some 1 := by decide +kernel
set_option maxRecDepth 100000 in
set_option maxHeartbeats 4000000 in
theorem c_X10_refuses (l : Launch) (G : gG) (a : Nat → Nat) (i : Nat → Int32) (j : Nat → Int32) (t : Nat → Int32) (r : Nat → Int32) (n : Nat → Int32) (d : Nat → Int32) (ps : Nat → Int32) (im : Nat → Int32) (kp : Nat → Int32) (tx : Nat → Int32) (cd : Nat → Int32) (bk : Nat → Int32) (py : Nat → Int32) (pt : Nat → Int32) (mt : Nat → Int32) (x : Int32) : mR l yX10_refuses wsX10_refuses ({ frames := 1, cells := 0, slots := 0, locals := 25 }) G (mW G a i j t r n d ps im kp tx cd bk py pt mt) [.ref (a 0), .int x] (rfR t n x) := by
  refine mR.of (cc := cX10_refuses) (maxL := 2) (ret := (some .int)) (by decide) rfl (Nat.le_of_ble_eq_true rfl) ?_
  intro zp ze zs zm zb zt zc ls C hP hK hl
  obtain ⟨hx, hb, hr, hml, hown, hts, hlk⟩ := id C
  have hl : lv_has ls 2 [(0, .ref (a 0)), (1, .int x)] := hl
  have k0 := hts (.constantLong RX10 203 (20)) (by decide +kernel)
  have k1 := hts (.fieldLink RX10 7 "DebtDowryModel" "town" "[I") (by decide +kernel)
  have k2 := (fun w h => by revert w; decide +kernel : ∀ w ∈ wsX100, w ∈ wsX10_refuses)
  have k3 := hts (.fieldLink RX10 16 "DebtDowryModel" "now" "[I") (by decide +kernel)
  have k4 := hts (.constant RX10 84 (-1000000004)) (by decide +kernel)
  have k5 := hts (.constant RX10 193 (-1000000003)) (by decide +kernel)
  have k6 := hts (.constant RX10 80 (-1000000002)) (by decide +kernel)
  refine lv_iload_n hx hb dX10_refuses_0 rfl (lv_at hl 1 rfl) ?_
  refine lv_i2l (v := x.toInt64) hx hb dX10_refuses_1 rfl ?_
  refine lv_lconst (v := 1) hx hb dX10_refuses_2 (by decide) ?_
  refine lv_ldc2 hx hb hown k0 dX10_refuses_3 ?_
  refine cR_S (n := 3) (As := [.long x.toInt64, .long 1, .long 20]) (rest := []) C (c_X10_in l G    x x.toInt64 rfl 1 1 rfl 20 20 rfl ) gX10_refuses_X10_in rfl ⟨rfl, rfl⟩ hd_X10_in ⟨(Nat.le_of_ble_eq_true rfl), (Nat.le_of_ble_eq_true rfl)⟩ hK (hP.sub [] rfl) rfl hl.1 rfl (Nat.le_of_ble_eq_true rfl) dX10_refuses_6 ⟨(Nat.le_of_ble_eq_true rfl), (Nat.le_of_ble_eq_true rfl)⟩ ?_
  refine b_if_ne (tgt := 15) hx hb dX10_refuses_9 (by decide) (fun cq1 => ?_) (fun cq1 => ?_)
  · skip
    refine lv_aload_n hx hb dX10_refuses_15 rfl (lv_at hl 0 rfl) ?_
    refine va_get (D := G.1) (ci := 10) (v := .ref (a 1)) (C := RX10) (T := TX10) (N := 25) hx hb hts k2 hown hK hP 0 rfl rfl 0 (by decide) k1 (fun _ h9 => h9) rfl dX10_refuses_16 ?_
    refine lv_iconst (v := 0) hx hb dX10_refuses_19 (by decide) ?_
    refine n_iald hx hb hK hP 1 0 rfl rfl (j := 0) rfl (by decide) (by decide) dX10_refuses_20 ?_
    refine lv_if_ne (tgt := 29) hx hb dX10_refuses_21 (by decide) (fun cq2 => ?_) (fun cq2 => ?_)
    · skip
      refine lv_aload_n hx hb dX10_refuses_29 rfl (lv_at hl 0 rfl) ?_
      refine va_get (D := G.1) (ci := 10) (v := .ref (a 3)) (C := RX10) (T := TX10) (N := 25) hx hb hts k2 hown hK hP 0 rfl rfl 2 (by decide) k3 (fun _ h9 => h9) rfl dX10_refuses_30 ?_
      refine lv_bipush (v := 53) hx hb dX10_refuses_33 (by decide) ?_
      refine n_iald hx hb hK hP 3 0 rfl rfl (j := 53) rfl (by decide) (by decide) dX10_refuses_35 ?_
      refine lv_sipush (v := 9000) hx hb dX10_refuses_36 (by decide) ?_
      refine lv_icmp_le (tgt := 47) hx hb dX10_refuses_39 (by decide) (fun cq3 => ?_) (fun cq3 => ?_)
      · skip
        refine lv_iconst (v := 0) hx hb dX10_refuses_47 (by decide) ?_
        exact mR_iret C dX10_refuses_48 (by simp [rfR, cq1, cq2, cq3, (i32_nlt.mpr cq3)])
      · skip
        refine lv_ldc hx hb hown k4 dX10_refuses_42 ?_
        refine lv_goto (tgt := 48) hx hb dX10_refuses_44 (by decide) ?_
        exact mR_iret C dX10_refuses_48 (by simp [rfR, cq1, cq2, cq3, (i32_nle.mp cq3)])
    · skip
      refine lv_ldc hx hb hown k5 dX10_refuses_24 ?_
      refine lv_goto (tgt := 48) hx hb dX10_refuses_26 (by decide) ?_
      exact mR_iret C dX10_refuses_48 (by simp [rfR, cq1, cq2])
  · skip
    refine lv_ldc hx hb hown k6 dX10_refuses_12 ?_
    exact mR_iret C dX10_refuses_14 (by simp [rfR, cq1])
