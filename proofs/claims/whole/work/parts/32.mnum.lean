theorem hd_X10_number : yX10_number.cls = RX10 ∧ yX10_number.cls ≠ "java/lang/invoke/MethodHandle" ∧ yX10_number.cls ≠ "java/lang/invoke/VarHandle" ∧ (parseMethodDescriptor yX10_number.desc).map (fun d => d.parameters.length) = some 3 := by decide +kernel
set_option maxRecDepth 100000 in
set_option maxHeartbeats 4000000 in
theorem c_X10_number (l : Launch) (G : gG) (a : Nat → Nat) (i : Nat → Int32) (a0 : Nat) (jb js jf jv jw : Int32) (t : Nat → Int32) (r : Nat → Int32) (n : Nat → Int32) (d : Nat → Int32) (ps : Nat → Int32) (im : Nat → Int32) (kp : Nat → Int32) (tx : Nat → Int32) (cd : Nat → Int32) (bk : Nat → Int32) (py : Nat → Int32) (pt : Nat → Int32) (mt : Nat → Int32) (sz : Nat) (pl : Nat) (lo : Int32) (hi : Int32) (hsz : i 10 = nI sz) (hs : sz ≤ 240) (ha : a0 ≤ sz) (hpl : pl < 54) : mX l yX10_number wsX10_number ({ frames := 2, cells := 0, slots := 0, locals := 45 }) G (mW G a i (jF (nI a0) jb js jf jv jw) t r n d ps im kp tx cd bk py pt mt) (mW G a i (jF (nI (stN tx sz a0)) (nI (sk tx sz a0)) (stS tx sz a0) (stF tx sz a0) (stV tx sz a0) (nuW tx sz a0 lo hi jw)) t (nuR tx sz a0 lo hi pl r) n d ps im kp tx cd bk py pt mt) [.ref (a 0), .int (nI pl), .int lo, .int hi] (.returned (some (.int (bI (nuOK tx sz a0 lo hi))))) := by
  refine mX.of (cc := cX10_number) (maxL := 4) (ret := (some .boolean)) (by decide) rfl (Nat.le_of_ble_eq_true rfl) ?_
  intro zp ze zs zm zb zt zc ls A hAe C hP hK hD hS hl
  obtain ⟨hx, hb, hr, hml, hown, hts, hlk⟩ := id C
  have hl : lv_has ls 4 [(0, .ref (a 0)), (1, .int (nI pl)), (2, .int lo), (3, .int hi)] := hl
  have k0 := hts (.fieldLink RX10 95 "DebtDowryModel" "sign" "I") (by decide +kernel)
  have k1 := (fun w h => by revert w; decide +kernel : ∀ w ∈ wsX100, w ∈ wsX10_number)
  have k2 := hts (.fieldLink RX10 98 "DebtDowryModel" "figures" "I") (by decide +kernel)
  have k3 := hts (.fieldLink RX10 101 "DebtDowryModel" "value" "I") (by decide +kernel)
  have k4 := hts (.fieldLink RX10 13 "DebtDowryModel" "read" "[I") (by decide +kernel)
  refine lv_aload_n hx hb dX10_number_0 rfl (lv_at hl 0 rfl) ?_
  refine cX_V (Cn := RX10) (n := 0) (As := []) (rest := []) (wsn := mW G a i (jF (nI (stN tx sz a0)) (nI (sk tx sz a0)) (stS tx sz a0) (stF tx sz a0) (stV tx sz a0) jw) t r n d ps im kp tx cd bk py pt mt) C (c_X10_step l G a i a0 jb js jf jv jw t r n d ps im kp tx cd bk py pt mt sz  hsz hs (by omega)) gX10_number_X10_step rfl ⟨rfl, rfl⟩ hd_X10_step ⟨(Nat.le_of_ble_eq_true rfl), (Nat.le_of_ble_eq_true rfl)⟩ hK hP hD hS [0, 1, 2, 3, 4, 5, 6, 7, 8, 9, 10, 11, 12, 13] (by decide) rfl (mW_f.trans mW_f.symm) rfl (mW_f.trans mW_f.symm) (va_recv hK hP (ci := 10) (q0 := 0) rfl rfl) rfl hl.1 rfl (Nat.le_of_ble_eq_true rfl) dX10_number_1 ⟨(Nat.le_of_ble_eq_true rfl), (Nat.le_of_ble_eq_true rfl)⟩ (fun H locs hP hD hS => ?_)
  refine lv_aload_n hx hb dX10_number_4 rfl (lv_at hl 0 rfl) ?_
  refine va_get (D := G.1) (ci := 10) (v := .int (stS tx sz a0)) (C := RX10) (T := TX10) (N := 25) hx hb hts k1 hown hK hP 0 rfl rfl 18 (by decide) k0 (fun _ h9 => h9) rfl dX10_number_5 ?_
  refine lv_bipush (v := 48) hx hb dX10_number_8 (by decide) ?_
  refine lv_icmp_eq (tgt := 19) hx hb dX10_number_10 (by decide) (fun cq1 => ?_) (fun cq1 => ?_)
  · skip
    refine lv_aload_n hx hb dX10_number_19 rfl (lv_at hl 0 rfl) ?_
    refine va_get (D := G.1) (ci := 10) (v := .int (stF tx sz a0)) (C := RX10) (T := TX10) (N := 25) hx hb hts k1 hown hK hP 0 rfl rfl 19 (by decide) k2 (fun _ h9 => h9) rfl dX10_number_20 ?_
    refine lv_iconst (v := 3) hx hb dX10_number_23 (by decide) ?_
    refine lv_icmp_gt (tgt := 42) hx hb dX10_number_24 (by decide) (fun cq2 => ?_) (fun cq2 => ?_)
    · skip
      refine lv_aload_n hx hb dX10_number_42 rfl (lv_at hl 0 rfl) ?_
      refine lv_iconst (v := 2) hx hb dX10_number_43 (by decide) ?_
      refine cX_V (Cn := RX10) (n := 1) (As := [.int 2]) (rest := []) (wsn := mW G a i (jF (nI (stN tx sz a0)) (nI (sk tx sz a0)) (stS tx sz a0) (stF tx sz a0) (stV tx sz a0) 2) t r n d ps im kp tx cd bk py pt mt) C (c_X10_fails l G a i (stN tx sz a0) (nI (sk tx sz a0)) (stS tx sz a0) (stF tx sz a0) (stV tx sz a0) jw t r n d ps im kp tx cd bk py pt mt  2 ) gX10_number_X10_fails rfl ⟨rfl, rfl⟩ hd_X10_fails ⟨(Nat.le_of_ble_eq_true rfl), (Nat.le_of_ble_eq_true rfl)⟩ hK hP hD hS [0, 1, 2, 3, 4, 5, 6, 7, 8, 9, 10, 11, 12, 13] (by decide) rfl (mW_f.trans mW_f.symm) rfl (mW_f.trans mW_f.symm) (va_recv hK hP (ci := 10) (q0 := 0) rfl rfl) rfl hl.1 rfl (Nat.le_of_ble_eq_true rfl) dX10_number_44 ⟨(Nat.le_of_ble_eq_true rfl), (Nat.le_of_ble_eq_true rfl)⟩ (fun H locs hP hD hS => ?_)
      have hP : va_P G.1 vwCl (mW G a i (jF (nI (stN tx sz a0)) (nI (sk tx sz a0)) (stS tx sz a0) (stF tx sz a0) (stV tx sz a0) (nuW tx sz a0 lo hi jw)) t (nuR tx sz a0 lo hi pl r) n d ps im kp tx cd bk py pt mt) H := by rw [show (nuW tx sz a0 lo hi jw) = 2 from by unfold nuW; rw [if_neg (not_not_intro cq1), if_pos (fun h => h.2.1 cq2)], show (nuR tx sz a0 lo hi pl r) = r from if_neg (fun h => h.2.1 cq2)]; exact hP
      exact mX_zret hAe C hP hS dX10_number_47 (by decide) ((bI_f (fun h => h.2.1 cq2)).symm)
    · skip
      refine lv_aload_n hx hb dX10_number_27 rfl (lv_at hl 0 rfl) ?_
      refine va_get (D := G.1) (ci := 10) (v := .int (stV tx sz a0)) (C := RX10) (T := TX10) (N := 25) hx hb hts k1 hown hK hP 0 rfl rfl 20 (by decide) k3 (fun _ h9 => h9) rfl dX10_number_28 ?_
      refine lv_i2l (v := (stV tx sz a0).toInt64) hx hb dX10_number_31 rfl ?_
      refine lv_iload_n hx hb dX10_number_32 rfl (lv_at hl 2 rfl) ?_
      refine lv_i2l (v := lo.toInt64) hx hb dX10_number_33 rfl ?_
      refine lv_iload_n hx hb dX10_number_34 rfl (lv_at hl 3 rfl) ?_
      refine lv_i2l (v := hi.toInt64) hx hb dX10_number_35 rfl ?_
      refine cR_S (n := 3) (As := [.long ((stV tx sz a0).toInt64), .long lo.toInt64, .long hi.toInt64]) (rest := []) C (c_X10_in l G    (stV tx sz a0) ((stV tx sz a0).toInt64) rfl lo lo.toInt64 rfl hi hi.toInt64 rfl ) gX10_number_X10_in rfl ⟨rfl, rfl⟩ hd_X10_in ⟨(Nat.le_of_ble_eq_true rfl), (Nat.le_of_ble_eq_true rfl)⟩ hK (hP.sub [] rfl) rfl hl.1 rfl (Nat.le_of_ble_eq_true rfl) dX10_number_36 ⟨(Nat.le_of_ble_eq_true rfl), (Nat.le_of_ble_eq_true rfl)⟩ ?_
      refine b_if_ne (tgt := 48) hx hb dX10_number_39 (by decide) (fun cq3 => ?_) (fun cq3 => ?_)
      · skip
        refine lv_aload_n hx hb dX10_number_48 rfl (lv_at hl 0 rfl) ?_
        refine va_get (D := G.1) (ci := 10) (v := .ref (a 2)) (C := RX10) (T := TX10) (N := 25) hx hb hts k1 hown hK hP 0 rfl rfl 1 (by decide) k4 (fun _ h9 => h9) rfl dX10_number_49 ?_
        refine lv_iload_n hx hb dX10_number_52 rfl (lv_at hl 1 rfl) ?_
        refine lv_aload_n hx hb dX10_number_53 rfl (lv_at hl 0 rfl) ?_
        refine va_get (D := G.1) (ci := 10) (v := .int (stV tx sz a0)) (C := RX10) (T := TX10) (N := 25) hx hb hts k1 hown hK hP 0 rfl rfl 20 (by decide) k3 (fun _ h9 => h9) rfl dX10_number_54 ?_
        refine n_iast hx hb hK hP hD hS 2 0 rfl rfl (x := (stV tx sz a0)) (j := pl) rfl (by omega) (by decide) dX10_number_57 (wsn := mW G a i (jF (nI (stN tx sz a0)) (nI (sk tx sz a0)) (stS tx sz a0) (stF tx sz a0) (stV tx sz a0) jw) t (upd r pl (stV tx sz a0)) n d ps im kp tx cd bk py pt mt) rfl (fun H locs hP hD hS => ?_)
        refine lv_iconst (v := 1) hx hb dX10_number_58 (by decide) ?_
        have hP : va_P G.1 vwCl (mW G a i (jF (nI (stN tx sz a0)) (nI (sk tx sz a0)) (stS tx sz a0) (stF tx sz a0) (stV tx sz a0) (nuW tx sz a0 lo hi jw)) t (nuR tx sz a0 lo hi pl r) n d ps im kp tx cd bk py pt mt) H := by rw [show (nuW tx sz a0 lo hi jw) = jw from by unfold nuW; rw [if_neg (not_not_intro cq1), if_neg (not_not_intro ⟨cq1, cq2, cq3⟩)], show (nuR tx sz a0 lo hi pl r) = (upd r pl (stV tx sz a0)) from if_pos ⟨cq1, cq2, cq3⟩]; exact hP
        exact mX_zret hAe C hP hS dX10_number_59 (by decide) ((bI_t ⟨cq1, cq2, cq3⟩).symm)
      · skip
        refine lv_aload_n hx hb dX10_number_42 rfl (lv_at hl 0 rfl) ?_
        refine lv_iconst (v := 2) hx hb dX10_number_43 (by decide) ?_
        refine cX_V (Cn := RX10) (n := 1) (As := [.int 2]) (rest := []) (wsn := mW G a i (jF (nI (stN tx sz a0)) (nI (sk tx sz a0)) (stS tx sz a0) (stF tx sz a0) (stV tx sz a0) 2) t r n d ps im kp tx cd bk py pt mt) C (c_X10_fails l G a i (stN tx sz a0) (nI (sk tx sz a0)) (stS tx sz a0) (stF tx sz a0) (stV tx sz a0) jw t r n d ps im kp tx cd bk py pt mt  2 ) gX10_number_X10_fails rfl ⟨rfl, rfl⟩ hd_X10_fails ⟨(Nat.le_of_ble_eq_true rfl), (Nat.le_of_ble_eq_true rfl)⟩ hK hP hD hS [0, 1, 2, 3, 4, 5, 6, 7, 8, 9, 10, 11, 12, 13] (by decide) rfl (mW_f.trans mW_f.symm) rfl (mW_f.trans mW_f.symm) (va_recv hK hP (ci := 10) (q0 := 0) rfl rfl) rfl hl.1 rfl (Nat.le_of_ble_eq_true rfl) dX10_number_44 ⟨(Nat.le_of_ble_eq_true rfl), (Nat.le_of_ble_eq_true rfl)⟩ (fun H locs hP hD hS => ?_)
        have hP : va_P G.1 vwCl (mW G a i (jF (nI (stN tx sz a0)) (nI (sk tx sz a0)) (stS tx sz a0) (stF tx sz a0) (stV tx sz a0) (nuW tx sz a0 lo hi jw)) t (nuR tx sz a0 lo hi pl r) n d ps im kp tx cd bk py pt mt) H := by rw [show (nuW tx sz a0 lo hi jw) = 2 from by unfold nuW; rw [if_neg (not_not_intro cq1), if_pos (fun h => cq3 h.2.2)], show (nuR tx sz a0 lo hi pl r) = r from if_neg (fun h => cq3 h.2.2)]; exact hP
        exact mX_zret hAe C hP hS dX10_number_47 (by decide) ((bI_f (fun h => cq3 h.2.2)).symm)
  · skip
    refine lv_aload_n hx hb dX10_number_13 rfl (lv_at hl 0 rfl) ?_
    refine lv_iconst (v := 1) hx hb dX10_number_14 (by decide) ?_
    refine cX_V (Cn := RX10) (n := 1) (As := [.int 1]) (rest := []) (wsn := mW G a i (jF (nI (stN tx sz a0)) (nI (sk tx sz a0)) (stS tx sz a0) (stF tx sz a0) (stV tx sz a0) 1) t r n d ps im kp tx cd bk py pt mt) C (c_X10_fails l G a i (stN tx sz a0) (nI (sk tx sz a0)) (stS tx sz a0) (stF tx sz a0) (stV tx sz a0) jw t r n d ps im kp tx cd bk py pt mt  1 ) gX10_number_X10_fails rfl ⟨rfl, rfl⟩ hd_X10_fails ⟨(Nat.le_of_ble_eq_true rfl), (Nat.le_of_ble_eq_true rfl)⟩ hK hP hD hS [0, 1, 2, 3, 4, 5, 6, 7, 8, 9, 10, 11, 12, 13] (by decide) rfl (mW_f.trans mW_f.symm) rfl (mW_f.trans mW_f.symm) (va_recv hK hP (ci := 10) (q0 := 0) rfl rfl) rfl hl.1 rfl (Nat.le_of_ble_eq_true rfl) dX10_number_15 ⟨(Nat.le_of_ble_eq_true rfl), (Nat.le_of_ble_eq_true rfl)⟩ (fun H locs hP hD hS => ?_)
    have hP : va_P G.1 vwCl (mW G a i (jF (nI (stN tx sz a0)) (nI (sk tx sz a0)) (stS tx sz a0) (stF tx sz a0) (stV tx sz a0) (nuW tx sz a0 lo hi jw)) t (nuR tx sz a0 lo hi pl r) n d ps im kp tx cd bk py pt mt) H := by rw [show (nuW tx sz a0 lo hi jw) = 1 from by unfold nuW; rw [if_pos cq1], show (nuR tx sz a0 lo hi pl r) = r from if_neg (fun h => cq1 h.1)]; exact hP
    exact mX_zret hAe C hP hS dX10_number_18 (by decide) ((bI_f (fun h => cq1 h.1)).symm)
theorem hd_X10_ends : yX10_ends.cls = RX10 ∧ yX10_ends.cls ≠ "java/lang/invoke/MethodHandle" ∧ yX10_ends.cls ≠ "java/lang/invoke/VarHandle" ∧ (parseMethodDescriptor yX10_ends.desc).map (fun d => d.parameters.length) = some 0 := by decide +kernel
set_option maxRecDepth 100000 in
set_option maxHeartbeats 4000000 in
theorem c_X10_ends (l : Launch) (G : gG) (a : Nat → Nat) (i : Nat → Int32) (a0 : Nat) (jb js jf jv jw : Int32) (t : Nat → Int32) (r : Nat → Int32) (n : Nat → Int32) (d : Nat → Int32) (ps : Nat → Int32) (im : Nat → Int32) (kp : Nat → Int32) (tx : Nat → Int32) (cd : Nat → Int32) (bk : Nat → Int32) (py : Nat → Int32) (pt : Nat → Int32) (mt : Nat → Int32) (sz : Nat) (hsz : i 10 = nI sz) (hs : sz ≤ 240) (ha : a0 ≤ sz) : mX l yX10_ends wsX10_ends ({ frames := 2, cells := 0, slots := 0, locals := 45 }) G (mW G a i (jF (nI a0) jb js jf jv jw) t r n d ps im kp tx cd bk py pt mt) (mW G a i (jF (nI (stN tx sz a0)) (nI (sk tx sz a0)) (stS tx sz a0) (stF tx sz a0) (stV tx sz a0) (enW tx sz a0 jw)) t r n d ps im kp tx cd bk py pt mt) [.ref (a 0)] (.returned (some (.int (bI (stS tx sz a0 = 59))))) := by
  refine mX.of (cc := cX10_ends) (maxL := 1) (ret := (some .boolean)) (by decide) rfl (Nat.le_of_ble_eq_true rfl) ?_
  intro zp ze zs zm zb zt zc ls A hAe C hP hK hD hS hl
  obtain ⟨hx, hb, hr, hml, hown, hts, hlk⟩ := id C
  have hl : lv_has ls 1 [(0, .ref (a 0))] := hl
  have k0 := hts (.fieldLink RX10 95 "DebtDowryModel" "sign" "I") (by decide +kernel)
  have k1 := (fun w h => by revert w; decide +kernel : ∀ w ∈ wsX100, w ∈ wsX10_ends)
  refine lv_aload_n hx hb dX10_ends_0 rfl (lv_at hl 0 rfl) ?_
  refine cX_V (Cn := RX10) (n := 0) (As := []) (rest := []) (wsn := mW G a i (jF (nI (stN tx sz a0)) (nI (sk tx sz a0)) (stS tx sz a0) (stF tx sz a0) (stV tx sz a0) jw) t r n d ps im kp tx cd bk py pt mt) C (c_X10_step l G a i a0 jb js jf jv jw t r n d ps im kp tx cd bk py pt mt sz  hsz hs (by omega)) gX10_ends_X10_step rfl ⟨rfl, rfl⟩ hd_X10_step ⟨(Nat.le_of_ble_eq_true rfl), (Nat.le_of_ble_eq_true rfl)⟩ hK hP hD hS [0, 1, 2, 3, 4, 5, 6, 7, 8, 9, 10, 11, 12, 13] (by decide) rfl (mW_f.trans mW_f.symm) rfl (mW_f.trans mW_f.symm) (va_recv hK hP (ci := 10) (q0 := 0) rfl rfl) rfl hl.1 rfl (Nat.le_of_ble_eq_true rfl) dX10_ends_1 ⟨(Nat.le_of_ble_eq_true rfl), (Nat.le_of_ble_eq_true rfl)⟩ (fun H locs hP hD hS => ?_)
  refine lv_aload_n hx hb dX10_ends_4 rfl (lv_at hl 0 rfl) ?_
  refine va_get (D := G.1) (ci := 10) (v := .int (stS tx sz a0)) (C := RX10) (T := TX10) (N := 25) hx hb hts k1 hown hK hP 0 rfl rfl 18 (by decide) k0 (fun _ h9 => h9) rfl dX10_ends_5 ?_
  refine lv_bipush (v := 59) hx hb dX10_ends_8 (by decide) ?_
  refine lv_icmp_eq (tgt := 21) hx hb dX10_ends_10 (by decide) (fun cq1 => ?_) (fun cq1 => ?_)
  · skip
    refine lv_iconst (v := 1) hx hb dX10_ends_21 (by decide) ?_
    refine lv_goto (tgt := 26) hx hb dX10_ends_22 (by decide) ?_
    have hP : va_P G.1 vwCl (mW G a i (jF (nI (stN tx sz a0)) (nI (sk tx sz a0)) (stS tx sz a0) (stF tx sz a0) (stV tx sz a0) (enW tx sz a0 jw)) t r n d ps im kp tx cd bk py pt mt) H := by rw [show (enW tx sz a0 jw) = jw from by unfold enW; first | rw [if_pos cq1] | rw [if_neg cq1]]; exact hP
    exact mX_zret hAe C hP hS dX10_ends_26 (by decide) ((bI_t cq1).symm)
  · skip
    refine lv_aload_n hx hb dX10_ends_13 rfl (lv_at hl 0 rfl) ?_
    refine lv_iconst (v := 1) hx hb dX10_ends_14 (by decide) ?_
    refine cX_V (Cn := RX10) (n := 1) (As := [.int 1]) (rest := []) (wsn := mW G a i (jF (nI (stN tx sz a0)) (nI (sk tx sz a0)) (stS tx sz a0) (stF tx sz a0) (stV tx sz a0) 1) t r n d ps im kp tx cd bk py pt mt) C (c_X10_fails l G a i (stN tx sz a0) (nI (sk tx sz a0)) (stS tx sz a0) (stF tx sz a0) (stV tx sz a0) jw t r n d ps im kp tx cd bk py pt mt  1 ) gX10_ends_X10_fails rfl ⟨rfl, rfl⟩ hd_X10_fails ⟨(Nat.le_of_ble_eq_true rfl), (Nat.le_of_ble_eq_true rfl)⟩ hK hP hD hS [0, 1, 2, 3, 4, 5, 6, 7, 8, 9, 10, 11, 12, 13] (by decide) rfl (mW_f.trans mW_f.symm) rfl (mW_f.trans mW_f.symm) (va_recv hK hP (ci := 10) (q0 := 0) rfl rfl) rfl hl.1 rfl (Nat.le_of_ble_eq_true rfl) dX10_ends_15 ⟨(Nat.le_of_ble_eq_true rfl), (Nat.le_of_ble_eq_true rfl)⟩ (fun H locs hP hD hS => ?_)
    refine lv_if_eq (tgt := 25) hx hb dX10_ends_18 (by decide) (fun cq2 => ?_) (fun cq2 => ?_)
    rotate_left
    · exact absurd cq2 (by decide)
    refine lv_iconst (v := 0) hx hb dX10_ends_25 (by decide) ?_
    have hP : va_P G.1 vwCl (mW G a i (jF (nI (stN tx sz a0)) (nI (sk tx sz a0)) (stS tx sz a0) (stF tx sz a0) (stV tx sz a0) (enW tx sz a0 jw)) t r n d ps im kp tx cd bk py pt mt) H := by rw [show (enW tx sz a0 jw) = 1 from by unfold enW; first | rw [if_pos cq1] | rw [if_neg cq1]]; exact hP
    exact mX_zret hAe C hP hS dX10_ends_26 (by decide) ((bI_f cq1).symm)
