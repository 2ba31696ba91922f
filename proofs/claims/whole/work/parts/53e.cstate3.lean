theorem hd_X7_mayReachLow : yX7_mayReachLow.cls = RX7 ∧ yX7_mayReachLow.cls ≠ "java/lang/invoke/MethodHandle" ∧ yX7_mayReachLow.cls ≠ "java/lang/invoke/VarHandle" ∧ (parseMethodDescriptor yX7_mayReachLow.desc).map (fun d => d.parameters.length) = some 2 := by decide +kernel
set_option maxRecDepth 100000 in
set_option maxHeartbeats 4000000 in
theorem c_X7_mayReachLow (l : Launch) (G : gG) (s0 : Nat) (s1 : Nat) (s2 : Nat) (s3 : Nat) (s4 : Nat) (b0 : Nat) (b1 : Nat) (b2 : Nat) (b3 : Nat) (t : Nat → Int32) (n : Nat → Int32) (nc : Nat) (np : Nat) (p : Nat) (c : Nat) (hT : tw t nc np) (hp : p < np) (hc : c < 4) : mR l yX7_mayReachLow wsX7_mayReachLow ({ frames := 4, cells := 0, slots := 0, locals := 86 }) G (sW G s0 s1 s2 s3 s4 b0 b1 b2 b3 t n) [.ref s0, .int (nI p), .int (nI c)] (bI (mrB t n p c)) := by
  refine mR.of (cc := cX7_mayReachLow) (maxL := 4) (ret := (some .boolean)) (by decide) rfl (Nat.le_of_ble_eq_true rfl) ?_
  intro zp ze zs zm zb zt zc ls C hP hK hl
  obtain ⟨hx, hb, hr, hml, hown, hts, hlk⟩ := id C
  have hl : lv_has ls 4 [(0, .ref s0), (1, .int (nI p)), (2, .int (nI c))] := hl
  have hT2 := hT.2.2
  have k0 := hts (.fieldLink RX7 24 "DebtDowry$State" "terms" "LDebtDowry$Terms;") (by decide +kernel)
  have k1 := (fun w h => by revert w; decide +kernel : ∀ w ∈ wsX70, w ∈ wsX7_mayReachLow)
  have k2 := hts (.fieldLink RX7 69 "DebtDowry$Terms" "low" "[I") (by decide +kernel)
  have k3 := (fun w h => by revert w; decide +kernel : ∀ w ∈ wsX80, w ∈ wsX7_mayReachLow)
  refine lv_aload_n hx hb dX7_mayReachLow_0 rfl (lv_at hl 0 rfl) ?_
  refine lv_iload_n hx hb dX7_mayReachLow_1 rfl (lv_at hl 1 rfl) ?_
  refine lv_iload_n hx hb dX7_mayReachLow_2 rfl (lv_at hl 2 rfl) ?_
  refine cR_V (Cn := RX7) (n := 2) (As := [.int (nI p), .int (nI c)]) (rest := []) C (c_X7_moodTo l G s0 s1 s2 s3 s4 b0 b1 b2 b3 t n  p c (by omega) (by omega)) gX7_mayReachLow_X7_moodTo rfl ⟨rfl, rfl⟩ hd_X7_moodTo ⟨(Nat.le_of_ble_eq_true rfl), (Nat.le_of_ble_eq_true rfl)⟩ hK hP (va_recv hK hP (ci := 7) (q0 := 0) rfl rfl) rfl hl.1 rfl (Nat.le_of_ble_eq_true rfl) dX7_mayReachLow_3 ⟨(Nat.le_of_ble_eq_true rfl), (Nat.le_of_ble_eq_true rfl)⟩ ?_
  refine lv_if_ne (tgt := 22) hx hb dX7_mayReachLow_6 (by decide) (fun cq1 => ?_) (fun cq1 => ?_)
  · skip
    refine lv_iconst (v := 0) hx hb dX7_mayReachLow_22 (by decide) ?_
    refine lv_istore_n (lv' := [(3, .int 0), (0, .ref s0), (1, .int (nI p)), (2, .int (nI c))]) hx hb dX7_mayReachLow_23 rfl hl (by decide) rfl (fun ls hl => ?_)
    refine lv_iload_n hx hb dX7_mayReachLow_24 rfl (lv_at hl 0 rfl) ?_
    refine lv_if_eq (tgt := 57) hx hb dX7_mayReachLow_25 (by decide) (fun cq2 => ?_) (fun cq2 => ?_)
    rotate_left
    · exact absurd cq2 (by decide)
    refine lv_iconst (v := 0) hx hb dX7_mayReachLow_57 (by decide) ?_
    exact mR_zret C dX7_mayReachLow_58 (by decide) ((bI_f (fun h => cq1 h.1)).symm)
  · skip
    refine lv_aload_n hx hb dX7_mayReachLow_9 rfl (lv_at hl 0 rfl) ?_
    refine lv_iload_n hx hb dX7_mayReachLow_10 rfl (lv_at hl 1 rfl) ?_
    refine lv_iload_n hx hb dX7_mayReachLow_11 rfl (lv_at hl 2 rfl) ?_
    refine cR_V (Cn := RX7) (n := 2) (As := [.int (nI p), .int (nI c)]) (rest := []) C (c_X7_hasInsulted l G s0 s1 s2 s3 s4 b0 b1 b2 b3 t n  p c (by omega)) gX7_mayReachLow_X7_hasInsulted rfl ⟨rfl, rfl⟩ hd_X7_hasInsulted ⟨(Nat.le_of_ble_eq_true rfl), (Nat.le_of_ble_eq_true rfl)⟩ hK hP (va_recv hK hP (ci := 7) (q0 := 0) rfl rfl) rfl hl.1 rfl (Nat.le_of_ble_eq_true rfl) dX7_mayReachLow_12 ⟨(Nat.le_of_ble_eq_true rfl), (Nat.le_of_ble_eq_true rfl)⟩ ?_
    refine b_if_ne (tgt := 22) hx hb dX7_mayReachLow_15 (by decide) (fun cq3 => ?_) (fun cq3 => ?_)
    · skip
      refine lv_iconst (v := 0) hx hb dX7_mayReachLow_22 (by decide) ?_
      refine lv_istore_n (lv' := [(3, .int 0), (0, .ref s0), (1, .int (nI p)), (2, .int (nI c))]) hx hb dX7_mayReachLow_23 rfl hl (by decide) rfl (fun ls hl => ?_)
      refine lv_iload_n hx hb dX7_mayReachLow_24 rfl (lv_at hl 0 rfl) ?_
      refine lv_if_eq (tgt := 57) hx hb dX7_mayReachLow_25 (by decide) (fun cq4 => ?_) (fun cq4 => ?_)
      rotate_left
      · exact absurd cq4 (by decide)
      refine lv_iconst (v := 0) hx hb dX7_mayReachLow_57 (by decide) ?_
      exact mR_zret C dX7_mayReachLow_58 (by decide) ((bI_f (fun h => h.2.1 cq3)).symm)
    · skip
      refine lv_iconst (v := 1) hx hb dX7_mayReachLow_18 (by decide) ?_
      refine lv_goto (tgt := 23) hx hb dX7_mayReachLow_19 (by decide) ?_
      refine lv_istore_n (lv' := [(3, .int 1), (0, .ref s0), (1, .int (nI p)), (2, .int (nI c))]) hx hb dX7_mayReachLow_23 rfl hl (by decide) rfl (fun ls hl => ?_)
      refine lv_iload_n hx hb dX7_mayReachLow_24 rfl (lv_at hl 0 rfl) ?_
      refine lv_if_eq (tgt := 57) hx hb dX7_mayReachLow_25 (by decide) (fun cq5 => ?_) (fun cq5 => ?_)
      · exact absurd cq5 (by decide)
      refine lv_aload_n hx hb dX7_mayReachLow_28 rfl (lv_at hl 1 rfl) ?_
      refine lv_iload_n hx hb dX7_mayReachLow_29 rfl (lv_at hl 2 rfl) ?_
      refine lv_iload_n hx hb dX7_mayReachLow_30 rfl (lv_at hl 3 rfl) ?_
      refine lv_aload_n hx hb dX7_mayReachLow_31 rfl (lv_at hl 1 rfl) ?_
      refine va_get (D := G.1) (ci := 7) (v := .ref b0) (C := RX7) (T := TX7) (N := 7) hx hb hts k1 hown hK hP 0 rfl rfl 0 (by decide) k0 (fun _ h9 => h9) rfl dX7_mayReachLow_32 ?_
      refine va_get (D := G.1) (ci := 8) (v := .ref b1) (C := RX8) (T := TX8) (N := 9) hx hb hts k3 hown hK hP 5 rfl rfl 6 (by decide) k2 (fun _ h9 => h9) rfl dX7_mayReachLow_35 ?_
      refine lv_iload_n hx hb dX7_mayReachLow_38 rfl (lv_at hl 3 rfl) ?_
      refine n_iald hx hb hK hP 6 0 rfl rfl (j := c) rfl (by omega) (by decide) dX7_mayReachLow_39 ?_
      refine lv_aload_n hx hb dX7_mayReachLow_40 rfl (lv_at hl 1 rfl) ?_
      refine lv_iload_n hx hb dX7_mayReachLow_41 rfl (lv_at hl 2 rfl) ?_
      refine lv_iload_n hx hb dX7_mayReachLow_42 rfl (lv_at hl 3 rfl) ?_
      refine cR_V (Cn := RX7) (n := 2) (As := [.int (nI p), .int (nI c)]) (rest := [.int (t (9 + c)), .int (nI c), .int (nI p), .ref s0]) C (c_X7_owedTo l G s0 s1 s2 s3 s4 b0 b1 b2 b3 t n  p c (by omega) (by omega)) gX7_mayReachLow_X7_owedTo rfl ⟨rfl, rfl⟩ hd_X7_owedTo ⟨(Nat.le_of_ble_eq_true rfl), (Nat.le_of_ble_eq_true rfl)⟩ hK hP (va_recv hK hP (ci := 7) (q0 := 0) rfl rfl) rfl hl.1 rfl (Nat.le_of_ble_eq_true rfl) dX7_mayReachLow_43 ⟨(Nat.le_of_ble_eq_true rfl), (Nat.le_of_ble_eq_true rfl)⟩ ?_
      refine lv_isub hx hb dX7_mayReachLow_46 ?_
      refine cR_V (Cn := RX7) (n := 3) (As := [.int (nI p), .int (nI c), .int ((t (9 + c)) - (n (4 * p + c)))]) (rest := []) C (c_X7_mayBorrow l G s0 s1 s2 s3 s4 b0 b1 b2 b3 t n nc np p c ((t (9 + c)) - (n (4 * p + c))) hT (by omega) (by omega)) gX7_mayReachLow_X7_mayBorrow rfl ⟨rfl, rfl⟩ hd_X7_mayBorrow ⟨(Nat.le_of_ble_eq_true rfl), (Nat.le_of_ble_eq_true rfl)⟩ hK hP (va_recv hK hP (ci := 7) (q0 := 0) rfl rfl) rfl hl.1 rfl (Nat.le_of_ble_eq_true rfl) dX7_mayReachLow_47 ⟨(Nat.le_of_ble_eq_true rfl), (Nat.le_of_ble_eq_true rfl)⟩ ?_
      refine b_if_eq (tgt := 57) hx hb dX7_mayReachLow_50 (by decide) (fun cq6 => ?_) (fun cq6 => ?_)
      · skip
        refine lv_iconst (v := 0) hx hb dX7_mayReachLow_57 (by decide) ?_
        exact mR_zret C dX7_mayReachLow_58 (by decide) ((bI_f (fun h => cq6 h.2.2)).symm)
      · skip
        refine lv_iconst (v := 1) hx hb dX7_mayReachLow_53 (by decide) ?_
        refine lv_goto (tgt := 58) hx hb dX7_mayReachLow_54 (by decide) ?_
        exact mR_zret C dX7_mayReachLow_58 (by decide) ((bI_t ⟨cq1, cq3, cq6⟩).symm)
theorem hd_X7_coinsFor : yX7_coinsFor.cls = RX7 ∧ yX7_coinsFor.cls ≠ "java/lang/invoke/MethodHandle" ∧ yX7_coinsFor.cls ≠ "java/lang/invoke/VarHandle" ∧ (parseMethodDescriptor yX7_coinsFor.desc).map (fun d => d.parameters.length) = some 2 := by decide +kernel
set_option maxRecDepth 100000 in
set_option maxHeartbeats 4000000 in
theorem c_X7_coinsFor (l : Launch) (G : gG) (s0 : Nat) (s1 : Nat) (s2 : Nat) (s3 : Nat) (s4 : Nat) (b0 : Nat) (b1 : Nat) (b2 : Nat) (b3 : Nat) (t : Nat → Int32) (n : Nat → Int32) (nc : Nat) (np : Nat) (p : Nat) (s : Nat) (hT : tw t nc np) (hp : p < 8) : mR l yX7_coinsFor wsX7_coinsFor ({ frames := 1, cells := 0, slots := 0, locals := 22 }) G (sW G s0 s1 s2 s3 s4 b0 b1 b2 b3 t n) [.ref s0, .int (nI p), .int (nI s)] (cfU t n p s nc) := by
  refine mR.of (cc := cX7_coinsFor) (maxL := 5) (ret := (some .int)) (by decide) rfl (Nat.le_of_ble_eq_true rfl) ?_
  intro zp ze zs zm zb zt zc ls C hP hK hl
  obtain ⟨hx, hb, hr, hml, hown, hts, hlk⟩ := id C
  have hl : lv_has ls 5 [(0, .ref s0), (1, .int (nI p)), (2, .int (nI s))] := hl
  have hT2 := hT.2.2
  have k0 := hts (.fieldLink RX7 24 "DebtDowry$State" "terms" "LDebtDowry$Terms;") (by decide +kernel)
  have k1 := (fun w h => by revert w; decide +kernel : ∀ w ∈ wsX70, w ∈ wsX7_coinsFor)
  have k2 := hts (.fieldLink RX7 47 "DebtDowry$Terms" "creditors" "I") (by decide +kernel)
  have k3 := (fun w h => by revert w; decide +kernel : ∀ w ∈ wsX80, w ∈ wsX7_coinsFor)
  have k4 := hts (.fieldLink RX7 69 "DebtDowry$Terms" "low" "[I") (by decide +kernel)
  refine lv_iconst (v := 0) hx hb dX7_coinsFor_0 (by decide) ?_
  refine lv_istore_n (lv' := [(3, .int 0), (0, .ref s0), (1, .int (nI p)), (2, .int (nI s))]) hx hb dX7_coinsFor_1 rfl hl (by decide) rfl (fun ls hl => ?_)
  refine lv_iconst (v := 0) hx hb dX7_coinsFor_2 (by decide) ?_
  refine lv_istore (lv' := [(4, .int 0), (3, .int 0), (0, .ref s0), (1, .int (nI p)), (2, .int (nI s))]) hx hb dX7_coinsFor_3 hl (by decide) rfl (fun ls hl => ?_)
  refine wl_R (B := nc) (i0 := 0) (Inv := fun i1 ls => lv_has ls 5 [(0, .ref s0), (1, .int (nI p)), (2, .int (nI s)), (3, .int (cfU t n p s i1)), (4, .int (nI i1))] ∧ True) (by omega) ⟨lv_sub hl [2, 3, 4, 1, 0] (rfl), trivial⟩ ?_
  rintro i1 ls hle5 ⟨hl, -⟩ ih5
  refine lv_iload hx hb dX7_coinsFor_5 (lv_at hl 4 rfl) ?_
  refine lv_aload_n hx hb dX7_coinsFor_7 rfl (lv_at hl 0 rfl) ?_
  refine va_get (D := G.1) (ci := 7) (v := .ref b0) (C := RX7) (T := TX7) (N := 7) hx hb hts k1 hown hK hP 0 rfl rfl 0 (by decide) k0 (fun _ h9 => h9) rfl dX7_coinsFor_8 ?_
  refine va_get (D := G.1) (ci := 8) (v := .int (t 3)) (C := RX8) (T := TX8) (N := 9) hx hb hts k3 hown hK hP 5 rfl rfl 3 (by decide) k2 (fun _ h9 => h9) rfl dX7_coinsFor_11 ?_
  refine n_icmp_ge (tgt := 54) hx hb dX7_coinsFor_14 (by decide) (u := i1) (v := nc) rfl hT.1 (by omega) (by omega) (fun cq1 => ?_) (fun cq1 => ?_)
  · skip
    obtain rfl : nc = i1 := by omega
    refine lv_iload_n hx hb dX7_coinsFor_54 rfl (lv_at hl 3 rfl) ?_
    exact mR_iret C dX7_coinsFor_55 (rfl)
  · skip
    refine lv_iload_n hx hb dX7_coinsFor_17 rfl (lv_at hl 2 rfl) ?_
    refine lv_iload hx hb dX7_coinsFor_18 (lv_at hl 4 rfl) ?_
    refine lv_ishr hx hb dX7_coinsFor_20 ?_
    refine lv_iconst (v := 1) hx hb dX7_coinsFor_21 (by decide) ?_
    refine lv_iand hx hb dX7_coinsFor_22 ?_
    refine lv_iconst (v := 1) hx hb dX7_coinsFor_23 (by decide) ?_
    refine lv_icmp_ne (tgt := 48) hx hb dX7_coinsFor_24 (by decide) (fun cq2 => ?_) (fun cq2 => ?_)
    · skip
      refine lv_iinc (v := nI (i1 + 1)) (lv' := [(4, .int (nI (i1 + 1))), (0, .ref s0), (1, .int (nI p)), (2, .int (nI s)), (3, .int (cfU t n p s i1))]) hx hb dX7_coinsFor_48 hl (k := 4) rfl (by rw [show (nI i1 : Int32) = nI i1 from rfl]; exact nI_add _ 1) (by decide) rfl (fun ls hl => ?_)
      refine lv_goto (tgt := 5) hx hb dX7_coinsFor_51 (by decide) ?_
      have e3 : cfU t n p s i1 = cfU t n p s (i1 + 1) := by simp [cfU, cq1, cq2]
      exact ih5 _ (by omega) ⟨lv_sub hl [1, 2, 3, 4, 0] (by rw [← e3]; rfl), trivial⟩
    · skip
      refine lv_iload_n hx hb dX7_coinsFor_27 rfl (lv_at hl 3 rfl) ?_
      refine lv_aload_n hx hb dX7_coinsFor_28 rfl (lv_at hl 0 rfl) ?_
      refine va_get (D := G.1) (ci := 7) (v := .ref b0) (C := RX7) (T := TX7) (N := 7) hx hb hts k1 hown hK hP 0 rfl rfl 0 (by decide) k0 (fun _ h9 => h9) rfl dX7_coinsFor_29 ?_
      refine va_get (D := G.1) (ci := 8) (v := .ref b1) (C := RX8) (T := TX8) (N := 9) hx hb hts k3 hown hK hP 5 rfl rfl 6 (by decide) k4 (fun _ h9 => h9) rfl dX7_coinsFor_32 ?_
      refine lv_iload hx hb dX7_coinsFor_35 (lv_at hl 4 rfl) ?_
      refine n_iald hx hb hK hP 6 0 rfl rfl (j := i1) rfl (by omega) (by decide) dX7_coinsFor_37 ?_
      refine lv_aload_n hx hb dX7_coinsFor_38 rfl (lv_at hl 0 rfl) ?_
      refine lv_iload_n hx hb dX7_coinsFor_39 rfl (lv_at hl 1 rfl) ?_
      refine lv_iload hx hb dX7_coinsFor_40 (lv_at hl 4 rfl) ?_
      refine cR_V (Cn := RX7) (n := 2) (As := [.int (nI p), .int (nI i1)]) (rest := [.int (t (9 + i1)), .int (cfU t n p s i1)]) C (c_X7_owedTo l G s0 s1 s2 s3 s4 b0 b1 b2 b3 t n  p i1 (by omega) (by omega)) gX7_coinsFor_X7_owedTo rfl ⟨rfl, rfl⟩ hd_X7_owedTo ⟨(Nat.le_of_ble_eq_true rfl), (Nat.le_of_ble_eq_true rfl)⟩ hK hP (va_recv hK hP (ci := 7) (q0 := 0) rfl rfl) rfl hl.1 rfl (Nat.le_of_ble_eq_true rfl) dX7_coinsFor_42 ⟨(Nat.le_of_ble_eq_true rfl), (Nat.le_of_ble_eq_true rfl)⟩ ?_
      refine lv_isub hx hb dX7_coinsFor_45 ?_
      refine lv_iadd hx hb dX7_coinsFor_46 ?_
      refine lv_istore_n (lv' := [(3, .int ((cfU t n p s i1) + ((t (9 + i1)) - (n (4 * p + i1))))), (0, .ref s0), (1, .int (nI p)), (2, .int (nI s)), (4, .int (nI i1))]) hx hb dX7_coinsFor_47 rfl hl (by decide) rfl (fun ls hl => ?_)
      refine lv_iinc (v := nI (i1 + 1)) (lv' := [(4, .int (nI (i1 + 1))), (3, .int ((cfU t n p s i1) + ((t (9 + i1)) - (n (4 * p + i1))))), (0, .ref s0), (1, .int (nI p)), (2, .int (nI s))]) hx hb dX7_coinsFor_48 hl (k := 4) rfl (by rw [show (nI i1 : Int32) = nI i1 from rfl]; exact nI_add _ 1) (by decide) rfl (fun ls hl => ?_)
      refine lv_goto (tgt := 5) hx hb dX7_coinsFor_51 (by decide) ?_
      have e4 : (cfU t n p s i1) + ((t (9 + i1)) - (n (4 * p + i1))) = cfU t n p s (i1 + 1) := by simp [cfU, cq1, cq2]
      exact ih5 _ (by omega) ⟨lv_sub hl [2, 3, 4, 1, 0] (by rw [← e4]; rfl), trivial⟩
theorem hd_X7_worthOfSet : yX7_worthOfSet.cls = RX7 ∧ yX7_worthOfSet.cls ≠ "java/lang/invoke/MethodHandle" ∧ yX7_worthOfSet.cls ≠ "java/lang/invoke/VarHandle" ∧ (parseMethodDescriptor yX7_worthOfSet.desc).map (fun d => d.parameters.length) = some 1 := by decide +kernel
set_option maxRecDepth 100000 in
set_option maxHeartbeats 4000000 in
theorem c_X7_worthOfSet (l : Launch) (G : gG) (s0 : Nat) (s1 : Nat) (s2 : Nat) (s3 : Nat) (s4 : Nat) (b0 : Nat) (b1 : Nat) (b2 : Nat) (b3 : Nat) (t : Nat → Int32) (n : Nat → Int32) (nc : Nat) (np : Nat) (s : Nat) (hT : tw t nc np) : mR l yX7_worthOfSet wsX7_worthOfSet ({ frames := 0, cells := 0, slots := 0, locals := 0 }) G (sW G s0 s1 s2 s3 s4 b0 b1 b2 b3 t n) [.ref s0, .int (nI s)] (wsU t s nc) := by
  refine mR.of (cc := cX7_worthOfSet) (maxL := 4) (ret := (some .int)) (by decide) rfl (Nat.le_of_ble_eq_true rfl) ?_
  intro zp ze zs zm zb zt zc ls C hP hK hl
  obtain ⟨hx, hb, hr, hml, hown, hts, hlk⟩ := id C
  have hl : lv_has ls 4 [(0, .ref s0), (1, .int (nI s))] := hl
  have hT2 := hT.2.2
  have k0 := hts (.fieldLink RX7 24 "DebtDowry$State" "terms" "LDebtDowry$Terms;") (by decide +kernel)
  have k1 := (fun w h => by revert w; decide +kernel : ∀ w ∈ wsX70, w ∈ wsX7_worthOfSet)
  have k2 := hts (.fieldLink RX7 47 "DebtDowry$Terms" "creditors" "I") (by decide +kernel)
  have k3 := (fun w h => by revert w; decide +kernel : ∀ w ∈ wsX80, w ∈ wsX7_worthOfSet)
  have k4 := hts (.fieldLink RX7 86 "DebtDowry$Terms" "great" "[I") (by decide +kernel)
  refine lv_iconst (v := 0) hx hb dX7_worthOfSet_0 (by decide) ?_
  refine lv_istore_n (lv' := [(2, .int 0), (0, .ref s0), (1, .int (nI s))]) hx hb dX7_worthOfSet_1 rfl hl (by decide) rfl (fun ls hl => ?_)
  refine lv_iconst (v := 0) hx hb dX7_worthOfSet_2 (by decide) ?_
  refine lv_istore_n (lv' := [(3, .int 0), (2, .int 0), (0, .ref s0), (1, .int (nI s))]) hx hb dX7_worthOfSet_3 rfl hl (by decide) rfl (fun ls hl => ?_)
  refine wl_R (B := nc) (i0 := 0) (Inv := fun i1 ls => lv_has ls 4 [(0, .ref s0), (1, .int (nI s)), (2, .int (wsU t s i1)), (3, .int (nI i1))] ∧ True) (by omega) ⟨lv_sub hl [2, 3, 1, 0] (rfl), trivial⟩ ?_
  rintro i1 ls hle4 ⟨hl, -⟩ ih4
  refine lv_iload_n hx hb dX7_worthOfSet_4 rfl (lv_at hl 3 rfl) ?_
  refine lv_aload_n hx hb dX7_worthOfSet_5 rfl (lv_at hl 0 rfl) ?_
  refine va_get (D := G.1) (ci := 7) (v := .ref b0) (C := RX7) (T := TX7) (N := 7) hx hb hts k1 hown hK hP 0 rfl rfl 0 (by decide) k0 (fun _ h9 => h9) rfl dX7_worthOfSet_6 ?_
  refine va_get (D := G.1) (ci := 8) (v := .int (t 3)) (C := RX8) (T := TX8) (N := 9) hx hb hts k3 hown hK hP 5 rfl rfl 3 (by decide) k2 (fun _ h9 => h9) rfl dX7_worthOfSet_9 ?_
  refine n_icmp_ge (tgt := 42) hx hb dX7_worthOfSet_12 (by decide) (u := i1) (v := nc) rfl hT.1 (by omega) (by omega) (fun cq1 => ?_) (fun cq1 => ?_)
  · skip
    obtain rfl : nc = i1 := by omega
    refine lv_iload_n hx hb dX7_worthOfSet_42 rfl (lv_at hl 2 rfl) ?_
    exact mR_iret C dX7_worthOfSet_43 (rfl)
  · skip
    refine lv_iload_n hx hb dX7_worthOfSet_15 rfl (lv_at hl 1 rfl) ?_
    refine lv_iload_n hx hb dX7_worthOfSet_16 rfl (lv_at hl 3 rfl) ?_
    refine lv_ishr hx hb dX7_worthOfSet_17 ?_
    refine lv_iconst (v := 1) hx hb dX7_worthOfSet_18 (by decide) ?_
    refine lv_iand hx hb dX7_worthOfSet_19 ?_
    refine lv_iconst (v := 1) hx hb dX7_worthOfSet_20 (by decide) ?_
    refine lv_icmp_ne (tgt := 36) hx hb dX7_worthOfSet_21 (by decide) (fun cq2 => ?_) (fun cq2 => ?_)
    · skip
      refine lv_iinc (v := nI (i1 + 1)) (lv' := [(3, .int (nI (i1 + 1))), (0, .ref s0), (1, .int (nI s)), (2, .int (wsU t s i1))]) hx hb dX7_worthOfSet_36 hl (k := 3) rfl (by rw [show (nI i1 : Int32) = nI i1 from rfl]; exact nI_add _ 1) (by decide) rfl (fun ls hl => ?_)
      refine lv_goto (tgt := 4) hx hb dX7_worthOfSet_39 (by decide) ?_
      have e3 : wsU t s i1 = wsU t s (i1 + 1) := by simp [wsU, cq1, cq2]
      exact ih4 _ (by omega) ⟨lv_sub hl [1, 2, 3, 0] (by rw [← e3]; rfl), trivial⟩
    · skip
      refine lv_iload_n hx hb dX7_worthOfSet_24 rfl (lv_at hl 2 rfl) ?_
      refine lv_aload_n hx hb dX7_worthOfSet_25 rfl (lv_at hl 0 rfl) ?_
      refine va_get (D := G.1) (ci := 7) (v := .ref b0) (C := RX7) (T := TX7) (N := 7) hx hb hts k1 hown hK hP 0 rfl rfl 0 (by decide) k0 (fun _ h9 => h9) rfl dX7_worthOfSet_26 ?_
      refine va_get (D := G.1) (ci := 8) (v := .ref b3) (C := RX8) (T := TX8) (N := 9) hx hb hts k3 hown hK hP 5 rfl rfl 8 (by decide) k4 (fun _ h9 => h9) rfl dX7_worthOfSet_29 ?_
      refine lv_iload_n hx hb dX7_worthOfSet_32 rfl (lv_at hl 3 rfl) ?_
      refine n_iald hx hb hK hP 8 0 rfl rfl (j := i1) rfl (by omega) (by decide) dX7_worthOfSet_33 ?_
      refine lv_iadd hx hb dX7_worthOfSet_34 ?_
      refine lv_istore_n (lv' := [(2, .int ((wsU t s i1) + (t (17 + i1)))), (0, .ref s0), (1, .int (nI s)), (3, .int (nI i1))]) hx hb dX7_worthOfSet_35 rfl hl (by decide) rfl (fun ls hl => ?_)
      refine lv_iinc (v := nI (i1 + 1)) (lv' := [(3, .int (nI (i1 + 1))), (2, .int ((wsU t s i1) + (t (17 + i1)))), (0, .ref s0), (1, .int (nI s))]) hx hb dX7_worthOfSet_36 hl (k := 3) rfl (by rw [show (nI i1 : Int32) = nI i1 from rfl]; exact nI_add _ 1) (by decide) rfl (fun ls hl => ?_)
      refine lv_goto (tgt := 4) hx hb dX7_worthOfSet_39 (by decide) ?_
      have e4 : (wsU t s i1) + (t (17 + i1)) = wsU t s (i1 + 1) := by simp [wsU, cq1, cq2]
      exact ih4 _ (by omega) ⟨lv_sub hl [2, 3, 1, 0] (by rw [← e4]; rfl), trivial⟩
theorem hd_X7_cheapestSet : yX7_cheapestSet.cls = RX7 ∧ yX7_cheapestSet.cls ≠ "java/lang/invoke/MethodHandle" ∧ yX7_cheapestSet.cls ≠ "java/lang/invoke/VarHandle" ∧ (parseMethodDescriptor yX7_cheapestSet.desc).map (fun d => d.parameters.length) = some 2 := by decide +kernel
set_option maxRecDepth 100000 in
set_option maxHeartbeats 4000000 in
theorem c_X7_cheapestSet (l : Launch) (G : gG) (s0 : Nat) (s1 : Nat) (s2 : Nat) (s3 : Nat) (s4 : Nat) (b0 : Nat) (b1 : Nat) (b2 : Nat) (b3 : Nat) (t : Nat → Int32) (n : Nat → Int32) (nc : Nat) (np : Nat) (p : Nat) (sx : Int32) (hT : tw t nc np) (hp : p < np) : mR l yX7_cheapestSet wsX7_cheapestSet ({ frames := 5, cells := 0, slots := 0, locals := 109 }) G (sW G s0 s1 s2 s3 s4 b0 b1 b2 b3 t n) [.ref s0, .int (nI p), .int sx] (chB t n nc p sx 16) := by
  refine mR.of (cc := cX7_cheapestSet) (maxL := 9) (ret := (some .int)) (by decide) rfl (Nat.le_of_ble_eq_true rfl) ?_
  intro zp ze zs zm zb zt zc ls C hP hK hl
  obtain ⟨hx, hb, hr, hml, hown, hts, hlk⟩ := id C
  have hl : lv_has ls 9 [(0, .ref s0), (1, .int (nI p)), (2, .int sx)] := hl
  have hT2 := hT.2.2
  have k0 := hts (.fieldLink RX7 24 "DebtDowry$State" "terms" "LDebtDowry$Terms;") (by decide +kernel)
  have k1 := (fun w h => by revert w; decide +kernel : ∀ w ∈ wsX70, w ∈ wsX7_cheapestSet)
  have k2 := hts (.fieldLink RX7 47 "DebtDowry$Terms" "creditors" "I") (by decide +kernel)
  have k3 := (fun w h => by revert w; decide +kernel : ∀ w ∈ wsX80, w ∈ wsX7_cheapestSet)
  have k4 := hts (.constant RX7 122 (1000000)) (by decide +kernel)
  refine lv_iconst (v := 0) hx hb dX7_cheapestSet_0 (by decide) ?_
  refine lv_istore_n (lv' := [(3, .int 0), (0, .ref s0), (1, .int (nI p)), (2, .int sx)]) hx hb dX7_cheapestSet_1 rfl hl (by decide) rfl (fun ls hl => ?_)
  refine lv_iconst (v := 0) hx hb dX7_cheapestSet_2 (by decide) ?_
  refine lv_istore (lv' := [(4, .int 0), (3, .int 0), (0, .ref s0), (1, .int (nI p)), (2, .int sx)]) hx hb dX7_cheapestSet_3 hl (by decide) rfl (fun ls hl => ?_)
  refine wl_R (B := nc) (i0 := 0) (Inv := fun i1 ls => lv_has ls 9 [(0, .ref s0), (1, .int (nI p)), (2, .int sx), (3, .int (setU (mrP t n p) i1)), (4, .int (nI i1))] ∧ True) (by omega) ⟨lv_sub hl [2, 3, 4, 1, 0] (rfl), trivial⟩ ?_
  rintro i1 ls hle5 ⟨hl, -⟩ ih5
  refine lv_iload hx hb dX7_cheapestSet_5 (lv_at hl 4 rfl) ?_
  refine lv_aload_n hx hb dX7_cheapestSet_7 rfl (lv_at hl 0 rfl) ?_
  refine va_get (D := G.1) (ci := 7) (v := .ref b0) (C := RX7) (T := TX7) (N := 7) hx hb hts k1 hown hK hP 0 rfl rfl 0 (by decide) k0 (fun _ h9 => h9) rfl dX7_cheapestSet_8 ?_
  refine va_get (D := G.1) (ci := 8) (v := .int (t 3)) (C := RX8) (T := TX8) (N := 9) hx hb hts k3 hown hK hP 5 rfl rfl 3 (by decide) k2 (fun _ h9 => h9) rfl dX7_cheapestSet_11 ?_
  refine n_icmp_ge (tgt := 40) hx hb dX7_cheapestSet_14 (by decide) (u := i1) (v := nc) rfl hT.1 (by omega) (by omega) (fun cq1 => ?_) (fun cq1 => ?_)
  · skip
    obtain rfl : nc = i1 := by omega
    refine lv_aload_n hx hb dX7_cheapestSet_40 rfl (lv_at hl 0 rfl) ?_
    refine lv_iload_n hx hb dX7_cheapestSet_41 rfl (lv_at hl 1 rfl) ?_
    refine cR_V (Cn := RX7) (n := 1) (As := [.int (nI p)]) (rest := []) C (c_X7_standingOf l G s0 s1 s2 s3 s4 b0 b1 b2 b3 t n nc np p hT (by omega)) gX7_cheapestSet_X7_standingOf rfl ⟨rfl, rfl⟩ hd_X7_standingOf ⟨(Nat.le_of_ble_eq_true rfl), (Nat.le_of_ble_eq_true rfl)⟩ hK hP (va_recv hK hP (ci := 7) (q0 := 0) rfl rfl) rfl hl.1 rfl (Nat.le_of_ble_eq_true rfl) dX7_cheapestSet_42 ⟨(Nat.le_of_ble_eq_true rfl), (Nat.le_of_ble_eq_true rfl)⟩ ?_
    refine lv_istore (lv' := [(4, .int (stU t n p nc)), (0, .ref s0), (1, .int (nI p)), (2, .int sx), (3, .int (setU (mrP t n p) nc))]) hx hb dX7_cheapestSet_45 hl (by decide) rfl (fun ls hl => ?_)
    refine lv_iconst (v := (-1)) hx hb dX7_cheapestSet_47 (by decide) ?_
    refine lv_istore (lv' := [(5, .int (-1)), (4, .int (stU t n p nc)), (0, .ref s0), (1, .int (nI p)), (2, .int sx), (3, .int (setU (mrP t n p) nc))]) hx hb dX7_cheapestSet_48 hl (by decide) rfl (fun ls hl => ?_)
    refine lv_ldc hx hb hown k4 dX7_cheapestSet_50 ?_
    refine lv_istore (lv' := [(6, .int 1000000), (5, .int (-1)), (4, .int (stU t n p nc)), (0, .ref s0), (1, .int (nI p)), (2, .int sx), (3, .int (setU (mrP t n p) nc))]) hx hb dX7_cheapestSet_52 hl (by decide) rfl (fun ls hl => ?_)
    refine lv_iconst (v := 0) hx hb dX7_cheapestSet_54 (by decide) ?_
    refine lv_istore (lv' := [(7, .int 0), (6, .int 1000000), (5, .int (-1)), (4, .int (stU t n p nc)), (0, .ref s0), (1, .int (nI p)), (2, .int sx), (3, .int (setU (mrP t n p) nc))]) hx hb dX7_cheapestSet_55 hl (by decide) rfl (fun ls hl => ?_)
    refine wl_R (B := 16) (i0 := 0) (Inv := fun i2 ls => lv_has ls 9 [(0, .ref s0), (1, .int (nI p)), (2, .int sx), (3, .int (setU (mrP t n p) nc)), (4, .int (stU t n p nc)), (5, .int (chB t n nc p sx i2)), (6, .int (chF t n nc p sx i2)), (7, .int (nI i2))] ∧ True) (by omega) ⟨lv_sub hl [4, 5, 6, 7, 3, 2, 1, 0] (rfl), trivial⟩ ?_
    rintro i2 ls hle57 ⟨hl, -⟩ ih57
    refine lv_iload hx hb dX7_cheapestSet_57 (lv_at hl 7 rfl) ?_
    refine lv_bipush (v := 16) hx hb dX7_cheapestSet_59 (by decide) ?_
    refine n_icmp_ge (tgt := 129) hx hb dX7_cheapestSet_61 (by decide) (u := i2) (v := 16) rfl rfl (by omega) (by omega) (fun cq2 => ?_) (fun cq2 => ?_)
    · skip
      obtain rfl : i2 = 16 := by omega
      refine lv_iload hx hb dX7_cheapestSet_129 (lv_at hl 5 rfl) ?_
      exact mR_iret C dX7_cheapestSet_131 (rfl)
    · skip
      refine lv_iload hx hb dX7_cheapestSet_64 (lv_at hl 7 rfl) ?_
      refine lv_iload_n hx hb dX7_cheapestSet_66 rfl (lv_at hl 3 rfl) ?_
      refine lv_iconst (v := (-1)) hx hb dX7_cheapestSet_67 (by decide) ?_
      refine lv_ixor hx hb dX7_cheapestSet_68 ?_
      refine lv_iand hx hb dX7_cheapestSet_69 ?_
      refine lv_if_ne (tgt := 90) hx hb dX7_cheapestSet_70 (by decide) (fun cq3 => ?_) (fun cq3 => ?_)
      · skip
        have hch : ¬ chC t n nc p sx i2 (chF t n nc p sx i2) := fun q => cq3 q.1
        refine lv_iconst (v := 0) hx hb dX7_cheapestSet_90 (by decide) ?_
        refine lv_istore (lv' := [(8, .int 0), (0, .ref s0), (1, .int (nI p)), (2, .int sx), (3, .int (setU (mrP t n p) nc)), (4, .int (stU t n p nc)), (5, .int (chB t n nc p sx i2)), (6, .int (chF t n nc p sx i2)), (7, .int (nI i2))]) hx hb dX7_cheapestSet_91 hl (by decide) rfl (fun ls hl => ?_)
        refine lv_iload hx hb dX7_cheapestSet_93 (lv_at hl 0 rfl) ?_
        refine lv_if_eq (tgt := 123) hx hb dX7_cheapestSet_95 (by decide) (fun cq4 => ?_) (fun cq4 => ?_)
        rotate_left
        · exact absurd cq4 (by decide)
        refine lv_iinc (v := nI (i2 + 1)) (lv' := [(7, .int (nI (i2 + 1))), (8, .int 0), (0, .ref s0), (1, .int (nI p)), (2, .int sx), (3, .int (setU (mrP t n p) nc)), (4, .int (stU t n p nc)), (5, .int (chB t n nc p sx i2)), (6, .int (chF t n nc p sx i2))]) hx hb dX7_cheapestSet_123 hl (k := 8) rfl (by rw [show (nI i2 : Int32) = nI i2 from rfl]; exact nI_add _ 1) (by decide) rfl (fun ls hl => ?_)
        refine lv_goto (tgt := 57) hx hb dX7_cheapestSet_126 (by decide) ?_
        have e5 : chB t n nc p sx i2 = chB t n nc p sx (i2 + 1) := by first | exact (if_pos hch).symm | exact (if_neg hch).symm
        have e6 : chF t n nc p sx i2 = chF t n nc p sx (i2 + 1) := by first | exact (if_pos hch).symm | exact (if_neg hch).symm
        exact ih57 _ (by omega) ⟨lv_sub hl [2, 3, 4, 5, 6, 7, 8, 0] (by rw [← e5, ← e6]; rfl), trivial⟩
      · skip
        have h70 := cq3
        refine lv_iload hx hb dX7_cheapestSet_73 (lv_at hl 4 rfl) ?_
        refine lv_aload_n hx hb dX7_cheapestSet_75 rfl (lv_at hl 0 rfl) ?_
        refine lv_iload hx hb dX7_cheapestSet_76 (lv_at hl 7 rfl) ?_
        refine cR_V (Cn := RX7) (n := 1) (As := [.int (nI i2)]) (rest := [.int (stU t n p nc)]) C (c_X7_worthOfSet l G s0 s1 s2 s3 s4 b0 b1 b2 b3 t n nc np i2 hT) gX7_cheapestSet_X7_worthOfSet rfl ⟨rfl, rfl⟩ hd_X7_worthOfSet ⟨(Nat.le_of_ble_eq_true rfl), (Nat.le_of_ble_eq_true rfl)⟩ hK hP (va_recv hK hP (ci := 7) (q0 := 0) rfl rfl) rfl hl.1 rfl (Nat.le_of_ble_eq_true rfl) dX7_cheapestSet_78 ⟨(Nat.le_of_ble_eq_true rfl), (Nat.le_of_ble_eq_true rfl)⟩ ?_
        refine lv_iadd hx hb dX7_cheapestSet_81 ?_
        refine lv_iload_n hx hb dX7_cheapestSet_82 rfl (lv_at hl 2 rfl) ?_
        refine lv_icmp_lt (tgt := 90) hx hb dX7_cheapestSet_83 (by decide) (fun cq7 => ?_) (fun cq7 => ?_)
        · skip
          have hch : ¬ chC t n nc p sx i2 (chF t n nc p sx i2) := fun q => i32_nle.mpr cq7 q.2.1
          refine lv_iconst (v := 0) hx hb dX7_cheapestSet_90 (by decide) ?_
          refine lv_istore (lv' := [(8, .int 0), (0, .ref s0), (1, .int (nI p)), (2, .int sx), (3, .int (setU (mrP t n p) nc)), (4, .int (stU t n p nc)), (5, .int (chB t n nc p sx i2)), (6, .int (chF t n nc p sx i2)), (7, .int (nI i2))]) hx hb dX7_cheapestSet_91 hl (by decide) rfl (fun ls hl => ?_)
          refine lv_iload hx hb dX7_cheapestSet_93 (lv_at hl 0 rfl) ?_
          refine lv_if_eq (tgt := 123) hx hb dX7_cheapestSet_95 (by decide) (fun cq8 => ?_) (fun cq8 => ?_)
          rotate_left
          · exact absurd cq8 (by decide)
          refine lv_iinc (v := nI (i2 + 1)) (lv' := [(7, .int (nI (i2 + 1))), (8, .int 0), (0, .ref s0), (1, .int (nI p)), (2, .int sx), (3, .int (setU (mrP t n p) nc)), (4, .int (stU t n p nc)), (5, .int (chB t n nc p sx i2)), (6, .int (chF t n nc p sx i2))]) hx hb dX7_cheapestSet_123 hl (k := 8) rfl (by rw [show (nI i2 : Int32) = nI i2 from rfl]; exact nI_add _ 1) (by decide) rfl (fun ls hl => ?_)
          refine lv_goto (tgt := 57) hx hb dX7_cheapestSet_126 (by decide) ?_
          have e9 : chB t n nc p sx i2 = chB t n nc p sx (i2 + 1) := by first | exact (if_pos hch).symm | exact (if_neg hch).symm
          have e10 : chF t n nc p sx i2 = chF t n nc p sx (i2 + 1) := by first | exact (if_pos hch).symm | exact (if_neg hch).symm
          exact ih57 _ (by omega) ⟨lv_sub hl [2, 3, 4, 5, 6, 7, 8, 0] (by rw [← e9, ← e10]; rfl), trivial⟩
        · skip
          have h83 := i32_nlt.mp cq7
          refine lv_iconst (v := 1) hx hb dX7_cheapestSet_86 (by decide) ?_
          refine lv_goto (tgt := 91) hx hb dX7_cheapestSet_87 (by decide) ?_
          refine lv_istore (lv' := [(8, .int 1), (0, .ref s0), (1, .int (nI p)), (2, .int sx), (3, .int (setU (mrP t n p) nc)), (4, .int (stU t n p nc)), (5, .int (chB t n nc p sx i2)), (6, .int (chF t n nc p sx i2)), (7, .int (nI i2))]) hx hb dX7_cheapestSet_91 hl (by decide) rfl (fun ls hl => ?_)
          refine lv_iload hx hb dX7_cheapestSet_93 (lv_at hl 0 rfl) ?_
          refine lv_if_eq (tgt := 123) hx hb dX7_cheapestSet_95 (by decide) (fun cq11 => ?_) (fun cq11 => ?_)
          · exact absurd cq11 (by decide)
          refine lv_aload_n hx hb dX7_cheapestSet_98 rfl (lv_at hl 1 rfl) ?_
          refine lv_iload_n hx hb dX7_cheapestSet_99 rfl (lv_at hl 2 rfl) ?_
          refine lv_iload hx hb dX7_cheapestSet_100 (lv_at hl 8 rfl) ?_
          refine cR_V (Cn := RX7) (n := 2) (As := [.int (nI p), .int (nI i2)]) (rest := []) C (c_X7_coinsFor l G s0 s1 s2 s3 s4 b0 b1 b2 b3 t n nc np p i2 hT (by omega)) gX7_cheapestSet_X7_coinsFor rfl ⟨rfl, rfl⟩ hd_X7_coinsFor ⟨(Nat.le_of_ble_eq_true rfl), (Nat.le_of_ble_eq_true rfl)⟩ hK hP (va_recv hK hP (ci := 7) (q0 := 0) rfl rfl) rfl hl.1 rfl (Nat.le_of_ble_eq_true rfl) dX7_cheapestSet_102 ⟨(Nat.le_of_ble_eq_true rfl), (Nat.le_of_ble_eq_true rfl)⟩ ?_
          refine lv_iload hx hb dX7_cheapestSet_105 (lv_at hl 7 rfl) ?_
          refine lv_icmp_ge (tgt := 123) hx hb dX7_cheapestSet_107 (by decide) (fun cq12 => ?_) (fun cq12 => ?_)
          · skip
            have hch : ¬ chC t n nc p sx i2 (chF t n nc p sx i2) := fun q => i32_nlt.mpr cq12 q.2.2
            refine lv_iinc (v := nI (i2 + 1)) (lv' := [(7, .int (nI (i2 + 1))), (8, .int 1), (0, .ref s0), (1, .int (nI p)), (2, .int sx), (3, .int (setU (mrP t n p) nc)), (4, .int (stU t n p nc)), (5, .int (chB t n nc p sx i2)), (6, .int (chF t n nc p sx i2))]) hx hb dX7_cheapestSet_123 hl (k := 8) rfl (by rw [show (nI i2 : Int32) = nI i2 from rfl]; exact nI_add _ 1) (by decide) rfl (fun ls hl => ?_)
            refine lv_goto (tgt := 57) hx hb dX7_cheapestSet_126 (by decide) ?_
            have e13 : chB t n nc p sx i2 = chB t n nc p sx (i2 + 1) := by first | exact (if_pos hch).symm | exact (if_neg hch).symm
            have e14 : chF t n nc p sx i2 = chF t n nc p sx (i2 + 1) := by first | exact (if_pos hch).symm | exact (if_neg hch).symm
            exact ih57 _ (by omega) ⟨lv_sub hl [2, 3, 4, 5, 6, 7, 8, 0] (by rw [← e13, ← e14]; rfl), trivial⟩
          · skip
            have hch : chC t n nc p sx i2 (chF t n nc p sx i2) := ⟨h70, h83, i32_nle.mp cq12⟩
            refine lv_iload hx hb dX7_cheapestSet_110 (lv_at hl 8 rfl) ?_
            refine lv_istore (lv' := [(5, .int (nI i2)), (8, .int 1), (0, .ref s0), (1, .int (nI p)), (2, .int sx), (3, .int (setU (mrP t n p) nc)), (4, .int (stU t n p nc)), (6, .int (chF t n nc p sx i2)), (7, .int (nI i2))]) hx hb dX7_cheapestSet_112 hl (by decide) rfl (fun ls hl => ?_)
            refine lv_aload_n hx hb dX7_cheapestSet_114 rfl (lv_at hl 2 rfl) ?_
            refine lv_iload_n hx hb dX7_cheapestSet_115 rfl (lv_at hl 3 rfl) ?_
            refine lv_iload hx hb dX7_cheapestSet_116 (lv_at hl 8 rfl) ?_
            refine cR_V (Cn := RX7) (n := 2) (As := [.int (nI p), .int (nI i2)]) (rest := []) C (c_X7_coinsFor l G s0 s1 s2 s3 s4 b0 b1 b2 b3 t n nc np p i2 hT (by omega)) gX7_cheapestSet_X7_coinsFor rfl ⟨rfl, rfl⟩ hd_X7_coinsFor ⟨(Nat.le_of_ble_eq_true rfl), (Nat.le_of_ble_eq_true rfl)⟩ hK hP (va_recv hK hP (ci := 7) (q0 := 0) rfl rfl) rfl hl.1 rfl (Nat.le_of_ble_eq_true rfl) dX7_cheapestSet_118 ⟨(Nat.le_of_ble_eq_true rfl), (Nat.le_of_ble_eq_true rfl)⟩ ?_
            refine lv_istore (lv' := [(6, .int (cfU t n p i2 nc)), (5, .int (nI i2)), (8, .int 1), (0, .ref s0), (1, .int (nI p)), (2, .int sx), (3, .int (setU (mrP t n p) nc)), (4, .int (stU t n p nc)), (7, .int (nI i2))]) hx hb dX7_cheapestSet_121 hl (by decide) rfl (fun ls hl => ?_)
            refine lv_iinc (v := nI (i2 + 1)) (lv' := [(7, .int (nI (i2 + 1))), (6, .int (cfU t n p i2 nc)), (5, .int (nI i2)), (8, .int 1), (0, .ref s0), (1, .int (nI p)), (2, .int sx), (3, .int (setU (mrP t n p) nc)), (4, .int (stU t n p nc))]) hx hb dX7_cheapestSet_123 hl (k := 8) rfl (by rw [show (nI i2 : Int32) = nI i2 from rfl]; exact nI_add _ 1) (by decide) rfl (fun ls hl => ?_)
            refine lv_goto (tgt := 57) hx hb dX7_cheapestSet_126 (by decide) ?_
            have e15 : nI i2 = chB t n nc p sx (i2 + 1) := by first | exact (if_pos hch).symm | exact (if_neg hch).symm
            have e16 : cfU t n p i2 nc = chF t n nc p sx (i2 + 1) := by first | exact (if_pos hch).symm | exact (if_neg hch).symm
            exact ih57 _ (by omega) ⟨lv_sub hl [4, 5, 6, 7, 8, 2, 1, 0] (by rw [← e15, ← e16]; rfl), trivial⟩
  · skip
    refine lv_aload_n hx hb dX7_cheapestSet_17 rfl (lv_at hl 0 rfl) ?_
    refine lv_iload_n hx hb dX7_cheapestSet_18 rfl (lv_at hl 1 rfl) ?_
    refine lv_iload hx hb dX7_cheapestSet_19 (lv_at hl 4 rfl) ?_
    refine cR_V (Cn := RX7) (n := 2) (As := [.int (nI p), .int (nI i1)]) (rest := []) C (c_X7_mayReachLow l G s0 s1 s2 s3 s4 b0 b1 b2 b3 t n nc np p i1 hT (by omega) (by omega)) gX7_cheapestSet_X7_mayReachLow rfl ⟨rfl, rfl⟩ hd_X7_mayReachLow ⟨(Nat.le_of_ble_eq_true rfl), (Nat.le_of_ble_eq_true rfl)⟩ hK hP (va_recv hK hP (ci := 7) (q0 := 0) rfl rfl) rfl hl.1 rfl (Nat.le_of_ble_eq_true rfl) dX7_cheapestSet_21 ⟨(Nat.le_of_ble_eq_true rfl), (Nat.le_of_ble_eq_true rfl)⟩ ?_
    refine b_if_eq (tgt := 34) hx hb dX7_cheapestSet_24 (by decide) (fun cq17 => ?_) (fun cq17 => ?_)
    · skip
      refine lv_iinc (v := nI (i1 + 1)) (lv' := [(4, .int (nI (i1 + 1))), (0, .ref s0), (1, .int (nI p)), (2, .int sx), (3, .int (setU (mrP t n p) i1))]) hx hb dX7_cheapestSet_34 hl (k := 4) rfl (by rw [show (nI i1 : Int32) = nI i1 from rfl]; exact nI_add _ 1) (by decide) rfl (fun ls hl => ?_)
      refine lv_goto (tgt := 5) hx hb dX7_cheapestSet_37 (by decide) ?_
      have e18 : setU (mrP t n p) i1 = setU (mrP t n p) (i1 + 1) := by first | exact setU_t (by simp only [mrP]; simp [cq1, cq17]) | exact setU_f' (by simp only [mrP]; simp [cq1, cq17])
      exact ih5 _ (by omega) ⟨lv_sub hl [1, 2, 3, 4, 0] (by rw [← e18]; rfl), trivial⟩
    · skip
      refine lv_iload_n hx hb dX7_cheapestSet_27 rfl (lv_at hl 3 rfl) ?_
      refine lv_iconst (v := 1) hx hb dX7_cheapestSet_28 (by decide) ?_
      refine lv_iload hx hb dX7_cheapestSet_29 (lv_at hl 4 rfl) ?_
      refine lv_ishl hx hb dX7_cheapestSet_31 ?_
      refine lv_ior hx hb dX7_cheapestSet_32 ?_
      refine lv_istore_n (lv' := [(3, .int ((setU (mrP t n p) i1) ||| (1 <<< ((nI i1) &&& 31)))), (0, .ref s0), (1, .int (nI p)), (2, .int sx), (4, .int (nI i1))]) hx hb dX7_cheapestSet_33 rfl hl (by decide) rfl (fun ls hl => ?_)
      refine lv_iinc (v := nI (i1 + 1)) (lv' := [(4, .int (nI (i1 + 1))), (3, .int ((setU (mrP t n p) i1) ||| (1 <<< ((nI i1) &&& 31)))), (0, .ref s0), (1, .int (nI p)), (2, .int sx)]) hx hb dX7_cheapestSet_34 hl (k := 4) rfl (by rw [show (nI i1 : Int32) = nI i1 from rfl]; exact nI_add _ 1) (by decide) rfl (fun ls hl => ?_)
      refine lv_goto (tgt := 5) hx hb dX7_cheapestSet_37 (by decide) ?_
      have e19 : (setU (mrP t n p) i1) ||| (1 <<< ((nI i1) &&& 31)) = setU (mrP t n p) (i1 + 1) := by first | exact setU_t (by simp only [mrP]; simp [cq1, cq17]) | exact setU_f' (by simp only [mrP]; simp [cq1, cq17])
      exact ih5 _ (by omega) ⟨lv_sub hl [2, 3, 4, 1, 0] (by rw [← e19]; rfl), trivial⟩
theorem hd_X7_clear : yX7_clear.cls = RX7 ∧ yX7_clear.cls ≠ "java/lang/invoke/MethodHandle" ∧ yX7_clear.cls ≠ "java/lang/invoke/VarHandle" ∧ (parseMethodDescriptor yX7_clear.desc).map (fun d => d.parameters.length) = some 0 := by decide +kernel
set_option maxRecDepth 100000 in
set_option maxHeartbeats 4000000 in
theorem c_X7_clear (l : Launch) (G : gG) (s0 : Nat) (s1 : Nat) (s2 : Nat) (s3 : Nat) (s4 : Nat) (ka : Nat) (n : Nat → Int32) : mX l yX7_clear wsX7_clear ({ frames := 0, cells := 0, slots := 0, locals := 0 }) G (s1W G s0 s1 s2 s3 s4 ka n) (s1W G s0 s1 s2 s3 s4 ka (clrS n)) [.ref s0] (.returned none) := by
  refine mX.of (cc := cX7_clear) (maxL := 2) (ret := none) (by decide) rfl (Nat.le_of_ble_eq_true rfl) ?_
  intro zp ze zs zm zb zt zc ls A hAe C hP hK hD hS hl
  obtain ⟨hx, hb, hr, hml, hown, hts, hlk⟩ := id C
  have hl : lv_has ls 2 [(0, .ref s0)] := hl
  have k0 := hts (.fieldLink RX7 28 "DebtDowry$State" "failed" "I") (by decide +kernel)
  have k1 := (fun w h => by revert w; decide +kernel : ∀ w ∈ wsX70, w ∈ wsX7_clear)
  have k2 := hts (.fieldLink RX7 32 "DebtDowry$State" "quarters" "I") (by decide +kernel)
  have k3 := hts (.fieldLink RX7 18 "DebtDowry$State" "insults" "[I") (by decide +kernel)
  have k4 := hts (.fieldLink RX7 21 "DebtDowry$State" "spouse" "[I") (by decide +kernel)
  have k5 := hts (.fieldLink RX7 15 "DebtDowry$State" "purse" "[I") (by decide +kernel)
  have k6 := hts (.fieldLink RX7 9 "DebtDowry$State" "owed" "[I") (by decide +kernel)
  refine lv_iconst (v := 0) hx hb dX7_clear_0 (by decide) ?_
  refine lv_istore_n (lv' := [(1, .int 0), (0, .ref s0)]) hx hb dX7_clear_1 rfl hl (by decide) rfl (fun ls hl => ?_)
  refine wl_X (B := 32) (i0 := 0) (Inv := fun i1 H locs ls => va_P G.1 vwCl (s1W G s0 s1 s2 s3 s4 ka (rng n (fun _ => 0) 0 i1)) H ∧ va_D A (s1W G s0 s1 s2 s3 s4 ka (rng n (fun _ => 0) 0 i1)) ∧ va_S A zs.heap H locs ∧ lv_has ls 2 [(0, .ref s0), (1, .int (nI i1))] ∧ True) (by omega) ⟨by rw [rng_0]; exact hP, by rw [rng_0]; exact hD, hS, lv_sub hl [1, 0] (rfl), trivial⟩ ?_
  rintro i1 H locs ls hle2 ⟨hP, hD, hS, hl, -⟩ ih2
  refine lv_iload_n hx hb dX7_clear_2 rfl (lv_at hl 1 rfl) ?_
  refine lv_bipush (v := 32) hx hb dX7_clear_3 (by decide) ?_
  refine n_icmp_ge (tgt := 21) hx hb dX7_clear_5 (by decide) (u := i1) (v := 32) rfl rfl (by omega) (by omega) (fun cq1 => ?_) (fun cq1 => ?_)
  · skip
    obtain rfl : i1 = 32 := by omega
    refine lv_iconst (v := 0) hx hb dX7_clear_21 (by decide) ?_
    refine lv_istore_n (lv' := [(1, .int 0), (0, .ref s0)]) hx hb dX7_clear_22 rfl hl (by decide) rfl (fun ls hl => ?_)
    refine wl_X (B := 4) (i0 := 0) (Inv := fun i2 H locs ls => va_P G.1 vwCl (s1W G s0 s1 s2 s3 s4 ka (rng (rng n (fun _ => 0) 0 32) (fun _ => 0) 32 (32 + i2))) H ∧ va_D A (s1W G s0 s1 s2 s3 s4 ka (rng (rng n (fun _ => 0) 0 32) (fun _ => 0) 32 (32 + i2))) ∧ va_S A zs.heap H locs ∧ lv_has ls 2 [(0, .ref s0), (1, .int (nI i2))] ∧ True) (by omega) ⟨by rw [rng_0]; exact hP, by rw [rng_0]; exact hD, hS, lv_sub hl [1, 0] (rfl), trivial⟩ ?_
    rintro i2 H locs ls hle23 ⟨hP, hD, hS, hl, -⟩ ih23
    refine lv_iload_n hx hb dX7_clear_23 rfl (lv_at hl 1 rfl) ?_
    refine lv_iconst (v := 4) hx hb dX7_clear_24 (by decide) ?_
    refine n_icmp_ge (tgt := 41) hx hb dX7_clear_25 (by decide) (u := i2) (v := 4) rfl rfl (by omega) (by omega) (fun cq2 => ?_) (fun cq2 => ?_)
    · skip
      obtain rfl : i2 = 4 := by omega
      have hP : va_P G.1 vwCl (s1W G s0 s1 s2 s3 s4 ka (rng (rng n (fun _ => 0) 0 32) (fun _ => 0) 32 36)) H := hP
      have hD : va_D A (s1W G s0 s1 s2 s3 s4 ka (rng (rng n (fun _ => 0) 0 32) (fun _ => 0) 32 36)) := hD
      refine lv_iconst (v := 0) hx hb dX7_clear_41 (by decide) ?_
      refine lv_istore_n (lv' := [(1, .int 0), (0, .ref s0)]) hx hb dX7_clear_42 rfl hl (by decide) rfl (fun ls hl => ?_)
      refine wl_X (B := 8) (i0 := 0) (Inv := fun i3 H locs ls => va_P G.1 vwCl (s1W G s0 s1 s2 s3 s4 ka (clI (rng (rng n (fun _ => 0) 0 32) (fun _ => 0) 32 36) i3)) H ∧ va_D A (s1W G s0 s1 s2 s3 s4 ka (clI (rng (rng n (fun _ => 0) 0 32) (fun _ => 0) 32 36) i3)) ∧ va_S A zs.heap H locs ∧ lv_has ls 2 [(0, .ref s0), (1, .int (nI i3))] ∧ True) (by omega) ⟨hP, hD, hS, lv_sub hl [1, 0] (rfl), trivial⟩ ?_
      rintro i3 H locs ls hle43 ⟨hP, hD, hS, hl, -⟩ ih43
      refine lv_iload_n hx hb dX7_clear_43 rfl (lv_at hl 1 rfl) ?_
      refine lv_bipush (v := 8) hx hb dX7_clear_44 (by decide) ?_
      refine n_icmp_ge (tgt := 69) hx hb dX7_clear_46 (by decide) (u := i3) (v := 8) rfl rfl (by omega) (by omega) (fun cq3 => ?_) (fun cq3 => ?_)
      · skip
        obtain rfl : i3 = 8 := by omega
        refine lv_aload_n hx hb dX7_clear_69 rfl (lv_at hl 0 rfl) ?_
        refine lv_iconst (v := 0) hx hb dX7_clear_70 (by decide) ?_
        refine n_putQ (D := G.1) (wsn := s1W G s0 s1 s2 s3 s4 ka (upd (clI (rng (rng n (fun _ => 0) 0 32) (fun _ => 0) 32 36) 8) 52 0)) (ci := 7) (v := .int 0) (ty := .int) (C := RX7) (T := TX7) (N := 7) hx hb hts k1 tyX7 tyX7_ok nmX7 hown hK hP hD hS 0 rfl rfl 5 (by decide) k0 (fun _ h9 => h9) rfl (by decide +kernel) rfl rfl (Nat.le_of_ble_eq_true rfl) s1W_p0_5 dX7_clear_71 (fun H locs hP hD hS => ?_)
        refine lv_aload_n hx hb dX7_clear_74 rfl (lv_at hl 0 rfl) ?_
        refine lv_iconst (v := 0) hx hb dX7_clear_75 (by decide) ?_
        refine n_putQ (D := G.1) (wsn := s1W G s0 s1 s2 s3 s4 ka (upd (upd (clI (rng (rng n (fun _ => 0) 0 32) (fun _ => 0) 32 36) 8) 52 0) 53 0)) (ci := 7) (v := .int 0) (ty := .int) (C := RX7) (T := TX7) (N := 7) hx hb hts k1 tyX7 tyX7_ok nmX7 hown hK hP hD hS 0 rfl rfl 6 (by decide) k2 (fun _ h9 => h9) rfl (by decide +kernel) rfl rfl (Nat.le_of_ble_eq_true rfl) s1W_p0_6 dX7_clear_76 (fun H locs hP hD hS => ?_)
        have hP : va_P G.1 vwCl (s1W G s0 s1 s2 s3 s4 ka (clrS n)) H := by rw [show (clrS n) = (upd (upd (clI (rng (rng n (fun _ => 0) 0 32) (fun _ => 0) 32 36) 8) 52 0) 53 0) from rfl]; exact hP
        exact mX_vret hAe C hP hS dX7_clear_79
      · skip
        refine lv_aload_n hx hb dX7_clear_49 rfl (lv_at hl 0 rfl) ?_
        refine va_get (D := G.1) (ci := 7) (v := .ref s3) (C := RX7) (T := TX7) (N := 7) hx hb hts k1 hown hK hP 0 rfl rfl 3 (by decide) k3 (fun _ h9 => h9) rfl dX7_clear_50 ?_
        refine lv_iload_n hx hb dX7_clear_53 rfl (lv_at hl 1 rfl) ?_
        refine lv_iconst (v := 0) hx hb dX7_clear_54 (by decide) ?_
        refine n_iastQ hx hb hK hP hD hS 3 0 rfl rfl (x := 0) (j := i3) rfl (by omega) (by decide) dX7_clear_55 (wsn := s1W G s0 s1 s2 s3 s4 ka (upd (clI (rng (rng n (fun _ => 0) 0 32) (fun _ => 0) 32 36) i3) (36 + i3) 0)) (s1W_r3 (by omega)) (fun H locs hP hD hS => ?_)
        refine lv_aload_n hx hb dX7_clear_56 rfl (lv_at hl 0 rfl) ?_
        refine va_get (D := G.1) (ci := 7) (v := .ref s4) (C := RX7) (T := TX7) (N := 7) hx hb hts k1 hown hK hP 0 rfl rfl 4 (by decide) k4 (fun _ h9 => h9) rfl dX7_clear_57 ?_
        refine lv_iload_n hx hb dX7_clear_60 rfl (lv_at hl 1 rfl) ?_
        refine lv_iconst (v := (-1)) hx hb dX7_clear_61 (by decide) ?_
        refine n_iastQ hx hb hK hP hD hS 4 0 rfl rfl (x := (-1)) (j := i3) rfl (by omega) (by decide) dX7_clear_62 (wsn := s1W G s0 s1 s2 s3 s4 ka (upd (upd (clI (rng (rng n (fun _ => 0) 0 32) (fun _ => 0) 32 36) i3) (36 + i3) 0) (44 + i3) (-1))) (s1W_r4 (by omega)) (fun H locs hP hD hS => ?_)
        refine lv_iinc (v := nI (i3 + 1)) (lv' := [(1, .int (nI (i3 + 1))), (0, .ref s0)]) hx hb dX7_clear_63 hl (k := 1) rfl (by rw [show (nI i3 : Int32) = nI i3 from rfl]; exact nI_add _ 1) (by decide) rfl (fun ls hl => ?_)
        refine lv_goto (tgt := 43) hx hb dX7_clear_66 (by decide) ?_
        have e4 : (upd (upd (clI (rng (rng n (fun _ => 0) 0 32) (fun _ => 0) 32 36) i3) (36 + i3) 0) (44 + i3) (-1)) = clI (rng (rng n (fun _ => 0) 0 32) (fun _ => 0) 32 36) (i3 + 1) := rfl
        rw [e4] at hP hD
        exact ih43 _ _ _ (by omega) ⟨hP, hD, hS, lv_sub hl [1, 0] (rfl), trivial⟩
    · skip
      refine lv_aload_n hx hb dX7_clear_28 rfl (lv_at hl 0 rfl) ?_
      refine va_get (D := G.1) (ci := 7) (v := .ref s2) (C := RX7) (T := TX7) (N := 7) hx hb hts k1 hown hK hP 0 rfl rfl 2 (by decide) k5 (fun _ h9 => h9) rfl dX7_clear_29 ?_
      refine lv_iload_n hx hb dX7_clear_32 rfl (lv_at hl 1 rfl) ?_
      refine lv_iconst (v := 0) hx hb dX7_clear_33 (by decide) ?_
      refine n_iastQ hx hb hK hP hD hS 2 0 rfl rfl (x := 0) (j := i2) rfl (by omega) (by decide) dX7_clear_34 (wsn := s1W G s0 s1 s2 s3 s4 ka (upd (rng (rng n (fun _ => 0) 0 32) (fun _ => 0) 32 (32 + i2)) (32 + i2) 0)) (s1W_r2 (by omega)) (fun H locs hP hD hS => ?_)
      refine lv_iinc (v := nI (i2 + 1)) (lv' := [(1, .int (nI (i2 + 1))), (0, .ref s0)]) hx hb dX7_clear_35 hl (k := 1) rfl (by rw [show (nI i2 : Int32) = nI i2 from rfl]; exact nI_add _ 1) (by decide) rfl (fun ls hl => ?_)
      refine lv_goto (tgt := 23) hx hb dX7_clear_38 (by decide) ?_
      have e5 : (upd (rng (rng n (fun _ => 0) 0 32) (fun _ => 0) 32 (32 + i2)) (32 + i2) 0) = rng (rng n (fun _ => 0) 0 32) (fun _ => 0) 32 (32 + (i2 + 1)) := rng_v (by omega) rfl
      rw [e5] at hP hD
      exact ih23 _ _ _ (by omega) ⟨hP, hD, hS, lv_sub hl [1, 0] (rfl), trivial⟩
  · skip
    refine lv_aload_n hx hb dX7_clear_8 rfl (lv_at hl 0 rfl) ?_
    refine va_get (D := G.1) (ci := 7) (v := .ref s1) (C := RX7) (T := TX7) (N := 7) hx hb hts k1 hown hK hP 0 rfl rfl 1 (by decide) k6 (fun _ h9 => h9) rfl dX7_clear_9 ?_
    refine lv_iload_n hx hb dX7_clear_12 rfl (lv_at hl 1 rfl) ?_
    refine lv_iconst (v := 0) hx hb dX7_clear_13 (by decide) ?_
    refine n_iastQ hx hb hK hP hD hS 1 0 rfl rfl (x := 0) (j := i1) rfl (by omega) (by decide) dX7_clear_14 (wsn := s1W G s0 s1 s2 s3 s4 ka (upd (rng n (fun _ => 0) 0 i1) i1 0)) (s1W_r1 (by omega)) (fun H locs hP hD hS => ?_)
    refine lv_iinc (v := nI (i1 + 1)) (lv' := [(1, .int (nI (i1 + 1))), (0, .ref s0)]) hx hb dX7_clear_15 hl (k := 1) rfl (by rw [show (nI i1 : Int32) = nI i1 from rfl]; exact nI_add _ 1) (by decide) rfl (fun ls hl => ?_)
    refine lv_goto (tgt := 2) hx hb dX7_clear_18 (by decide) ?_
    have e6 : (upd (rng n (fun _ => 0) 0 i1) i1 0) = rng n (fun _ => 0) 0 (i1 + 1) := rng_v (by omega) rfl
    rw [e6] at hP hD
    exact ih2 _ _ _ (by omega) ⟨hP, hD, hS, lv_sub hl [1, 0] (rfl), trivial⟩
theorem hd_X7_take : yX7_take.cls = RX7 ∧ yX7_take.cls ≠ "java/lang/invoke/MethodHandle" ∧ yX7_take.cls ≠ "java/lang/invoke/VarHandle" ∧ (parseMethodDescriptor yX7_take.desc).map (fun d => d.parameters.length) = some 1 := by decide +kernel
set_option maxRecDepth 100000 in
set_option maxHeartbeats 4000000 in
theorem c_X7_take (l : Launch) (G : gG) (s0 : Nat) (s1 : Nat) (s2 : Nat) (s3 : Nat) (s4 : Nat) (z0 : Nat) (z1 : Nat) (z2 : Nat) (z3 : Nat) (z4 : Nat) (ka : Nat) (kb : Nat) (d : Nat → Int32) (n : Nat → Int32) : mX l yX7_take wsX7_take ({ frames := 1, cells := 0, slots := 0, locals := 21 }) G (s2W G s0 s1 s2 s3 s4 z0 z1 z2 z3 z4 ka kb d n) (s2W G s0 s1 s2 s3 s4 z0 z1 z2 z3 z4 ka kb n n) [.ref s0, .ref z0] (.returned none) := by
  refine mX.of (cc := cX7_take) (maxL := 2) (ret := none) (by decide) rfl (Nat.le_of_ble_eq_true rfl) ?_
  intro zp ze zs zm zb zt zc ls A hAe C hP hK hD hS hl
  obtain ⟨hx, hb, hr, hml, hown, hts, hlk⟩ := id C
  have hl : lv_has ls 2 [(0, .ref s0), (1, .ref z0)] := hl
  have k0 := hts (.fieldLink RX7 9 "DebtDowry$State" "owed" "[I") (by decide +kernel)
  have k1 := (fun w h => by revert w; decide +kernel : ∀ w ∈ wsX70, w ∈ wsX7_take)
  have k2 := hts (.methodLink RX7 35 arraycopyName) (by decide +kernel)
  have k3 := hts (.native arraycopyName) (by decide +kernel)
  have k4 := hts (.static arraycopyName) (by decide +kernel)
  have k5 := hts (.initialized "java/lang/System") (by decide +kernel)
  have k6 := hts (.fieldLink RX7 15 "DebtDowry$State" "purse" "[I") (by decide +kernel)
  have k7 := hts (.fieldLink RX7 18 "DebtDowry$State" "insults" "[I") (by decide +kernel)
  have k8 := hts (.fieldLink RX7 21 "DebtDowry$State" "spouse" "[I") (by decide +kernel)
  have k9 := hts (.fieldLink RX7 28 "DebtDowry$State" "failed" "I") (by decide +kernel)
  have k10 := hts (.fieldLink RX7 32 "DebtDowry$State" "quarters" "I") (by decide +kernel)
  refine lv_aload_n hx hb dX7_take_0 rfl (lv_at hl 1 rfl) ?_
  refine va_get (D := G.1) (ci := 7) (v := .ref z1) (C := RX7) (T := TX7) (N := 7) hx hb hts k1 hown hK hP 5 rfl rfl 1 (by decide) k0 (fun _ h9 => h9) rfl dX7_take_1 ?_
  refine lv_iconst (v := 0) hx hb dX7_take_4 (by decide) ?_
  refine lv_aload_n hx hb dX7_take_5 rfl (lv_at hl 0 rfl) ?_
  refine va_get (D := G.1) (ci := 7) (v := .ref s1) (C := RX7) (T := TX7) (N := 7) hx hb hts k1 hown hK hP 0 rfl rfl 1 (by decide) k0 (fun _ h9 => h9) rfl dX7_take_6 ?_
  refine lv_iconst (v := 0) hx hb dX7_take_9 (by decide) ?_
  refine lv_bipush (v := 32) hx hb dX7_take_10 (by decide) ?_
  refine n_copyQ hx hb (hml.trans hl.1.symm) hown k2 k3 k4 k5 hK hP hD hS 6 1 0 rfl rfl rfl (n := 32) rfl (by decide) (by decide) (by decide) (Nat.le_of_ble_eq_true rfl) (Nat.le_of_ble_eq_true rfl) dX7_take_12 (wsn := s2W G s0 s1 s2 s3 s4 z0 z1 z2 z3 z4 ka kb (rng d n 0 32) n) s2W_c1 (fun H locs hP hD hS => ?_)
  refine lv_aload_n hx hb dX7_take_15 rfl (lv_at hl 1 rfl) ?_
  refine va_get (D := G.1) (ci := 7) (v := .ref z2) (C := RX7) (T := TX7) (N := 7) hx hb hts k1 hown hK hP 5 rfl rfl 2 (by decide) k6 (fun _ h9 => h9) rfl dX7_take_16 ?_
  refine lv_iconst (v := 0) hx hb dX7_take_19 (by decide) ?_
  refine lv_aload_n hx hb dX7_take_20 rfl (lv_at hl 0 rfl) ?_
  refine va_get (D := G.1) (ci := 7) (v := .ref s2) (C := RX7) (T := TX7) (N := 7) hx hb hts k1 hown hK hP 0 rfl rfl 2 (by decide) k6 (fun _ h9 => h9) rfl dX7_take_21 ?_
  refine lv_iconst (v := 0) hx hb dX7_take_24 (by decide) ?_
  refine lv_iconst (v := 4) hx hb dX7_take_25 (by decide) ?_
  refine n_copyQ hx hb (hml.trans hl.1.symm) hown k2 k3 k4 k5 hK hP hD hS 7 2 0 rfl rfl rfl (n := 4) rfl (by decide) (by decide) (by decide) (Nat.le_of_ble_eq_true rfl) (Nat.le_of_ble_eq_true rfl) dX7_take_26 (wsn := s2W G s0 s1 s2 s3 s4 z0 z1 z2 z3 z4 ka kb (rng (rng d n 0 32) n 32 36) n) s2W_c2 (fun H locs hP hD hS => ?_)
  refine lv_aload_n hx hb dX7_take_29 rfl (lv_at hl 1 rfl) ?_
  refine va_get (D := G.1) (ci := 7) (v := .ref z3) (C := RX7) (T := TX7) (N := 7) hx hb hts k1 hown hK hP 5 rfl rfl 3 (by decide) k7 (fun _ h9 => h9) rfl dX7_take_30 ?_
  refine lv_iconst (v := 0) hx hb dX7_take_33 (by decide) ?_
  refine lv_aload_n hx hb dX7_take_34 rfl (lv_at hl 0 rfl) ?_
  refine va_get (D := G.1) (ci := 7) (v := .ref s3) (C := RX7) (T := TX7) (N := 7) hx hb hts k1 hown hK hP 0 rfl rfl 3 (by decide) k7 (fun _ h9 => h9) rfl dX7_take_35 ?_
  refine lv_iconst (v := 0) hx hb dX7_take_38 (by decide) ?_
  refine lv_bipush (v := 8) hx hb dX7_take_39 (by decide) ?_
  refine n_copyQ hx hb (hml.trans hl.1.symm) hown k2 k3 k4 k5 hK hP hD hS 8 3 0 rfl rfl rfl (n := 8) rfl (by decide) (by decide) (by decide) (Nat.le_of_ble_eq_true rfl) (Nat.le_of_ble_eq_true rfl) dX7_take_41 (wsn := s2W G s0 s1 s2 s3 s4 z0 z1 z2 z3 z4 ka kb (rng (rng (rng d n 0 32) n 32 36) n 36 44) n) s2W_c3 (fun H locs hP hD hS => ?_)
  refine lv_aload_n hx hb dX7_take_44 rfl (lv_at hl 1 rfl) ?_
  refine va_get (D := G.1) (ci := 7) (v := .ref z4) (C := RX7) (T := TX7) (N := 7) hx hb hts k1 hown hK hP 5 rfl rfl 4 (by decide) k8 (fun _ h9 => h9) rfl dX7_take_45 ?_
  refine lv_iconst (v := 0) hx hb dX7_take_48 (by decide) ?_
  refine lv_aload_n hx hb dX7_take_49 rfl (lv_at hl 0 rfl) ?_
  refine va_get (D := G.1) (ci := 7) (v := .ref s4) (C := RX7) (T := TX7) (N := 7) hx hb hts k1 hown hK hP 0 rfl rfl 4 (by decide) k8 (fun _ h9 => h9) rfl dX7_take_50 ?_
  refine lv_iconst (v := 0) hx hb dX7_take_53 (by decide) ?_
  refine lv_bipush (v := 8) hx hb dX7_take_54 (by decide) ?_
  refine n_copyQ hx hb (hml.trans hl.1.symm) hown k2 k3 k4 k5 hK hP hD hS 9 4 0 rfl rfl rfl (n := 8) rfl (by decide) (by decide) (by decide) (Nat.le_of_ble_eq_true rfl) (Nat.le_of_ble_eq_true rfl) dX7_take_56 (wsn := s2W G s0 s1 s2 s3 s4 z0 z1 z2 z3 z4 ka kb (rng (rng (rng (rng d n 0 32) n 32 36) n 36 44) n 44 52) n) s2W_c4 (fun H locs hP hD hS => ?_)
  refine lv_aload_n hx hb dX7_take_59 rfl (lv_at hl 0 rfl) ?_
  refine lv_aload_n hx hb dX7_take_60 rfl (lv_at hl 1 rfl) ?_
  refine va_get (D := G.1) (ci := 7) (v := .int (n 52)) (C := RX7) (T := TX7) (N := 7) hx hb hts k1 hown hK hP 5 rfl rfl 5 (by decide) k9 (fun _ h9 => h9) rfl dX7_take_61 ?_
  refine n_putQ (D := G.1) (wsn := s2W G s0 s1 s2 s3 s4 z0 z1 z2 z3 z4 ka kb (upd (rng (rng (rng (rng d n 0 32) n 32 36) n 36 44) n 44 52) 52 (n 52)) n) (ci := 7) (v := .int (n 52)) (ty := .int) (C := RX7) (T := TX7) (N := 7) hx hb hts k1 tyX7 tyX7_ok nmX7 hown hK hP hD hS 0 rfl rfl 5 (by decide) k9 (fun _ h9 => h9) rfl (by decide +kernel) rfl rfl (Nat.le_of_ble_eq_true rfl) s2W_p0_5 dX7_take_64 (fun H locs hP hD hS => ?_)
  refine lv_aload_n hx hb dX7_take_67 rfl (lv_at hl 0 rfl) ?_
  refine lv_aload_n hx hb dX7_take_68 rfl (lv_at hl 1 rfl) ?_
  refine va_get (D := G.1) (ci := 7) (v := .int (n 53)) (C := RX7) (T := TX7) (N := 7) hx hb hts k1 hown hK hP 5 rfl rfl 6 (by decide) k10 (fun _ h9 => h9) rfl dX7_take_69 ?_
  refine n_putQ (D := G.1) (wsn := s2W G s0 s1 s2 s3 s4 z0 z1 z2 z3 z4 ka kb (upd (upd (rng (rng (rng (rng d n 0 32) n 32 36) n 36 44) n 44 52) 52 (n 52)) 53 (n 53)) n) (ci := 7) (v := .int (n 53)) (ty := .int) (C := RX7) (T := TX7) (N := 7) hx hb hts k1 tyX7 tyX7_ok nmX7 hown hK hP hD hS 0 rfl rfl 6 (by decide) k10 (fun _ h9 => h9) rfl (by decide +kernel) rfl rfl (Nat.le_of_ble_eq_true rfl) s2W_p0_6 dX7_take_72 (fun H locs hP hD hS => ?_)
  have hP : va_P G.1 vwCl (s2W G s0 s1 s2 s3 s4 z0 z1 z2 z3 z4 ka kb n n) H := hP.wq (s2W_ed (d := (upd (upd (rng (rng (rng (rng d n 0 32) n 32 36) n 36 44) n 44 52) 52 (n 52)) 53 (n 53))) (eq54_take d n))
  have hD : va_D A (s2W G s0 s1 s2 s3 s4 z0 z1 z2 z3 z4 ka kb n n) := hD.wq (s2W_ed (d := (upd (upd (rng (rng (rng (rng d n 0 32) n 32 36) n 36 44) n 44 52) 52 (n 52)) 53 (n 53))) (eq54_take d n))
  exact mX_vret hAe C hP hS dX7_take_75
