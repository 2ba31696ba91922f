theorem hd_X6_isFigure : yX6_isFigure.cls ≠ "java/lang/invoke/MethodHandle" ∧ yX6_isFigure.cls ≠ "java/lang/invoke/VarHandle" ∧ (parseMethodDescriptor yX6_isFigure.desc).map (fun d => d.parameters.length) = some 1 := by decide +kernel
set_option maxRecDepth 100000 in
set_option maxHeartbeats 4000000 in
theorem c_X6_isFigure (l : Launch) (G : gG) (x : Int32) : mR l yX6_isFigure wsX6_isFigure ({ frames := 0, cells := 0, slots := 0, locals := 0 }) G (eW G  ) [.int x] (bI (inB x 48 57)) := by
  refine mR.of (cc := cX6_isFigure) (maxL := 1) (ret := (some .boolean)) (by decide) rfl (Nat.le_of_ble_eq_true rfl) ?_
  intro zp ze zs zm zb zt zc ls C hP hK hl
  obtain ⟨hx, hb, hr, hml, hown, hts, hlk⟩ := id C
  have hl : lv_has ls 1 [(0, .int x)] := hl
  refine lv_iload_n hx hb dX6_isFigure_0 rfl (lv_at hl 0 rfl) ?_
  refine lv_bipush (v := 48) hx hb dX6_isFigure_1 (by decide) ?_
  refine lv_icmp_lt (tgt := 16) hx hb dX6_isFigure_3 (by decide) (fun cq1 => ?_) (fun cq1 => ?_)
  · skip
    refine lv_iconst (v := 0) hx hb dX6_isFigure_16 (by decide) ?_
    exact mR_zret C dX6_isFigure_17 (by decide) ((bI_f (fun q => i32_nle.mpr cq1 q.1)).symm)
  · skip
    refine lv_iload_n hx hb dX6_isFigure_6 rfl (lv_at hl 0 rfl) ?_
    refine lv_bipush (v := 57) hx hb dX6_isFigure_7 (by decide) ?_
    refine lv_icmp_gt (tgt := 16) hx hb dX6_isFigure_9 (by decide) (fun cq2 => ?_) (fun cq2 => ?_)
    · skip
      refine lv_iconst (v := 0) hx hb dX6_isFigure_16 (by decide) ?_
      exact mR_zret C dX6_isFigure_17 (by decide) ((bI_f (fun q => i32_nle.mpr cq2 q.2)).symm)
    · skip
      refine lv_iconst (v := 1) hx hb dX6_isFigure_12 (by decide) ?_
      refine lv_goto (tgt := 17) hx hb dX6_isFigure_13 (by decide) ?_
      exact mR_zret C dX6_isFigure_17 (by decide) ((bI_t ⟨i32_nlt.mp cq1, i32_nlt.mp cq2⟩).symm)
theorem hd_X6_add : yX6_add.cls = RX6 ∧ yX6_add.cls ≠ "java/lang/invoke/MethodHandle" ∧ yX6_add.cls ≠ "java/lang/invoke/VarHandle" ∧ (parseMethodDescriptor yX6_add.desc).map (fun d => d.parameters.length) = some 1 := by decide +kernel
set_option maxRecDepth 100000 in
set_option maxHeartbeats 4000000 in
theorem c_X6_add (l : Launch) (G : gG) (l0 : Nat) (l1 : Nat) (b0 : Nat) (b1 : Nat) (b2 : Nat) (b3 : Nat) (s0 : Nat) (s1 : Nat) (s2 : Nat) (s3 : Nat) (s4 : Nat) (s : RSt) (em : Int32) (i : Nat → Int32) (tx : Nat → Int32) (rt : Nat → Int32) (rn : Nat → Int32) (sz : Nat) (x : Int32) (hsz : i 10 = nI sz) (hs240 : sz ≤ 240) : mX l yX6_add wsX6_add ({ frames := 0, cells := 0, slots := 0, locals := 0 }) G (rdW G l0 l1 b0 b1 b2 b3 s0 s1 s2 s3 s4 s em i tx rt rn) (rdW G l0 l1 b0 b1 b2 b3 s0 s1 s2 s3 s4 s em (upd i 10 (if sz = 240 then i 10 else nI (sz + 1))) (if sz = 240 then tx else upd tx sz x) rt rn) [.ref l0, .int x] (.returned (some (.int (bI (¬ sz = 240))))) := by
  refine mX.of (cc := cX6_add) (maxL := 2) (ret := (some .boolean)) (by decide) rfl (Nat.le_of_ble_eq_true rfl) ?_
  intro zp ze zs zm zb zt zc ls A hAe C hP hK hD hS hl
  obtain ⟨hx, hb, hr, hml, hown, hts, hlk⟩ := id C
  have hl : lv_has ls 2 [(0, .ref l0), (1, .int x)] := hl
  have k0 := hts (.fieldLink RX6 35 "DebtDowry$Reader" "length" "I") (by decide +kernel)
  have k1 := (fun w h => by revert w; decide +kernel : ∀ w ∈ wsX60, w ∈ wsX6_add)
  have k2 := hts (.fieldLink RX6 27 "DebtDowry$Reader" "letters" "[I") (by decide +kernel)
  refine lv_aload_n hx hb dX6_add_0 rfl (lv_at hl 0 rfl) ?_
  refine va_get (D := G.1) (ci := 6) (v := .int (i 10)) (C := RX6) (T := TX6) (N := 8) hx hb hts k1 hown hK hP 0 rfl rfl 3 (by decide) k0 (fun _ h9 => h9) rfl dX6_add_1 ?_
  refine lv_sipush (v := 240) hx hb dX6_add_4 (by decide) ?_
  refine n_icmp_lt (tgt := 12) hx hb dX6_add_7 (by decide) (u := sz) (v := 240) hsz rfl (by omega) (by omega) (fun cq1 => ?_) (fun cq1 => ?_)
  · skip
    refine lv_aload_n hx hb dX6_add_12 rfl (lv_at hl 0 rfl) ?_
    refine va_get (D := G.1) (ci := 6) (v := .ref l1) (C := RX6) (T := TX6) (N := 8) hx hb hts k1 hown hK hP 0 rfl rfl 2 (by decide) k2 (fun _ h9 => h9) rfl dX6_add_13 ?_
    refine lv_aload_n hx hb dX6_add_16 rfl (lv_at hl 0 rfl) ?_
    refine va_get (D := G.1) (ci := 6) (v := .int (i 10)) (C := RX6) (T := TX6) (N := 8) hx hb hts k1 hown hK hP 0 rfl rfl 3 (by decide) k0 (fun _ h9 => h9) rfl dX6_add_17 ?_
    refine lv_iload_n hx hb dX6_add_20 rfl (lv_at hl 1 rfl) ?_
    refine n_iastQ hx hb hK hP hD hS 1 0 rfl rfl (x := x) (j := sz) hsz (by omega) (by decide) dX6_add_21 (wsn := rdW G l0 l1 b0 b1 b2 b3 s0 s1 s2 s3 s4 s em i (upd tx sz x) rt rn) (rdW_r1 (by omega)) (fun H locs hP hD hS => ?_)
    refine lv_aload_n hx hb dX6_add_22 rfl (lv_at hl 0 rfl) ?_
    refine lv_dup hx hb dX6_add_23 rfl ?_
    refine va_get (D := G.1) (ci := 6) (v := .int (i 10)) (C := RX6) (T := TX6) (N := 8) hx hb hts k1 hown hK hP 0 rfl rfl 3 (by decide) k0 (fun _ h9 => h9) rfl dX6_add_24 ?_
    refine lv_iconst (v := 1) hx hb dX6_add_27 (by decide) ?_
    refine n_iadd hx hb dX6_add_28 (u := sz) (v := 1) hsz rfl (j := sz + 1) (by omega) ?_
    refine n_putQ (D := G.1) (wsn := rdW G l0 l1 b0 b1 b2 b3 s0 s1 s2 s3 s4 s em (upd i 10 (nI (sz + 1))) (upd tx sz x) rt rn) (ci := 6) (v := .int (nI (sz + 1))) (ty := .int) (C := RX6) (T := TX6) (N := 8) hx hb hts k1 tyX6 tyX6_ok nmX6 hown hK hP hD hS 0 rfl rfl 3 (by decide) k0 (fun _ h9 => h9) rfl (by decide +kernel) rfl rfl (Nat.le_of_ble_eq_true rfl) rdW_p0_3 dX6_add_29 (fun H locs hP hD hS => ?_)
    refine lv_iconst (v := 1) hx hb dX6_add_32 (by decide) ?_
    have hP : va_P G.1 vwCl (rdW G l0 l1 b0 b1 b2 b3 s0 s1 s2 s3 s4 s em (upd i 10 (if sz = 240 then i 10 else nI (sz + 1))) (if sz = 240 then tx else upd tx sz x) rt rn) H := by rw [show (upd i 10 (if sz = 240 then i 10 else nI (sz + 1))) = (upd i 10 (nI (sz + 1))) from by first | (rw [if_neg (show ¬ sz = 240 by omega)]; done) | (rw [if_pos (show sz = 240 by omega)]; exact upd_self rfl), show (if sz = 240 then tx else upd tx sz x) = (upd tx sz x) from by first | exact if_neg (show ¬ sz = 240 by omega) | exact if_pos (show sz = 240 by omega)]; exact hP
    exact mX_zret hAe C hP hS dX6_add_33 (by decide) ((bI_t (by omega)).symm)
  · skip
    refine lv_iconst (v := 0) hx hb dX6_add_10 (by decide) ?_
    have hP : va_P G.1 vwCl (rdW G l0 l1 b0 b1 b2 b3 s0 s1 s2 s3 s4 s em (upd i 10 (if sz = 240 then i 10 else nI (sz + 1))) (if sz = 240 then tx else upd tx sz x) rt rn) zs.heap := by rw [show (upd i 10 (if sz = 240 then i 10 else nI (sz + 1))) = i from by first | (rw [if_neg (show ¬ sz = 240 by omega)]; done) | (rw [if_pos (show sz = 240 by omega)]; exact upd_self rfl), show (if sz = 240 then tx else upd tx sz x) = tx from by first | exact if_neg (show ¬ sz = 240 by omega) | exact if_pos (show sz = 240 by omega)]; exact hP
    exact mX_zret hAe C hP hS dX6_add_11 (by decide) ((bI_f (by omega)).symm)
theorem hd_X6_blame : yX6_blame.cls = RX6 ∧ yX6_blame.cls ≠ "java/lang/invoke/MethodHandle" ∧ yX6_blame.cls ≠ "java/lang/invoke/VarHandle" ∧ (parseMethodDescriptor yX6_blame.desc).map (fun d => d.parameters.length) = some 2 := by decide +kernel
set_option maxRecDepth 100000 in
set_option maxHeartbeats 4000000 in
theorem c_X6_blame (l : Launch) (G : gG) (l0 : Nat) (l1 : Nat) (b0 : Nat) (b1 : Nat) (b2 : Nat) (b3 : Nat) (s0 : Nat) (s1 : Nat) (s2 : Nat) (s3 : Nat) (s4 : Nat) (s : RSt) (em : Int32) (i : Nat → Int32) (tx : Nat → Int32) (rt : Nat → Int32) (rn : Nat → Int32) (k : Int32) (q : Int32) (hk : ¬ k = 0) : mX l yX6_blame wsX6_blame ({ frames := 0, cells := 0, slots := 0, locals := 0 }) G (rdW G l0 l1 b0 b1 b2 b3 s0 s1 s2 s3 s4 s em i tx rt rn) (rdW G l0 l1 b0 b1 b2 b3 s0 s1 s2 s3 s4 (opB k q s) em i tx rt rn) [.ref l0, .int k, .int q] (.returned none) := by
  refine mX.of (cc := cX6_blame) (maxL := 3) (ret := none) (by decide) rfl (Nat.le_of_ble_eq_true rfl) ?_
  intro zp ze zs zm zb zt zc ls A hAe C hP hK hD hS hl
  obtain ⟨hx, hb, hr, hml, hown, hts, hlk⟩ := id C
  have hl : lv_has ls 3 [(0, .ref l0), (1, .int k), (2, .int q)] := hl
  have k0 := hts (.fieldLink RX6 42 "DebtDowry$Reader" "faultKind" "I") (by decide +kernel)
  have k1 := (fun w h => by revert w; decide +kernel : ∀ w ∈ wsX60, w ∈ wsX6_blame)
  have k2 := hts (.fieldLink RX6 31 "DebtDowry$Reader" "faultAt" "I") (by decide +kernel)
  refine lv_aload_n hx hb dX6_blame_0 rfl (lv_at hl 0 rfl) ?_
  refine va_get (D := G.1) (ci := 6) (v := .int s.2.1) (C := RX6) (T := TX6) (N := 8) hx hb hts k1 hown hK hP 0 rfl rfl 4 (by decide) k0 (fun _ h9 => h9) rfl dX6_blame_1 ?_
  refine lv_if_ne (tgt := 17) hx hb dX6_blame_4 (by decide) (fun cq1 => ?_) (fun cq1 => ?_)
  · skip
    have hz := cq1
    have hP : va_P G.1 vwCl (rdW G l0 l1 b0 b1 b2 b3 s0 s1 s2 s3 s4 (opB k q s) em i tx rt rn) zs.heap := by rw [show (opB k q s) = s from opB_n hz]; exact hP
    exact mX_vret hAe C hP hS dX6_blame_17
  · skip
    have hz := cq1
    refine lv_aload_n hx hb dX6_blame_7 rfl (lv_at hl 0 rfl) ?_
    refine lv_iload_n hx hb dX6_blame_8 rfl (lv_at hl 1 rfl) ?_
    refine n_put (D := G.1) (wsn := rdW G l0 l1 b0 b1 b2 b3 s0 s1 s2 s3 s4 (s.1, k, s.2.2) em i tx rt rn) (ci := 6) (v := .int k) (ty := .int) (C := RX6) (T := TX6) (N := 8) hx hb hts k1 tyX6 tyX6_ok nmX6 hown hK hP hD hS 0 rfl rfl 4 (by decide) k0 (fun _ h9 => h9) rfl (by decide +kernel) rfl rfl (Nat.le_of_ble_eq_true rfl) rfl dX6_blame_9 (fun H locs hP hD hS => ?_)
    refine lv_aload_n hx hb dX6_blame_12 rfl (lv_at hl 0 rfl) ?_
    refine lv_iload_n hx hb dX6_blame_13 rfl (lv_at hl 2 rfl) ?_
    refine n_put (D := G.1) (wsn := rdW G l0 l1 b0 b1 b2 b3 s0 s1 s2 s3 s4 (s.1, k, q) em i tx rt rn) (ci := 6) (v := .int q) (ty := .int) (C := RX6) (T := TX6) (N := 8) hx hb hts k1 tyX6 tyX6_ok nmX6 hown hK hP hD hS 0 rfl rfl 5 (by decide) k2 (fun _ h9 => h9) rfl (by decide +kernel) rfl rfl (Nat.le_of_ble_eq_true rfl) rfl dX6_blame_14 (fun H locs hP hD hS => ?_)
    have hP : va_P G.1 vwCl (rdW G l0 l1 b0 b1 b2 b3 s0 s1 s2 s3 s4 (opB k q s) em i tx rt rn) H := by rw [show (opB k q s) = (s.1, k, q) from opB_z hz hk]; exact hP
    exact mX_vret hAe C hP hS dX6_blame_17
theorem hd_X6_nextSign : yX6_nextSign.cls = RX6 ∧ yX6_nextSign.cls ≠ "java/lang/invoke/MethodHandle" ∧ yX6_nextSign.cls ≠ "java/lang/invoke/VarHandle" ∧ (parseMethodDescriptor yX6_nextSign.desc).map (fun d => d.parameters.length) = some 0 := by decide +kernel
set_option maxRecDepth 100000 in
set_option maxHeartbeats 4000000 in
theorem c_X6_nextSign (l : Launch) (G : gG) (l0 : Nat) (l1 : Nat) (b0 : Nat) (b1 : Nat) (b2 : Nat) (b3 : Nat) (s0 : Nat) (s1 : Nat) (s2 : Nat) (s3 : Nat) (s4 : Nat) (s : RSt) (em : Int32) (i : Nat → Int32) (tx : Nat → Int32) (rt : Nat → Int32) (rn : Nat → Int32) (sz : Nat) (hsz : i 10 = nI sz) (hs240 : sz ≤ 240) (ha : s.1 ≤ sz) : mX l yX6_nextSign wsX6_nextSign ({ frames := 0, cells := 0, slots := 0, locals := 0 }) G (rdW G l0 l1 b0 b1 b2 b3 s0 s1 s2 s3 s4 s em i tx rt rn) (rdW G l0 l1 b0 b1 b2 b3 s0 s1 s2 s3 s4 (opW tx sz s) em i tx rt rn) [.ref l0] (.returned (some (.int (hv tx sz (sk tx sz s.1))))) := by
  refine mX.of (cc := cX6_nextSign) (maxL := 1) (ret := (some .int)) (by decide) rfl (Nat.le_of_ble_eq_true rfl) ?_
  intro zp ze zs zm zb zt zc ls A hAe C hP hK hD hS hl
  obtain ⟨hx, hb, hr, hml, hown, hts, hlk⟩ := id C
  have hl : lv_has ls 1 [(0, .ref l0)] := hl
  have k0 := hts (.fieldLink RX6 45 "DebtDowry$Reader" "at" "I") (by decide +kernel)
  have k1 := (fun w h => by revert w; decide +kernel : ∀ w ∈ wsX60, w ∈ wsX6_nextSign)
  have k2 := hts (.fieldLink RX6 35 "DebtDowry$Reader" "length" "I") (by decide +kernel)
  have k3 := hts (.fieldLink RX6 27 "DebtDowry$Reader" "letters" "[I") (by decide +kernel)
  refine wl_X (B := (sz - s.1)) (i0 := 0) (Inv := fun i1 H locs ls => va_P G.1 vwCl (rdW G l0 l1 b0 b1 b2 b3 s0 s1 s2 s3 s4 (s.1 + i1, s.2.1, s.2.2) em i tx rt rn) H ∧ va_D A (rdW G l0 l1 b0 b1 b2 b3 s0 s1 s2 s3 s4 (s.1 + i1, s.2.1, s.2.2) em i tx rt rn) ∧ va_S A zs.heap H locs ∧ lv_has ls 1 [(0, .ref l0)] ∧ sk tx sz s.1 = skN tx sz (sz - (s.1 + i1)) (s.1 + i1)) (by omega) ⟨hP, hD, hS, lv_sub hl [0] (rfl), (rfl)⟩ ?_
  rintro i1 H locs ls hle0 ⟨hP, hD, hS, hl, hR⟩ ih0
  refine lv_aload_n hx hb dX6_nextSign_0 rfl (lv_at hl 0 rfl) ?_
  refine va_get (D := G.1) (ci := 6) (v := .int (nI ((s.1 + i1, s.2.1, s.2.2).1))) (C := RX6) (T := TX6) (N := 8) hx hb hts k1 hown hK hP 0 rfl rfl 6 (by decide) k0 (fun _ h9 => h9) rfl dX6_nextSign_1 ?_
  refine lv_aload_n hx hb dX6_nextSign_4 rfl (lv_at hl 0 rfl) ?_
  refine va_get (D := G.1) (ci := 6) (v := .int (i 10)) (C := RX6) (T := TX6) (N := 8) hx hb hts k1 hown hK hP 0 rfl rfl 3 (by decide) k2 (fun _ h9 => h9) rfl dX6_nextSign_5 ?_
  refine n_icmp_ge (tgt := 38) hx hb dX6_nextSign_8 (by decide) (u := (s.1 + i1, s.2.1, s.2.2).1) (v := sz) rfl hsz (by omega) (by omega) (fun cq1 => ?_) (fun cq1 => ?_)
  · skip
    have hno : ¬ hv tx sz (s.1 + i1) = 32 := by unfold hv; rw [if_neg (by omega)]; decide
    have hske : sk tx sz s.1 = s.1 + i1 := by rw [hR]; exact skN_x hno _
    refine lv_aload_n hx hb dX6_nextSign_38 rfl (lv_at hl 0 rfl) ?_
    refine va_get (D := G.1) (ci := 6) (v := .int (nI ((s.1 + i1, s.2.1, s.2.2).1))) (C := RX6) (T := TX6) (N := 8) hx hb hts k1 hown hK hP 0 rfl rfl 6 (by decide) k0 (fun _ h9 => h9) rfl dX6_nextSign_39 ?_
    refine lv_aload_n hx hb dX6_nextSign_42 rfl (lv_at hl 0 rfl) ?_
    refine va_get (D := G.1) (ci := 6) (v := .int (i 10)) (C := RX6) (T := TX6) (N := 8) hx hb hts k1 hown hK hP 0 rfl rfl 3 (by decide) k2 (fun _ h9 => h9) rfl dX6_nextSign_43 ?_
    refine n_icmp_ge (tgt := 61) hx hb dX6_nextSign_46 (by decide) (u := (s.1 + i1, s.2.1, s.2.2).1) (v := sz) rfl hsz (by omega) (by omega) (fun cq2 => ?_) (fun cq2 => ?_)
    · skip
      refine lv_iconst (v := (-1)) hx hb dX6_nextSign_61 (by decide) ?_
      have hP : va_P G.1 vwCl (rdW G l0 l1 b0 b1 b2 b3 s0 s1 s2 s3 s4 (opW tx sz s) em i tx rt rn) H := by rw [show (opW tx sz s) = (s.1 + i1, s.2.1, s.2.2) from by unfold opW; rw [hske]]; exact hP
      exact mX_iret hAe C hP hS dX6_nextSign_62 (by rw [hske]; unfold hv; rw [if_neg (by omega)])
    · exact absurd cq2 (by omega)
  · skip
    refine lv_aload_n hx hb dX6_nextSign_11 rfl (lv_at hl 0 rfl) ?_
    refine va_get (D := G.1) (ci := 6) (v := .ref l1) (C := RX6) (T := TX6) (N := 8) hx hb hts k1 hown hK hP 0 rfl rfl 2 (by decide) k3 (fun _ h9 => h9) rfl dX6_nextSign_12 ?_
    refine lv_aload_n hx hb dX6_nextSign_15 rfl (lv_at hl 0 rfl) ?_
    refine va_get (D := G.1) (ci := 6) (v := .int (nI ((s.1 + i1, s.2.1, s.2.2).1))) (C := RX6) (T := TX6) (N := 8) hx hb hts k1 hown hK hP 0 rfl rfl 6 (by decide) k0 (fun _ h9 => h9) rfl dX6_nextSign_16 ?_
    refine n_iald hx hb hK hP 1 0 rfl rfl (j := (s.1 + i1, s.2.1, s.2.2).1) rfl (by omega) (by decide) dX6_nextSign_19 ?_
    refine lv_bipush (v := 32) hx hb dX6_nextSign_20 (by decide) ?_
    refine lv_icmp_ne (tgt := 38) hx hb dX6_nextSign_22 (by decide) (fun cq3 => ?_) (fun cq3 => ?_)
    · skip
      have hno : ¬ hv tx sz (s.1 + i1) = 32 := by unfold hv; rw [if_pos (by omega)]; exact cq3
      have hske : sk tx sz s.1 = s.1 + i1 := by rw [hR]; exact skN_x hno _
      refine lv_aload_n hx hb dX6_nextSign_38 rfl (lv_at hl 0 rfl) ?_
      refine va_get (D := G.1) (ci := 6) (v := .int (nI ((s.1 + i1, s.2.1, s.2.2).1))) (C := RX6) (T := TX6) (N := 8) hx hb hts k1 hown hK hP 0 rfl rfl 6 (by decide) k0 (fun _ h9 => h9) rfl dX6_nextSign_39 ?_
      refine lv_aload_n hx hb dX6_nextSign_42 rfl (lv_at hl 0 rfl) ?_
      refine va_get (D := G.1) (ci := 6) (v := .int (i 10)) (C := RX6) (T := TX6) (N := 8) hx hb hts k1 hown hK hP 0 rfl rfl 3 (by decide) k2 (fun _ h9 => h9) rfl dX6_nextSign_43 ?_
      refine n_icmp_ge (tgt := 61) hx hb dX6_nextSign_46 (by decide) (u := (s.1 + i1, s.2.1, s.2.2).1) (v := sz) rfl hsz (by omega) (by omega) (fun cq4 => ?_) (fun cq4 => ?_)
      · exact absurd cq4 (by omega)
      · skip
        refine lv_aload_n hx hb dX6_nextSign_49 rfl (lv_at hl 0 rfl) ?_
        refine va_get (D := G.1) (ci := 6) (v := .ref l1) (C := RX6) (T := TX6) (N := 8) hx hb hts k1 hown hK hP 0 rfl rfl 2 (by decide) k3 (fun _ h9 => h9) rfl dX6_nextSign_50 ?_
        refine lv_aload_n hx hb dX6_nextSign_53 rfl (lv_at hl 0 rfl) ?_
        refine va_get (D := G.1) (ci := 6) (v := .int (nI ((s.1 + i1, s.2.1, s.2.2).1))) (C := RX6) (T := TX6) (N := 8) hx hb hts k1 hown hK hP 0 rfl rfl 6 (by decide) k0 (fun _ h9 => h9) rfl dX6_nextSign_54 ?_
        refine n_iald hx hb hK hP 1 0 rfl rfl (j := (s.1 + i1, s.2.1, s.2.2).1) rfl (by omega) (by decide) dX6_nextSign_57 ?_
        refine lv_goto (tgt := 62) hx hb dX6_nextSign_58 (by decide) ?_
        have hP : va_P G.1 vwCl (rdW G l0 l1 b0 b1 b2 b3 s0 s1 s2 s3 s4 (opW tx sz s) em i tx rt rn) H := by rw [show (opW tx sz s) = (s.1 + i1, s.2.1, s.2.2) from by unfold opW; rw [hske]]; exact hP
        exact mX_iret hAe C hP hS dX6_nextSign_62 (by rw [hske]; unfold hv; rw [if_pos (by omega)])
    · skip
      have h32 : hv tx sz (s.1 + i1) = 32 := by unfold hv; rw [if_pos (by omega)]; exact cq3
      refine lv_aload_n hx hb dX6_nextSign_25 rfl (lv_at hl 0 rfl) ?_
      refine lv_dup hx hb dX6_nextSign_26 rfl ?_
      refine va_get (D := G.1) (ci := 6) (v := .int (nI ((s.1 + i1, s.2.1, s.2.2).1))) (C := RX6) (T := TX6) (N := 8) hx hb hts k1 hown hK hP 0 rfl rfl 6 (by decide) k0 (fun _ h9 => h9) rfl dX6_nextSign_27 ?_
      refine lv_iconst (v := 1) hx hb dX6_nextSign_30 (by decide) ?_
      refine n_iadd hx hb dX6_nextSign_31 (u := (s.1 + i1, s.2.1, s.2.2).1) (v := 1) rfl rfl (j := ((s.1 + i1, s.2.1, s.2.2).1) + 1) (by omega) ?_
      refine n_put (D := G.1) (wsn := rdW G l0 l1 b0 b1 b2 b3 s0 s1 s2 s3 s4 (((s.1 + i1, s.2.1, s.2.2).1) + 1, (s.1 + i1, s.2.1, s.2.2).2.1, (s.1 + i1, s.2.1, s.2.2).2.2) em i tx rt rn) (ci := 6) (v := .int (nI (((s.1 + i1, s.2.1, s.2.2).1) + 1))) (ty := .int) (C := RX6) (T := TX6) (N := 8) hx hb hts k1 tyX6 tyX6_ok nmX6 hown hK hP hD hS 0 rfl rfl 6 (by decide) k0 (fun _ h9 => h9) rfl (by decide +kernel) rfl rfl (Nat.le_of_ble_eq_true rfl) rfl dX6_nextSign_32 (fun H locs hP hD hS => ?_)
      refine lv_goto (tgt := 0) hx hb dX6_nextSign_35 (by decide) ?_
      exact ih0 _ _ _ (by omega) ⟨hP, hD, hS, lv_sub hl [0] (rfl), (by rw [hR, skN_s h32]; rfl)⟩
