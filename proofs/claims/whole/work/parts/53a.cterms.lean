theorem eqT_take (t u : Nat → Int32) : eqT (rng (rng (rng (upd (upd (upd (upd (upd (upd t 0 (u 0)) 1 (u 1)) 2 (u 2)) 3 (u 3)) 4 (u 4)) 21 (u 21)) u 9 13) u 13 17) u 17 21) u := by
  constructor
  · intro k hk
    rw [rng_out (by omega), rng_out (by omega), rng_out (by omega)]
    simp only [upd]
    rcases (by omega : k = 0 ∨ k = 1 ∨ k = 2 ∨ k = 3 ∨ k = 4) with rfl | rfl | rfl | rfl | rfl <;> rfl
  · intro k h1 h2
    by_cases a : 17 ≤ k ∧ k < 21
    · exact rng_in a.1 a.2
    · rw [rng_out (by omega)]
      by_cases b : 13 ≤ k ∧ k < 17
      · exact rng_in b.1 b.2
      · rw [rng_out (by omega)]
        by_cases c : 9 ≤ k ∧ k < 13
        · exact rng_in c.1 c.2
        · rw [rng_out (by omega), show k = 21 by omega]; rfl
theorem hd_X8_hasPerson : yX8_hasPerson.cls = RX8 ∧ yX8_hasPerson.cls ≠ "java/lang/invoke/MethodHandle" ∧ yX8_hasPerson.cls ≠ "java/lang/invoke/VarHandle" ∧ (parseMethodDescriptor yX8_hasPerson.desc).map (fun d => d.parameters.length) = some 1 := by decide +kernel
set_option maxRecDepth 100000 in
set_option maxHeartbeats 4000000 in
theorem c_X8_hasPerson (l : Launch) (G : gG) (b0 : Nat) (b1 : Nat) (b2 : Nat) (b3 : Nat) (t : Nat → Int32) (nc : Nat) (np : Nat) (p : Int32) (hT : tw t nc np) : mR l yX8_hasPerson wsX8_hasPerson ({ frames := 0, cells := 0, slots := 0, locals := 0 }) G (kW G b0 b1 b2 b3 t) [.ref b0, .int p] (bI (isP t p)) := by
  refine mR.of (cc := cX8_hasPerson) (maxL := 2) (ret := (some .boolean)) (by decide) rfl (Nat.le_of_ble_eq_true rfl) ?_
  intro zp ze zs zm zb zt zc ls C hP hK hl
  obtain ⟨hx, hb, hr, hml, hown, hts, hlk⟩ := id C
  have hl : lv_has ls 2 [(0, .ref b0), (1, .int p)] := hl
  have hT2 := hT.2.2
  have k0 := hts (.fieldLink RX8 35 "DebtDowry$Terms" "persons" "I") (by decide +kernel)
  have k1 := (fun w h => by revert w; decide +kernel : ∀ w ∈ wsX80, w ∈ wsX8_hasPerson)
  refine lv_iload_n hx hb dX8_hasPerson_0 rfl (lv_at hl 1 rfl) ?_
  refine lv_if_lt (tgt := 16) hx hb dX8_hasPerson_1 (by decide) (fun cq1 => ?_) (fun cq1 => ?_)
  · skip
    refine lv_iconst (v := 0) hx hb dX8_hasPerson_16 (by decide) ?_
    exact mR_zret C dX8_hasPerson_17 (by decide) ((bI_f (fun h => ((inB_cls hT.2.1 (by omega)).mp h).1 cq1)).symm)
  · skip
    refine lv_iload_n hx hb dX8_hasPerson_4 rfl (lv_at hl 1 rfl) ?_
    refine lv_aload_n hx hb dX8_hasPerson_5 rfl (lv_at hl 0 rfl) ?_
    refine va_get (D := G.1) (ci := 8) (v := .int (t 4)) (C := RX8) (T := TX8) (N := 9) hx hb hts k1 hown hK hP 0 rfl rfl 4 (by decide) k0 (fun _ h9 => h9) rfl dX8_hasPerson_6 ?_
    refine lv_icmp_ge (tgt := 16) hx hb dX8_hasPerson_9 (by decide) (fun cq2 => ?_) (fun cq2 => ?_)
    · skip
      refine lv_iconst (v := 0) hx hb dX8_hasPerson_16 (by decide) ?_
      exact mR_zret C dX8_hasPerson_17 (by decide) ((bI_f (fun h => ((inB_cls hT.2.1 (by omega)).mp h).2 cq2)).symm)
    · skip
      refine lv_iconst (v := 1) hx hb dX8_hasPerson_12 (by decide) ?_
      refine lv_goto (tgt := 17) hx hb dX8_hasPerson_13 (by decide) ?_
      exact mR_zret C dX8_hasPerson_17 (by decide) ((bI_t ((inB_cls hT.2.1 (by omega)).mpr ⟨cq1, cq2⟩)).symm)
theorem hd_X8_hasCreditor : yX8_hasCreditor.cls = RX8 ∧ yX8_hasCreditor.cls ≠ "java/lang/invoke/MethodHandle" ∧ yX8_hasCreditor.cls ≠ "java/lang/invoke/VarHandle" ∧ (parseMethodDescriptor yX8_hasCreditor.desc).map (fun d => d.parameters.length) = some 1 := by decide +kernel
set_option maxRecDepth 100000 in
set_option maxHeartbeats 4000000 in
theorem c_X8_hasCreditor (l : Launch) (G : gG) (b0 : Nat) (b1 : Nat) (b2 : Nat) (b3 : Nat) (t : Nat → Int32) (nc : Nat) (np : Nat) (c : Int32) (hT : tw t nc np) : mR l yX8_hasCreditor wsX8_hasCreditor ({ frames := 0, cells := 0, slots := 0, locals := 0 }) G (kW G b0 b1 b2 b3 t) [.ref b0, .int c] (bI (isC t c)) := by
  refine mR.of (cc := cX8_hasCreditor) (maxL := 2) (ret := (some .boolean)) (by decide) rfl (Nat.le_of_ble_eq_true rfl) ?_
  intro zp ze zs zm zb zt zc ls C hP hK hl
  obtain ⟨hx, hb, hr, hml, hown, hts, hlk⟩ := id C
  have hl : lv_has ls 2 [(0, .ref b0), (1, .int c)] := hl
  have hT2 := hT.2.2
  have k0 := hts (.fieldLink RX8 32 "DebtDowry$Terms" "creditors" "I") (by decide +kernel)
  have k1 := (fun w h => by revert w; decide +kernel : ∀ w ∈ wsX80, w ∈ wsX8_hasCreditor)
  refine lv_iload_n hx hb dX8_hasCreditor_0 rfl (lv_at hl 1 rfl) ?_
  refine lv_if_lt (tgt := 16) hx hb dX8_hasCreditor_1 (by decide) (fun cq1 => ?_) (fun cq1 => ?_)
  · skip
    refine lv_iconst (v := 0) hx hb dX8_hasCreditor_16 (by decide) ?_
    exact mR_zret C dX8_hasCreditor_17 (by decide) ((bI_f (fun h => ((inB_cls hT.1 (by omega)).mp h).1 cq1)).symm)
  · skip
    refine lv_iload_n hx hb dX8_hasCreditor_4 rfl (lv_at hl 1 rfl) ?_
    refine lv_aload_n hx hb dX8_hasCreditor_5 rfl (lv_at hl 0 rfl) ?_
    refine va_get (D := G.1) (ci := 8) (v := .int (t 3)) (C := RX8) (T := TX8) (N := 9) hx hb hts k1 hown hK hP 0 rfl rfl 3 (by decide) k0 (fun _ h9 => h9) rfl dX8_hasCreditor_6 ?_
    refine lv_icmp_ge (tgt := 16) hx hb dX8_hasCreditor_9 (by decide) (fun cq2 => ?_) (fun cq2 => ?_)
    · skip
      refine lv_iconst (v := 0) hx hb dX8_hasCreditor_16 (by decide) ?_
      exact mR_zret C dX8_hasCreditor_17 (by decide) ((bI_f (fun h => ((inB_cls hT.1 (by omega)).mp h).2 cq2)).symm)
    · skip
      refine lv_iconst (v := 1) hx hb dX8_hasCreditor_12 (by decide) ?_
      refine lv_goto (tgt := 17) hx hb dX8_hasCreditor_13 (by decide) ?_
      exact mR_zret C dX8_hasCreditor_17 (by decide) ((bI_t ((inB_cls hT.1 (by omega)).mpr ⟨cq1, cq2⟩)).symm)
theorem hd_X8_hasBoth : yX8_hasBoth.cls = RX8 ∧ yX8_hasBoth.cls ≠ "java/lang/invoke/MethodHandle" ∧ yX8_hasBoth.cls ≠ "java/lang/invoke/VarHandle" ∧ (parseMethodDescriptor yX8_hasBoth.desc).map (fun d => d.parameters.length) = some 2 := by decide +kernel
set_option maxRecDepth 100000 in
set_option maxHeartbeats 4000000 in
theorem c_X8_hasBoth (l : Launch) (G : gG) (b0 : Nat) (b1 : Nat) (b2 : Nat) (b3 : Nat) (t : Nat → Int32) (nc : Nat) (np : Nat) (p : Int32) (c : Int32) (hT : tw t nc np) : mR l yX8_hasBoth wsX8_hasBoth ({ frames := 1, cells := 0, slots := 0, locals := 21 }) G (kW G b0 b1 b2 b3 t) [.ref b0, .int p, .int c] (bI (isP t p ∧ isC t c)) := by
  refine mR.of (cc := cX8_hasBoth) (maxL := 3) (ret := (some .boolean)) (by decide) rfl (Nat.le_of_ble_eq_true rfl) ?_
  intro zp ze zs zm zb zt zc ls C hP hK hl
  obtain ⟨hx, hb, hr, hml, hown, hts, hlk⟩ := id C
  have hl : lv_has ls 3 [(0, .ref b0), (1, .int p), (2, .int c)] := hl
  refine lv_aload_n hx hb dX8_hasBoth_0 rfl (lv_at hl 0 rfl) ?_
  refine lv_iload_n hx hb dX8_hasBoth_1 rfl (lv_at hl 1 rfl) ?_
  refine cR_V (Cn := RX8) (n := 1) (As := [.int p]) (rest := []) C (c_X8_hasPerson l G b0 b1 b2 b3 t nc np p hT) gX8_hasBoth_X8_hasPerson rfl ⟨rfl, rfl⟩ hd_X8_hasPerson ⟨(Nat.le_of_ble_eq_true rfl), (Nat.le_of_ble_eq_true rfl)⟩ hK hP (va_recv hK hP (ci := 8) (q0 := 0) rfl rfl) rfl hl.1 rfl (Nat.le_of_ble_eq_true rfl) dX8_hasBoth_2 ⟨(Nat.le_of_ble_eq_true rfl), (Nat.le_of_ble_eq_true rfl)⟩ ?_
  refine b_if_eq (tgt := 20) hx hb dX8_hasBoth_5 (by decide) (fun cq1 => ?_) (fun cq1 => ?_)
  · skip
    refine lv_iconst (v := 0) hx hb dX8_hasBoth_20 (by decide) ?_
    exact mR_zret C dX8_hasBoth_21 (by decide) ((bI_f (fun h => cq1 h.1)).symm)
  · skip
    refine lv_aload_n hx hb dX8_hasBoth_8 rfl (lv_at hl 0 rfl) ?_
    refine lv_iload_n hx hb dX8_hasBoth_9 rfl (lv_at hl 2 rfl) ?_
    refine cR_V (Cn := RX8) (n := 1) (As := [.int c]) (rest := []) C (c_X8_hasCreditor l G b0 b1 b2 b3 t nc np c hT) gX8_hasBoth_X8_hasCreditor rfl ⟨rfl, rfl⟩ hd_X8_hasCreditor ⟨(Nat.le_of_ble_eq_true rfl), (Nat.le_of_ble_eq_true rfl)⟩ hK hP (va_recv hK hP (ci := 8) (q0 := 0) rfl rfl) rfl hl.1 rfl (Nat.le_of_ble_eq_true rfl) dX8_hasBoth_10 ⟨(Nat.le_of_ble_eq_true rfl), (Nat.le_of_ble_eq_true rfl)⟩ ?_
    refine b_if_eq (tgt := 20) hx hb dX8_hasBoth_13 (by decide) (fun cq2 => ?_) (fun cq2 => ?_)
    · skip
      refine lv_iconst (v := 0) hx hb dX8_hasBoth_20 (by decide) ?_
      exact mR_zret C dX8_hasBoth_21 (by decide) ((bI_f (fun h => cq2 h.2)).symm)
    · skip
      refine lv_iconst (v := 1) hx hb dX8_hasBoth_16 (by decide) ?_
      refine lv_goto (tgt := 21) hx hb dX8_hasBoth_17 (by decide) ?_
      exact mR_zret C dX8_hasBoth_21 (by decide) ((bI_t ⟨cq1, cq2⟩).symm)
theorem hd_X8_isGirl : yX8_isGirl.cls = RX8 ∧ yX8_isGirl.cls ≠ "java/lang/invoke/MethodHandle" ∧ yX8_isGirl.cls ≠ "java/lang/invoke/VarHandle" ∧ (parseMethodDescriptor yX8_isGirl.desc).map (fun d => d.parameters.length) = some 1 := by decide +kernel
set_option maxRecDepth 100000 in
set_option maxHeartbeats 4000000 in
theorem c_X8_isGirl (l : Launch) (G : gG) (b0 : Nat) (b1 : Nat) (b2 : Nat) (b3 : Nat) (t : Nat → Int32) (nc : Nat) (np : Nat) (p : Int32) (hT : tw t nc np) : mR l yX8_isGirl wsX8_isGirl ({ frames := 1, cells := 0, slots := 0, locals := 21 }) G (kW G b0 b1 b2 b3 t) [.ref b0, .int p] (bI (isG t p)) := by
  refine mR.of (cc := cX8_isGirl) (maxL := 2) (ret := (some .boolean)) (by decide) rfl (Nat.le_of_ble_eq_true rfl) ?_
  intro zp ze zs zm zb zt zc ls C hP hK hl
  obtain ⟨hx, hb, hr, hml, hown, hts, hlk⟩ := id C
  have hl : lv_has ls 2 [(0, .ref b0), (1, .int p)] := hl
  have k0 := hts (.fieldLink RX8 38 "DebtDowry$Terms" "girls" "I") (by decide +kernel)
  have k1 := (fun w h => by revert w; decide +kernel : ∀ w ∈ wsX80, w ∈ wsX8_isGirl)
  refine lv_aload_n hx hb dX8_isGirl_0 rfl (lv_at hl 0 rfl) ?_
  refine lv_iload_n hx hb dX8_isGirl_1 rfl (lv_at hl 1 rfl) ?_
  refine cR_V (Cn := RX8) (n := 1) (As := [.int p]) (rest := []) C (c_X8_hasPerson l G b0 b1 b2 b3 t nc np p hT) gX8_isGirl_X8_hasPerson rfl ⟨rfl, rfl⟩ hd_X8_hasPerson ⟨(Nat.le_of_ble_eq_true rfl), (Nat.le_of_ble_eq_true rfl)⟩ hK hP (va_recv hK hP (ci := 8) (q0 := 0) rfl rfl) rfl hl.1 rfl (Nat.le_of_ble_eq_true rfl) dX8_isGirl_2 ⟨(Nat.le_of_ble_eq_true rfl), (Nat.le_of_ble_eq_true rfl)⟩ ?_
  refine b_if_eq (tgt := 24) hx hb dX8_isGirl_5 (by decide) (fun cq1 => ?_) (fun cq1 => ?_)
  · skip
    refine lv_iconst (v := 0) hx hb dX8_isGirl_24 (by decide) ?_
    exact mR_zret C dX8_isGirl_25 (by decide) ((bI_f (fun h => cq1 h.1)).symm)
  · skip
    refine lv_aload_n hx hb dX8_isGirl_8 rfl (lv_at hl 0 rfl) ?_
    refine va_get (D := G.1) (ci := 8) (v := .int (t 21)) (C := RX8) (T := TX8) (N := 9) hx hb hts k1 hown hK hP 0 rfl rfl 5 (by decide) k0 (fun _ h9 => h9) rfl dX8_isGirl_9 ?_
    refine lv_iload_n hx hb dX8_isGirl_12 rfl (lv_at hl 1 rfl) ?_
    refine lv_ishr hx hb dX8_isGirl_13 ?_
    refine lv_iconst (v := 1) hx hb dX8_isGirl_14 (by decide) ?_
    refine lv_iand hx hb dX8_isGirl_15 ?_
    refine lv_iconst (v := 1) hx hb dX8_isGirl_16 (by decide) ?_
    refine lv_icmp_ne (tgt := 24) hx hb dX8_isGirl_17 (by decide) (fun cq2 => ?_) (fun cq2 => ?_)
    · skip
      refine lv_iconst (v := 0) hx hb dX8_isGirl_24 (by decide) ?_
      exact mR_zret C dX8_isGirl_25 (by decide) ((bI_f (fun h => cq2 h.2)).symm)
    · skip
      refine lv_iconst (v := 1) hx hb dX8_isGirl_20 (by decide) ?_
      refine lv_goto (tgt := 25) hx hb dX8_isGirl_21 (by decide) ?_
      exact mR_zret C dX8_isGirl_25 (by decide) ((bI_t ⟨cq1, cq2⟩).symm)
theorem hd_X8_isMan : yX8_isMan.cls = RX8 ∧ yX8_isMan.cls ≠ "java/lang/invoke/MethodHandle" ∧ yX8_isMan.cls ≠ "java/lang/invoke/VarHandle" ∧ (parseMethodDescriptor yX8_isMan.desc).map (fun d => d.parameters.length) = some 1 := by decide +kernel
set_option maxRecDepth 100000 in
set_option maxHeartbeats 4000000 in
theorem c_X8_isMan (l : Launch) (G : gG) (b0 : Nat) (b1 : Nat) (b2 : Nat) (b3 : Nat) (t : Nat → Int32) (nc : Nat) (np : Nat) (p : Int32) (hT : tw t nc np) : mR l yX8_isMan wsX8_isMan ({ frames := 1, cells := 0, slots := 0, locals := 21 }) G (kW G b0 b1 b2 b3 t) [.ref b0, .int p] (bI (isM t p)) := by
  refine mR.of (cc := cX8_isMan) (maxL := 2) (ret := (some .boolean)) (by decide) rfl (Nat.le_of_ble_eq_true rfl) ?_
  intro zp ze zs zm zb zt zc ls C hP hK hl
  obtain ⟨hx, hb, hr, hml, hown, hts, hlk⟩ := id C
  have hl : lv_has ls 2 [(0, .ref b0), (1, .int p)] := hl
  have k0 := hts (.fieldLink RX8 38 "DebtDowry$Terms" "girls" "I") (by decide +kernel)
  have k1 := (fun w h => by revert w; decide +kernel : ∀ w ∈ wsX80, w ∈ wsX8_isMan)
  refine lv_aload_n hx hb dX8_isMan_0 rfl (lv_at hl 0 rfl) ?_
  refine lv_iload_n hx hb dX8_isMan_1 rfl (lv_at hl 1 rfl) ?_
  refine cR_V (Cn := RX8) (n := 1) (As := [.int p]) (rest := []) C (c_X8_hasPerson l G b0 b1 b2 b3 t nc np p hT) gX8_isMan_X8_hasPerson rfl ⟨rfl, rfl⟩ hd_X8_hasPerson ⟨(Nat.le_of_ble_eq_true rfl), (Nat.le_of_ble_eq_true rfl)⟩ hK hP (va_recv hK hP (ci := 8) (q0 := 0) rfl rfl) rfl hl.1 rfl (Nat.le_of_ble_eq_true rfl) dX8_isMan_2 ⟨(Nat.le_of_ble_eq_true rfl), (Nat.le_of_ble_eq_true rfl)⟩ ?_
  refine b_if_eq (tgt := 23) hx hb dX8_isMan_5 (by decide) (fun cq1 => ?_) (fun cq1 => ?_)
  · skip
    refine lv_iconst (v := 0) hx hb dX8_isMan_23 (by decide) ?_
    exact mR_zret C dX8_isMan_24 (by decide) ((bI_f (fun h => cq1 h.1)).symm)
  · skip
    refine lv_aload_n hx hb dX8_isMan_8 rfl (lv_at hl 0 rfl) ?_
    refine va_get (D := G.1) (ci := 8) (v := .int (t 21)) (C := RX8) (T := TX8) (N := 9) hx hb hts k1 hown hK hP 0 rfl rfl 5 (by decide) k0 (fun _ h9 => h9) rfl dX8_isMan_9 ?_
    refine lv_iload_n hx hb dX8_isMan_12 rfl (lv_at hl 1 rfl) ?_
    refine lv_ishr hx hb dX8_isMan_13 ?_
    refine lv_iconst (v := 1) hx hb dX8_isMan_14 (by decide) ?_
    refine lv_iand hx hb dX8_isMan_15 ?_
    refine lv_if_ne (tgt := 23) hx hb dX8_isMan_16 (by decide) (fun cq2 => ?_) (fun cq2 => ?_)
    · skip
      refine lv_iconst (v := 0) hx hb dX8_isMan_23 (by decide) ?_
      exact mR_zret C dX8_isMan_24 (by decide) ((bI_f (fun h => cq2 ((and1_0 _).mpr h.2))).symm)
    · skip
      refine lv_iconst (v := 1) hx hb dX8_isMan_19 (by decide) ?_
      refine lv_goto (tgt := 24) hx hb dX8_isMan_20 (by decide) ?_
      exact mR_zret C dX8_isMan_24 (by decide) ((bI_t ⟨cq1, (and1_0 _).mp cq2⟩).symm)
theorem hd_X8_grown : yX8_grown.cls = RX8 ∧ yX8_grown.cls ≠ "java/lang/invoke/MethodHandle" ∧ yX8_grown.cls ≠ "java/lang/invoke/VarHandle" ∧ (parseMethodDescriptor yX8_grown.desc).map (fun d => d.parameters.length) = some 1 := by decide +kernel
set_option maxRecDepth 100000 in
set_option maxHeartbeats 4000000 in
theorem c_X8_grown (l : Launch) (G : gG) (b0 : Nat) (b1 : Nat) (b2 : Nat) (b3 : Nat) (t : Nat → Int32) (o : Int32) : mR l yX8_grown wsX8_grown ({ frames := 1, cells := 0, slots := 0, locals := 21 }) G (kW G b0 b1 b2 b3 t) [.ref b0, .int o] (growI o (t 1)) := by
  refine mR.of (cc := cX8_grown) (maxL := 2) (ret := (some .int)) (by decide) rfl (Nat.le_of_ble_eq_true rfl) ?_
  intro zp ze zs zm zb zt zc ls C hP hK hl
  obtain ⟨hx, hb, hr, hml, hown, hts, hlk⟩ := id C
  have hl : lv_has ls 2 [(0, .ref b0), (1, .int o)] := hl
  have k0 := hts (.fieldLink RX8 25 "DebtDowry$Terms" "interest" "I") (by decide +kernel)
  have k1 := (fun w h => by revert w; decide +kernel : ∀ w ∈ wsX80, w ∈ wsX8_grown)
  have k2 := hts (.methodLink RX8 54 Lib.Math.min.name) (by decide +kernel)
  have k3 := hts (.static Lib.Math.min.name) (by decide +kernel)
  have k4 := hts (.initialized "java/lang/Math") (by decide +kernel)
  have k5 := hts (.code Lib.Math.min.name Lib.Math.min.code 2 (some .int)) (by decide +kernel)
  refine lv_sipush (v := 9999) hx hb dX8_grown_0 (by decide) ?_
  refine lv_iload_n hx hb dX8_grown_3 rfl (lv_at hl 1 rfl) ?_
  refine lv_iload_n hx hb dX8_grown_4 rfl (lv_at hl 1 rfl) ?_
  refine lv_aload_n hx hb dX8_grown_5 rfl (lv_at hl 0 rfl) ?_
  refine va_get (D := G.1) (ci := 8) (v := .int (t 1)) (C := RX8) (T := TX8) (N := 9) hx hb hts k1 hown hK hP 0 rfl rfl 1 (by decide) k0 (fun _ h9 => h9) rfl dX8_grown_6 ?_
  refine lv_imul hx hb dX8_grown_9 ?_
  refine lv_bipush (v := 100) hx hb dX8_grown_10 (by decide) ?_
  refine lv_idiv hx hb dX8_grown_12 (by decide) ?_
  refine lv_iadd hx hb dX8_grown_13 ?_
  refine va_mmin hx hb (hml.trans hl.1.symm) hown k2 k3 k4 k5 (Nat.le_of_ble_eq_true rfl) (Nat.le_of_ble_eq_true rfl) (Nat.le_of_ble_eq_true rfl) (Nat.le_of_ble_eq_true rfl) dX8_grown_14 ?_
  exact mR_iret C dX8_grown_17 (rfl)
theorem hd_X8_within : yX8_within.cls = RX8 ∧ yX8_within.cls ≠ "java/lang/invoke/MethodHandle" ∧ yX8_within.cls ≠ "java/lang/invoke/VarHandle" ∧ (parseMethodDescriptor yX8_within.desc).map (fun d => d.parameters.length) = some 2 := by decide +kernel
set_option maxRecDepth 100000 in
set_option maxHeartbeats 4000000 in
theorem c_X8_within (l : Launch) (G : gG) (b0 : Nat) (b1 : Nat) (b2 : Nat) (b3 : Nat) (t : Nat → Int32) (c : Nat) (v : Int32) (hc : c < 4) : mR l yX8_within wsX8_within ({ frames := 0, cells := 0, slots := 0, locals := 0 }) G (kW G b0 b1 b2 b3 t) [.ref b0, .int (nI c), .int v] (bI (inB v (t (9 + c)) (t (13 + c)))) := by
  refine mR.of (cc := cX8_within) (maxL := 3) (ret := (some .boolean)) (by decide) rfl (Nat.le_of_ble_eq_true rfl) ?_
  intro zp ze zs zm zb zt zc ls C hP hK hl
  obtain ⟨hx, hb, hr, hml, hown, hts, hlk⟩ := id C
  have hl : lv_has ls 3 [(0, .ref b0), (1, .int (nI c)), (2, .int v)] := hl
  have k0 := hts (.fieldLink RX8 9 "DebtDowry$Terms" "low" "[I") (by decide +kernel)
  have k1 := (fun w h => by revert w; decide +kernel : ∀ w ∈ wsX80, w ∈ wsX8_within)
  have k2 := hts (.fieldLink RX8 15 "DebtDowry$Terms" "high" "[I") (by decide +kernel)
  refine lv_iload_n hx hb dX8_within_0 rfl (lv_at hl 2 rfl) ?_
  refine lv_aload_n hx hb dX8_within_1 rfl (lv_at hl 0 rfl) ?_
  refine va_get (D := G.1) (ci := 8) (v := .ref b1) (C := RX8) (T := TX8) (N := 9) hx hb hts k1 hown hK hP 0 rfl rfl 6 (by decide) k0 (fun _ h9 => h9) rfl dX8_within_2 ?_
  refine lv_iload_n hx hb dX8_within_5 rfl (lv_at hl 1 rfl) ?_
  refine n_iald hx hb hK hP 1 0 rfl rfl (j := c) rfl (by omega) (by decide) dX8_within_6 ?_
  refine lv_icmp_lt (tgt := 24) hx hb dX8_within_7 (by decide) (fun cq1 => ?_) (fun cq1 => ?_)
  · skip
    refine lv_iconst (v := 0) hx hb dX8_within_24 (by decide) ?_
    exact mR_zret C dX8_within_25 (by decide) ((bI_f (fun h => i32_nle.mpr cq1 h.1)).symm)
  · skip
    refine lv_iload_n hx hb dX8_within_10 rfl (lv_at hl 2 rfl) ?_
    refine lv_aload_n hx hb dX8_within_11 rfl (lv_at hl 0 rfl) ?_
    refine va_get (D := G.1) (ci := 8) (v := .ref b2) (C := RX8) (T := TX8) (N := 9) hx hb hts k1 hown hK hP 0 rfl rfl 7 (by decide) k2 (fun _ h9 => h9) rfl dX8_within_12 ?_
    refine lv_iload_n hx hb dX8_within_15 rfl (lv_at hl 1 rfl) ?_
    refine n_iald hx hb hK hP 2 0 rfl rfl (j := c) rfl (by omega) (by decide) dX8_within_16 ?_
    refine lv_icmp_gt (tgt := 24) hx hb dX8_within_17 (by decide) (fun cq2 => ?_) (fun cq2 => ?_)
    · skip
      refine lv_iconst (v := 0) hx hb dX8_within_24 (by decide) ?_
      exact mR_zret C dX8_within_25 (by decide) ((bI_f (fun h => i32_nle.mpr cq2 h.2)).symm)
    · skip
      refine lv_iconst (v := 1) hx hb dX8_within_20 (by decide) ?_
      refine lv_goto (tgt := 25) hx hb dX8_within_21 (by decide) ?_
      exact mR_zret C dX8_within_25 (by decide) ((bI_t ⟨i32_nlt.mp cq1, i32_nlt.mp cq2⟩).symm)
theorem hd_X8_clear : yX8_clear.cls = RX8 ∧ yX8_clear.cls ≠ "java/lang/invoke/MethodHandle" ∧ yX8_clear.cls ≠ "java/lang/invoke/VarHandle" ∧ (parseMethodDescriptor yX8_clear.desc).map (fun d => d.parameters.length) = some 0 := by decide +kernel
set_option maxRecDepth 100000 in
set_option maxHeartbeats 4000000 in
theorem c_X8_clear (l : Launch) (G : gG) (b0 : Nat) (b1 : Nat) (b2 : Nat) (b3 : Nat) (t : Nat → Int32) : mX l yX8_clear wsX8_clear ({ frames := 0, cells := 0, slots := 0, locals := 0 }) G (kW G b0 b1 b2 b3 t) (kW G b0 b1 b2 b3 (clrT t)) [.ref b0] (.returned none) := by
  refine mX.of (cc := cX8_clear) (maxL := 1) (ret := none) (by decide) rfl (Nat.le_of_ble_eq_true rfl) ?_
  intro zp ze zs zm zb zt zc ls A hAe C hP hK hD hS hl
  obtain ⟨hx, hb, hr, hml, hown, hts, hlk⟩ := id C
  have hl : lv_has ls 1 [(0, .ref b0)] := hl
  have k0 := hts (.fieldLink RX8 21 "DebtDowry$Terms" "there" "Z") (by decide +kernel)
  have k1 := (fun w h => by revert w; decide +kernel : ∀ w ∈ wsX80, w ∈ wsX8_clear)
  have k2 := hts (.fieldLink RX8 25 "DebtDowry$Terms" "interest" "I") (by decide +kernel)
  have k3 := hts (.fieldLink RX8 29 "DebtDowry$Terms" "mildness" "I") (by decide +kernel)
  have k4 := hts (.fieldLink RX8 32 "DebtDowry$Terms" "creditors" "I") (by decide +kernel)
  have k5 := hts (.fieldLink RX8 35 "DebtDowry$Terms" "persons" "I") (by decide +kernel)
  have k6 := hts (.fieldLink RX8 38 "DebtDowry$Terms" "girls" "I") (by decide +kernel)
  refine lv_aload_n hx hb dX8_clear_0 rfl (lv_at hl 0 rfl) ?_
  refine lv_iconst (v := 0) hx hb dX8_clear_1 (by decide) ?_
  refine n_putQ (D := G.1) (wsn := kW G b0 b1 b2 b3 (upd t 0 0)) (ci := 8) (v := .int 0) (ty := .boolean) (C := RX8) (T := TX8) (N := 9) hx hb hts k1 tyX8 tyX8_ok nmX8 hown hK hP hD hS 0 rfl rfl 0 (by decide) k0 (fun _ h9 => h9) rfl (by decide +kernel) (by decide) rfl (Nat.le_of_ble_eq_true rfl) kW_p0_0 dX8_clear_2 (fun H locs hP hD hS => ?_)
  refine lv_aload_n hx hb dX8_clear_5 rfl (lv_at hl 0 rfl) ?_
  refine lv_iconst (v := 0) hx hb dX8_clear_6 (by decide) ?_
  refine n_putQ (D := G.1) (wsn := kW G b0 b1 b2 b3 (upd (upd t 0 0) 1 0)) (ci := 8) (v := .int 0) (ty := .int) (C := RX8) (T := TX8) (N := 9) hx hb hts k1 tyX8 tyX8_ok nmX8 hown hK hP hD hS 0 rfl rfl 1 (by decide) k2 (fun _ h9 => h9) rfl (by decide +kernel) rfl rfl (Nat.le_of_ble_eq_true rfl) kW_p0_1 dX8_clear_7 (fun H locs hP hD hS => ?_)
  refine lv_aload_n hx hb dX8_clear_10 rfl (lv_at hl 0 rfl) ?_
  refine lv_iconst (v := 0) hx hb dX8_clear_11 (by decide) ?_
  refine n_putQ (D := G.1) (wsn := kW G b0 b1 b2 b3 (upd (upd (upd t 0 0) 1 0) 2 0)) (ci := 8) (v := .int 0) (ty := .int) (C := RX8) (T := TX8) (N := 9) hx hb hts k1 tyX8 tyX8_ok nmX8 hown hK hP hD hS 0 rfl rfl 2 (by decide) k3 (fun _ h9 => h9) rfl (by decide +kernel) rfl rfl (Nat.le_of_ble_eq_true rfl) kW_p0_2 dX8_clear_12 (fun H locs hP hD hS => ?_)
  refine lv_aload_n hx hb dX8_clear_15 rfl (lv_at hl 0 rfl) ?_
  refine lv_iconst (v := 0) hx hb dX8_clear_16 (by decide) ?_
  refine n_putQ (D := G.1) (wsn := kW G b0 b1 b2 b3 (upd (upd (upd (upd t 0 0) 1 0) 2 0) 3 0)) (ci := 8) (v := .int 0) (ty := .int) (C := RX8) (T := TX8) (N := 9) hx hb hts k1 tyX8 tyX8_ok nmX8 hown hK hP hD hS 0 rfl rfl 3 (by decide) k4 (fun _ h9 => h9) rfl (by decide +kernel) rfl rfl (Nat.le_of_ble_eq_true rfl) kW_p0_3 dX8_clear_17 (fun H locs hP hD hS => ?_)
  refine lv_aload_n hx hb dX8_clear_20 rfl (lv_at hl 0 rfl) ?_
  refine lv_iconst (v := 0) hx hb dX8_clear_21 (by decide) ?_
  refine n_putQ (D := G.1) (wsn := kW G b0 b1 b2 b3 (upd (upd (upd (upd (upd t 0 0) 1 0) 2 0) 3 0) 4 0)) (ci := 8) (v := .int 0) (ty := .int) (C := RX8) (T := TX8) (N := 9) hx hb hts k1 tyX8 tyX8_ok nmX8 hown hK hP hD hS 0 rfl rfl 4 (by decide) k5 (fun _ h9 => h9) rfl (by decide +kernel) rfl rfl (Nat.le_of_ble_eq_true rfl) kW_p0_4 dX8_clear_22 (fun H locs hP hD hS => ?_)
  refine lv_aload_n hx hb dX8_clear_25 rfl (lv_at hl 0 rfl) ?_
  refine lv_iconst (v := 0) hx hb dX8_clear_26 (by decide) ?_
  refine n_putQ (D := G.1) (wsn := kW G b0 b1 b2 b3 (upd (upd (upd (upd (upd (upd t 0 0) 1 0) 2 0) 3 0) 4 0) 21 0)) (ci := 8) (v := .int 0) (ty := .int) (C := RX8) (T := TX8) (N := 9) hx hb hts k1 tyX8 tyX8_ok nmX8 hown hK hP hD hS 0 rfl rfl 5 (by decide) k6 (fun _ h9 => h9) rfl (by decide +kernel) rfl rfl (Nat.le_of_ble_eq_true rfl) kW_p0_5 dX8_clear_27 (fun H locs hP hD hS => ?_)
  have hP : va_P G.1 vwCl (kW G b0 b1 b2 b3 (clrT t)) H := by rw [show (clrT t) = (upd (upd (upd (upd (upd (upd t 0 0) 1 0) 2 0) 3 0) 4 0) 21 0) from rfl]; exact hP
  exact mX_vret hAe C hP hS dX8_clear_30
theorem hd_X8_take : yX8_take.cls = RX8 ∧ yX8_take.cls ≠ "java/lang/invoke/MethodHandle" ∧ yX8_take.cls ≠ "java/lang/invoke/VarHandle" ∧ (parseMethodDescriptor yX8_take.desc).map (fun d => d.parameters.length) = some 1 := by decide +kernel
set_option maxRecDepth 100000 in
set_option maxHeartbeats 4000000 in
theorem c_X8_take (l : Launch) (G : gG) (b0 : Nat) (b1 : Nat) (b2 : Nat) (b3 : Nat) (v0 : Nat) (v1 : Nat) (v2 : Nat) (v3 : Nat) (t : Nat → Int32) (u : Nat → Int32) (hb0 : u 0 = 0 ∨ u 0 = 1) : mX l yX8_take wsX8_take ({ frames := 1, cells := 0, slots := 0, locals := 21 }) G (k2W G b0 b1 b2 b3 v0 v1 v2 v3 t u) (k2W G b0 b1 b2 b3 v0 v1 v2 v3 u u) [.ref b0, .ref v0] (.returned none) := by
  refine mX.of (cc := cX8_take) (maxL := 2) (ret := none) (by decide) rfl (Nat.le_of_ble_eq_true rfl) ?_
  intro zp ze zs zm zb zt zc ls A hAe C hP hK hD hS hl
  obtain ⟨hx, hb, hr, hml, hown, hts, hlk⟩ := id C
  have hl : lv_has ls 2 [(0, .ref b0), (1, .ref v0)] := hl
  have k0 := hts (.fieldLink RX8 21 "DebtDowry$Terms" "there" "Z") (by decide +kernel)
  have k1 := (fun w h => by revert w; decide +kernel : ∀ w ∈ wsX80, w ∈ wsX8_take)
  have k2 := hts (.fieldLink RX8 25 "DebtDowry$Terms" "interest" "I") (by decide +kernel)
  have k3 := hts (.fieldLink RX8 29 "DebtDowry$Terms" "mildness" "I") (by decide +kernel)
  have k4 := hts (.fieldLink RX8 32 "DebtDowry$Terms" "creditors" "I") (by decide +kernel)
  have k5 := hts (.fieldLink RX8 35 "DebtDowry$Terms" "persons" "I") (by decide +kernel)
  have k6 := hts (.fieldLink RX8 38 "DebtDowry$Terms" "girls" "I") (by decide +kernel)
  have k7 := hts (.fieldLink RX8 9 "DebtDowry$Terms" "low" "[I") (by decide +kernel)
  have k8 := hts (.methodLink RX8 41 arraycopyName) (by decide +kernel)
  have k9 := hts (.native arraycopyName) (by decide +kernel)
  have k10 := hts (.static arraycopyName) (by decide +kernel)
  have k11 := hts (.initialized "java/lang/System") (by decide +kernel)
  have k12 := hts (.fieldLink RX8 15 "DebtDowry$Terms" "high" "[I") (by decide +kernel)
  have k13 := hts (.fieldLink RX8 18 "DebtDowry$Terms" "great" "[I") (by decide +kernel)
  refine lv_aload_n hx hb dX8_take_0 rfl (lv_at hl 0 rfl) ?_
  refine lv_aload_n hx hb dX8_take_1 rfl (lv_at hl 1 rfl) ?_
  refine va_get (D := G.1) (ci := 8) (v := .int (u 0)) (C := RX8) (T := TX8) (N := 9) hx hb hts k1 hown hK hP 4 rfl rfl 0 (by decide) k0 (fun _ h9 => h9) rfl dX8_take_2 ?_
  refine n_putQ (D := G.1) (wsn := k2W G b0 b1 b2 b3 v0 v1 v2 v3 (upd t 0 (u 0)) u) (ci := 8) (v := .int (u 0)) (ty := .boolean) (C := RX8) (T := TX8) (N := 9) hx hb hts k1 tyX8 tyX8_ok nmX8 hown hK hP hD hS 0 rfl rfl 0 (by decide) k0 (fun _ h9 => h9) rfl (by decide +kernel) (by rcases hb0 with h | h <;> rw [h] <;> decide) (by rcases hb0 with h | h <;> rw [h] <;> decide) (Nat.le_of_ble_eq_true rfl) k2W_p0_0 dX8_take_5 (fun H locs hP hD hS => ?_)
  refine lv_aload_n hx hb dX8_take_8 rfl (lv_at hl 0 rfl) ?_
  refine lv_aload_n hx hb dX8_take_9 rfl (lv_at hl 1 rfl) ?_
  refine va_get (D := G.1) (ci := 8) (v := .int (u 1)) (C := RX8) (T := TX8) (N := 9) hx hb hts k1 hown hK hP 4 rfl rfl 1 (by decide) k2 (fun _ h9 => h9) rfl dX8_take_10 ?_
  refine n_putQ (D := G.1) (wsn := k2W G b0 b1 b2 b3 v0 v1 v2 v3 (upd (upd t 0 (u 0)) 1 (u 1)) u) (ci := 8) (v := .int (u 1)) (ty := .int) (C := RX8) (T := TX8) (N := 9) hx hb hts k1 tyX8 tyX8_ok nmX8 hown hK hP hD hS 0 rfl rfl 1 (by decide) k2 (fun _ h9 => h9) rfl (by decide +kernel) rfl rfl (Nat.le_of_ble_eq_true rfl) k2W_p0_1 dX8_take_13 (fun H locs hP hD hS => ?_)
  refine lv_aload_n hx hb dX8_take_16 rfl (lv_at hl 0 rfl) ?_
  refine lv_aload_n hx hb dX8_take_17 rfl (lv_at hl 1 rfl) ?_
  refine va_get (D := G.1) (ci := 8) (v := .int (u 2)) (C := RX8) (T := TX8) (N := 9) hx hb hts k1 hown hK hP 4 rfl rfl 2 (by decide) k3 (fun _ h9 => h9) rfl dX8_take_18 ?_
  refine n_putQ (D := G.1) (wsn := k2W G b0 b1 b2 b3 v0 v1 v2 v3 (upd (upd (upd t 0 (u 0)) 1 (u 1)) 2 (u 2)) u) (ci := 8) (v := .int (u 2)) (ty := .int) (C := RX8) (T := TX8) (N := 9) hx hb hts k1 tyX8 tyX8_ok nmX8 hown hK hP hD hS 0 rfl rfl 2 (by decide) k3 (fun _ h9 => h9) rfl (by decide +kernel) rfl rfl (Nat.le_of_ble_eq_true rfl) k2W_p0_2 dX8_take_21 (fun H locs hP hD hS => ?_)
  refine lv_aload_n hx hb dX8_take_24 rfl (lv_at hl 0 rfl) ?_
  refine lv_aload_n hx hb dX8_take_25 rfl (lv_at hl 1 rfl) ?_
  refine va_get (D := G.1) (ci := 8) (v := .int (u 3)) (C := RX8) (T := TX8) (N := 9) hx hb hts k1 hown hK hP 4 rfl rfl 3 (by decide) k4 (fun _ h9 => h9) rfl dX8_take_26 ?_
  refine n_putQ (D := G.1) (wsn := k2W G b0 b1 b2 b3 v0 v1 v2 v3 (upd (upd (upd (upd t 0 (u 0)) 1 (u 1)) 2 (u 2)) 3 (u 3)) u) (ci := 8) (v := .int (u 3)) (ty := .int) (C := RX8) (T := TX8) (N := 9) hx hb hts k1 tyX8 tyX8_ok nmX8 hown hK hP hD hS 0 rfl rfl 3 (by decide) k4 (fun _ h9 => h9) rfl (by decide +kernel) rfl rfl (Nat.le_of_ble_eq_true rfl) k2W_p0_3 dX8_take_29 (fun H locs hP hD hS => ?_)
  refine lv_aload_n hx hb dX8_take_32 rfl (lv_at hl 0 rfl) ?_
  refine lv_aload_n hx hb dX8_take_33 rfl (lv_at hl 1 rfl) ?_
  refine va_get (D := G.1) (ci := 8) (v := .int (u 4)) (C := RX8) (T := TX8) (N := 9) hx hb hts k1 hown hK hP 4 rfl rfl 4 (by decide) k5 (fun _ h9 => h9) rfl dX8_take_34 ?_
  refine n_putQ (D := G.1) (wsn := k2W G b0 b1 b2 b3 v0 v1 v2 v3 (upd (upd (upd (upd (upd t 0 (u 0)) 1 (u 1)) 2 (u 2)) 3 (u 3)) 4 (u 4)) u) (ci := 8) (v := .int (u 4)) (ty := .int) (C := RX8) (T := TX8) (N := 9) hx hb hts k1 tyX8 tyX8_ok nmX8 hown hK hP hD hS 0 rfl rfl 4 (by decide) k5 (fun _ h9 => h9) rfl (by decide +kernel) rfl rfl (Nat.le_of_ble_eq_true rfl) k2W_p0_4 dX8_take_37 (fun H locs hP hD hS => ?_)
  refine lv_aload_n hx hb dX8_take_40 rfl (lv_at hl 0 rfl) ?_
  refine lv_aload_n hx hb dX8_take_41 rfl (lv_at hl 1 rfl) ?_
  refine va_get (D := G.1) (ci := 8) (v := .int (u 21)) (C := RX8) (T := TX8) (N := 9) hx hb hts k1 hown hK hP 4 rfl rfl 5 (by decide) k6 (fun _ h9 => h9) rfl dX8_take_42 ?_
  refine n_putQ (D := G.1) (wsn := k2W G b0 b1 b2 b3 v0 v1 v2 v3 (upd (upd (upd (upd (upd (upd t 0 (u 0)) 1 (u 1)) 2 (u 2)) 3 (u 3)) 4 (u 4)) 21 (u 21)) u) (ci := 8) (v := .int (u 21)) (ty := .int) (C := RX8) (T := TX8) (N := 9) hx hb hts k1 tyX8 tyX8_ok nmX8 hown hK hP hD hS 0 rfl rfl 5 (by decide) k6 (fun _ h9 => h9) rfl (by decide +kernel) rfl rfl (Nat.le_of_ble_eq_true rfl) k2W_p0_5 dX8_take_45 (fun H locs hP hD hS => ?_)
  refine lv_aload_n hx hb dX8_take_48 rfl (lv_at hl 1 rfl) ?_
  refine va_get (D := G.1) (ci := 8) (v := .ref v1) (C := RX8) (T := TX8) (N := 9) hx hb hts k1 hown hK hP 4 rfl rfl 6 (by decide) k7 (fun _ h9 => h9) rfl dX8_take_49 ?_
  refine lv_iconst (v := 0) hx hb dX8_take_52 (by decide) ?_
  refine lv_aload_n hx hb dX8_take_53 rfl (lv_at hl 0 rfl) ?_
  refine va_get (D := G.1) (ci := 8) (v := .ref b1) (C := RX8) (T := TX8) (N := 9) hx hb hts k1 hown hK hP 0 rfl rfl 6 (by decide) k7 (fun _ h9 => h9) rfl dX8_take_54 ?_
  refine lv_iconst (v := 0) hx hb dX8_take_57 (by decide) ?_
  refine lv_iconst (v := 4) hx hb dX8_take_58 (by decide) ?_
  refine n_copyQ hx hb (hml.trans hl.1.symm) hown k8 k9 k10 k11 hK hP hD hS 5 1 0 rfl rfl rfl (n := 4) rfl (by decide) (by decide) (by decide) (Nat.le_of_ble_eq_true rfl) (Nat.le_of_ble_eq_true rfl) dX8_take_59 (wsn := k2W G b0 b1 b2 b3 v0 v1 v2 v3 (rng (upd (upd (upd (upd (upd (upd t 0 (u 0)) 1 (u 1)) 2 (u 2)) 3 (u 3)) 4 (u 4)) 21 (u 21)) u 9 13) u) k2W_c1 (fun H locs hP hD hS => ?_)
  refine lv_aload_n hx hb dX8_take_62 rfl (lv_at hl 1 rfl) ?_
  refine va_get (D := G.1) (ci := 8) (v := .ref v2) (C := RX8) (T := TX8) (N := 9) hx hb hts k1 hown hK hP 4 rfl rfl 7 (by decide) k12 (fun _ h9 => h9) rfl dX8_take_63 ?_
  refine lv_iconst (v := 0) hx hb dX8_take_66 (by decide) ?_
  refine lv_aload_n hx hb dX8_take_67 rfl (lv_at hl 0 rfl) ?_
  refine va_get (D := G.1) (ci := 8) (v := .ref b2) (C := RX8) (T := TX8) (N := 9) hx hb hts k1 hown hK hP 0 rfl rfl 7 (by decide) k12 (fun _ h9 => h9) rfl dX8_take_68 ?_
  refine lv_iconst (v := 0) hx hb dX8_take_71 (by decide) ?_
  refine lv_iconst (v := 4) hx hb dX8_take_72 (by decide) ?_
  refine n_copyQ hx hb (hml.trans hl.1.symm) hown k8 k9 k10 k11 hK hP hD hS 6 2 0 rfl rfl rfl (n := 4) rfl (by decide) (by decide) (by decide) (Nat.le_of_ble_eq_true rfl) (Nat.le_of_ble_eq_true rfl) dX8_take_73 (wsn := k2W G b0 b1 b2 b3 v0 v1 v2 v3 (rng (rng (upd (upd (upd (upd (upd (upd t 0 (u 0)) 1 (u 1)) 2 (u 2)) 3 (u 3)) 4 (u 4)) 21 (u 21)) u 9 13) u 13 17) u) k2W_c2 (fun H locs hP hD hS => ?_)
  refine lv_aload_n hx hb dX8_take_76 rfl (lv_at hl 1 rfl) ?_
  refine va_get (D := G.1) (ci := 8) (v := .ref v3) (C := RX8) (T := TX8) (N := 9) hx hb hts k1 hown hK hP 4 rfl rfl 8 (by decide) k13 (fun _ h9 => h9) rfl dX8_take_77 ?_
  refine lv_iconst (v := 0) hx hb dX8_take_80 (by decide) ?_
  refine lv_aload_n hx hb dX8_take_81 rfl (lv_at hl 0 rfl) ?_
  refine va_get (D := G.1) (ci := 8) (v := .ref b3) (C := RX8) (T := TX8) (N := 9) hx hb hts k1 hown hK hP 0 rfl rfl 8 (by decide) k13 (fun _ h9 => h9) rfl dX8_take_82 ?_
  refine lv_iconst (v := 0) hx hb dX8_take_85 (by decide) ?_
  refine lv_iconst (v := 4) hx hb dX8_take_86 (by decide) ?_
  refine n_copyQ hx hb (hml.trans hl.1.symm) hown k8 k9 k10 k11 hK hP hD hS 7 3 0 rfl rfl rfl (n := 4) rfl (by decide) (by decide) (by decide) (Nat.le_of_ble_eq_true rfl) (Nat.le_of_ble_eq_true rfl) dX8_take_87 (wsn := k2W G b0 b1 b2 b3 v0 v1 v2 v3 (rng (rng (rng (upd (upd (upd (upd (upd (upd t 0 (u 0)) 1 (u 1)) 2 (u 2)) 3 (u 3)) 4 (u 4)) 21 (u 21)) u 9 13) u 13 17) u 17 21) u) k2W_c3 (fun H locs hP hD hS => ?_)
  have hP : va_P G.1 vwCl (k2W G b0 b1 b2 b3 v0 v1 v2 v3 u u) H := hP.wq (k2W_et (t := (rng (rng (rng (upd (upd (upd (upd (upd (upd t 0 (u 0)) 1 (u 1)) 2 (u 2)) 3 (u 3)) 4 (u 4)) 21 (u 21)) u 9 13) u 13 17) u 17 21)) (eqT_take t u))
  have hD : va_D A (k2W G b0 b1 b2 b3 v0 v1 v2 v3 u u) := hD.wq (k2W_et (t := (rng (rng (rng (upd (upd (upd (upd (upd (upd t 0 (u 0)) 1 (u 1)) 2 (u 2)) 3 (u 3)) 4 (u 4)) 21 (u 21)) u 9 13) u 13 17) u 17 21)) (eqT_take t u))
  exact mX_vret hAe C hP hS dX8_take_90
