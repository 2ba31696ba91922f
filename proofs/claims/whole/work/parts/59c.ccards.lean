theorem im_le {x : Int32} (h : x < 2) : x ≤ 1 := by
  rw [Int32.lt_iff_toInt_lt, show (2 : Int32).toInt = 2 from rfl] at h
  rw [Int32.le_iff_toInt_le, show (1 : Int32).toInt = 1 from rfl]; omega
theorem im_lt {x : Int32} (h : x ≤ 1) : x < 2 := by
  rw [Int32.le_iff_toInt_le, show (1 : Int32).toInt = 1 from rfl] at h
  rw [Int32.lt_iff_toInt_lt, show (2 : Int32).toInt = 2 from rfl]; omega
theorem im_01 {x : Int32} (h : inB x 0 1) : x = 0 ∨ x = 1 := by
  obtain ⟨j, h1, h2, e⟩ := inB_rng (a := 0) (b := 1) rfl rfl (by decide) (by decide) h
  rcases (show j = 0 ∨ j = 1 by omega) with r | r
  · left; rw [e, r]; rfl
  · right; rw [e, r]; rfl
theorem hd_X9_card : yX9_card.cls = RX9 ∧ yX9_card.cls ≠ "java/lang/invoke/MethodHandle" ∧ yX9_card.cls ≠ "java/lang/invoke/VarHandle" ∧ (parseMethodDescriptor yX9_card.desc).map (fun d => d.parameters.length) = some 4 := by decide +kernel
set_option maxRecDepth 100000 in
set_option maxHeartbeats 4000000 in
theorem c_X9_card (l : Launch) (G : gG) (a : Nat → Nat) (ra : Nat → Nat → Nat) (s : RSt) (em : Int32) (i : Nat → Int32) (eo : Nat → Int32) (es : Nat → Int32) (t : Nat → Int32) (n : Nat → Int32) (d : Nat → Int32) (tx : Nat → Int32) (rt : Nat → Int32) (rn : Nat → Int32) (cd : Nat → Int32) (su : Nat → Int32) (bk : Nat → Int32) (co : Nat → Int32) (mo : Nat → Int32) (m0 : Nat → Int32) (m1 : Nat → Int32) (kp : Nat → Int32) (nc : Nat) (np : Nat) (cm : Nat) (p : Int32) (c : Int32) (q : Int32) (v : Prop) [Decidable v] (hTT : okT t nc np) (hO : okS t n nc np) (hcm : i 13 = nI cm) (hcl : cm ≤ 6) : mX l yX9_card wsX9_card ({ frames := 2, cells := 0, slots := 0, locals := 43 }) G (dW G a ra s em i eo es t n d tx rt rn cd su bk co mo m0 m1 kp) (dW G a ra s em (if okCd t cm p c q then upd i 13 (nI (cm + 1)) else i) eo es t n d tx rt rn (if okCd t cm p c q then caF cd cm p c q (bI v) else cd) su bk co mo m0 m1 kp) [.ref (a 0), .int p, .int c, .int q, .int (bI (v))] (.returned (some (.int (caR t cm p c q)))) := by
  refine mX.of (cc := cX9_card) (maxL := 5) (ret := (some .int)) (by decide) rfl (Nat.le_of_ble_eq_true rfl) ?_
  intro zp ze zs zm zb zt zc ls A hAe C hP hK hD hS hl
  obtain ⟨hx, hb, hr, hml, hown, hts, hlk⟩ := id C
  have hl : lv_has ls 5 [(0, .ref (a 0)), (1, .int p), (2, .int c), (3, .int q), (4, .int (bI (v)))] := hl
  have hT := hTT.1
  have hT2 := hT.2.2
  have hG := okT_G hTT
  have hLH := okT_L hTT
  have k0 := hts (.fieldLink RX9 19 "DebtDowry" "terms" "LDebtDowry$Terms;") (by decide +kernel)
  have k1 := (fun w h => by revert w; decide +kernel : ∀ w ∈ wsX90, w ∈ wsX9_card)
  have k2 := hts (.constant RX9 81 (-1000000002)) (by decide +kernel)
  have k3 := hts (.fieldLink RX9 59 "DebtDowry" "cards" "LDebtDowry$Cards;") (by decide +kernel)
  have k4 := hts (.constant RX9 89 (-1000000004)) (by decide +kernel)
  have k5 := hts (.fieldLink RX9 109 "DebtDowry$Cards" "count" "I") (by decide +kernel)
  have k6 := (fun w h => by revert w; decide +kernel : ∀ w ∈ wsX10, w ∈ wsX9_card)
  have k7 := hts (.constant RX9 155 (-1000000001)) (by decide +kernel)
  refine lv_aload_n hx hb dX9_card_0 rfl (lv_at hl 0 rfl) ?_
  refine va_get (D := G.1) (ci := 9) (v := .ref (a 1)) (C := RX9) (T := TX9) (N := 11) hx hb hts k1 hown hK hP 0 rfl rfl 1 (by decide) k0 (fun _ h9 => h9) rfl dX9_card_1 ?_
  refine lv_iload_n hx hb dX9_card_4 rfl (lv_at hl 1 rfl) ?_
  refine lv_iload_n hx hb dX9_card_5 rfl (lv_at hl 2 rfl) ?_
  refine cR_V (Cn := RX8) (n := 2) (As := [.int p, .int c]) (rest := []) C (c_X8_hasBoth l G (a 1) (a 2) (a 3) (a 4) t nc np p c hT) gX9_card_X8_hasBoth rfl ⟨rfl, rfl⟩ hd_X8_hasBoth ⟨(Nat.le_of_ble_eq_true rfl), (Nat.le_of_ble_eq_true rfl)⟩ hK (hP.sub [1, 2, 3, 4] rfl) (va_recv hK hP (ci := 8) (q0 := 1) rfl rfl) rfl hl.1 rfl (Nat.le_of_ble_eq_true rfl) dX9_card_6 ⟨(Nat.le_of_ble_eq_true rfl), (Nat.le_of_ble_eq_true rfl)⟩ ?_
  refine b_if_ne (tgt := 15) hx hb dX9_card_9 (by decide) (fun cq1 => ?_) (fun cq1 => ?_)
  · skip
    obtain ⟨pp, hpp, rfl⟩ := inB_nat hT.2.1 (by omega) (And.left cq1)
    have hcl_pp := cl_nI (n := pp) (by omega)
    obtain ⟨cc, hcc, rfl⟩ := inB_nat hT.1 (by omega) (And.right cq1)
    have hcl_cc := cl_nI (n := cc) (by omega)
    have hPC := cq1
    refine lv_iload_n hx hb dX9_card_15 rfl (lv_at hl 3 rfl) ?_
    refine lv_if_lt (tgt := 25) hx hb dX9_card_16 (by decide) (fun cq2 => ?_) (fun cq2 => ?_)
    · skip
      have hin : ¬ inB q 0 12 := fun z => i32_nle.mpr cq2 z.1
      have hno : ¬ okCd t cm (nI pp) (nI cc) q := fun z => hin z.2.2.1
      refine lv_ldc hx hb hown k2 dX9_card_25 ?_
      have hP : va_P G.1 vwCl (dW G a ra s em (if okCd t cm (nI pp) (nI cc) q then upd i 13 (nI (cm + 1)) else i) eo es t n d tx rt rn (if okCd t cm (nI pp) (nI cc) q then caF cd cm (nI pp) (nI cc) q (bI v) else cd) su bk co mo m0 m1 kp) zs.heap := by rw [show (if okCd t cm (nI pp) (nI cc) q then upd i 13 (nI (cm + 1)) else i) = i from (if_neg hno), show (if okCd t cm (nI pp) (nI cc) q then caF cd cm (nI pp) (nI cc) q (bI v) else cd) = cd from (if_neg hno)]; exact hP
      exact mX_iret hAe C hP hS dX9_card_27 (by unfold caR; rw [if_neg (not_not_intro hPC), if_pos hin])
    · skip
      have hinl := i32_nlt.mp cq2
      refine lv_iload_n hx hb dX9_card_19 rfl (lv_at hl 3 rfl) ?_
      refine lv_bipush (v := 12) hx hb dX9_card_20 (by decide) ?_
      refine lv_icmp_le (tgt := 28) hx hb dX9_card_22 (by decide) (fun cq3 => ?_) (fun cq3 => ?_)
      · skip
        have hin : inB q 0 12 := ⟨hinl, cq3⟩
        refine lv_aload_n hx hb dX9_card_28 rfl (lv_at hl 0 rfl) ?_
        refine va_get (D := G.1) (ci := 9) (v := .ref (a 32)) (C := RX9) (T := TX9) (N := 11) hx hb hts k1 hown hK hP 0 rfl rfl 7 (by decide) k3 (fun _ h9 => h9) rfl dX9_card_29 ?_
        refine lv_iload_n hx hb dX9_card_32 rfl (lv_at hl 1 rfl) ?_
        refine lv_iload_n hx hb dX9_card_33 rfl (lv_at hl 2 rfl) ?_
        refine lv_iload_n hx hb dX9_card_34 rfl (lv_at hl 3 rfl) ?_
        refine lv_iload hx hb dX9_card_35 (lv_at hl 4 rfl) ?_
        refine cX_V (Cn := RX1) (n := 4) (As := [.int (nI pp), .int (nI cc), .int q, .int (bI v)]) (rest := []) (wsn := dW G a ra s em (upd i 13 (if cm = 6 then i 13 else nI (cm + 1))) eo es t n d tx rt rn (if cm = 6 then cd else caF cd cm (nI pp) (nI cc) q (bI v)) su bk co mo m0 m1 kp) C (c_X1_add l G (a 32) (a 33) (a 34) (a 35) (a 36) (a 37) i es cd su cm (nI pp) (nI cc) q v hcm hcl) gX9_card_X1_add rfl ⟨rfl, rfl⟩ hd_X1_add ⟨(Nat.le_of_ble_eq_true rfl), (Nat.le_of_ble_eq_true rfl)⟩ hK hP hD hS [32, 33, 34, 35, 36, 37] (by decide) rfl (aW_f.trans aW_f.symm) rfl (dW_f.trans dW_f.symm) (va_recv hK hP (ci := 1) (q0 := 32) rfl rfl) rfl hl.1 rfl (Nat.le_of_ble_eq_true rfl) dX9_card_37 ⟨(Nat.le_of_ble_eq_true rfl), (Nat.le_of_ble_eq_true rfl)⟩ (fun H locs hP hD hS => ?_)
        refine b_if_eq (tgt := 53) hx hb dX9_card_40 (by decide) (fun cq4 => ?_) (fun cq4 => ?_)
        · skip
          have h6 : cm = 6 := Decidable.of_not_not cq4
          have hno : ¬ okCd t cm (nI pp) (nI cc) q := fun z => z.2.2.2 h6
          refine lv_ldc hx hb hown k4 dX9_card_53 ?_
          have hP : va_P G.1 vwCl (dW G a ra s em (if okCd t cm (nI pp) (nI cc) q then upd i 13 (nI (cm + 1)) else i) eo es t n d tx rt rn (if okCd t cm (nI pp) (nI cc) q then caF cd cm (nI pp) (nI cc) q (bI v) else cd) su bk co mo m0 m1 kp) H := by rw [show (if okCd t cm (nI pp) (nI cc) q then upd i 13 (nI (cm + 1)) else i) = (upd i 13 (if cm = 6 then i 13 else nI (cm + 1))) from by rw [if_neg hno, if_pos h6]; first | done | exact (upd_self rfl).symm, show (if okCd t cm (nI pp) (nI cc) q then caF cd cm (nI pp) (nI cc) q (bI v) else cd) = (if cm = 6 then cd else caF cd cm (nI pp) (nI cc) q (bI v)) from by rw [if_neg hno, if_pos h6]; first | done | exact (upd_self rfl).symm]; exact hP
          exact mX_iret hAe C hP hS dX9_card_55 (by unfold caR; rw [if_neg (not_not_intro hPC), if_neg (not_not_intro hin), if_pos h6])
        · skip
          have h6 : ¬ cm = 6 := cq4
          have hok : okCd t cm (nI pp) (nI cc) q := ⟨hPC.1, hPC.2, hin, h6⟩
          refine lv_aload_n hx hb dX9_card_43 rfl (lv_at hl 0 rfl) ?_
          refine va_get (D := G.1) (ci := 9) (v := .ref (a 32)) (C := RX9) (T := TX9) (N := 11) hx hb hts k1 hown hK hP 0 rfl rfl 7 (by decide) k3 (fun _ h9 => h9) rfl dX9_card_44 ?_
          refine va_get (D := G.1) (ci := 1) (v := .int ((upd i 13 (if cm = 6 then i 13 else nI (cm + 1))) 13)) (C := RX1) (T := TX1) (N := 7) hx hb hts k6 hown hK hP 32 rfl rfl 4 (by decide) k5 (fun _ h9 => h9) rfl dX9_card_47 ?_
          refine lv_goto (tgt := 55) hx hb dX9_card_50 (by decide) ?_
          have hP : va_P G.1 vwCl (dW G a ra s em (if okCd t cm (nI pp) (nI cc) q then upd i 13 (nI (cm + 1)) else i) eo es t n d tx rt rn (if okCd t cm (nI pp) (nI cc) q then caF cd cm (nI pp) (nI cc) q (bI v) else cd) su bk co mo m0 m1 kp) H := by rw [show (if okCd t cm (nI pp) (nI cc) q then upd i 13 (nI (cm + 1)) else i) = (upd i 13 (if cm = 6 then i 13 else nI (cm + 1))) from by rw [if_pos hok, if_neg h6], show (if okCd t cm (nI pp) (nI cc) q then caF cd cm (nI pp) (nI cc) q (bI v) else cd) = (if cm = 6 then cd else caF cd cm (nI pp) (nI cc) q (bI v)) from by rw [if_pos hok, if_neg h6]]; exact hP
          exact mX_iret hAe C hP hS dX9_card_55 (by unfold caR; rw [if_neg (not_not_intro hPC), if_neg (not_not_intro hin), if_neg h6, if_neg h6]; rfl)
      · skip
        have hin : ¬ inB q 0 12 := fun z => cq3 z.2
        have hno : ¬ okCd t cm (nI pp) (nI cc) q := fun z => hin z.2.2.1
        refine lv_ldc hx hb hown k2 dX9_card_25 ?_
        have hP : va_P G.1 vwCl (dW G a ra s em (if okCd t cm (nI pp) (nI cc) q then upd i 13 (nI (cm + 1)) else i) eo es t n d tx rt rn (if okCd t cm (nI pp) (nI cc) q then caF cd cm (nI pp) (nI cc) q (bI v) else cd) su bk co mo m0 m1 kp) zs.heap := by rw [show (if okCd t cm (nI pp) (nI cc) q then upd i 13 (nI (cm + 1)) else i) = i from (if_neg hno), show (if okCd t cm (nI pp) (nI cc) q then caF cd cm (nI pp) (nI cc) q (bI v) else cd) = cd from (if_neg hno)]; exact hP
        exact mX_iret hAe C hP hS dX9_card_27 (by unfold caR; rw [if_neg (not_not_intro hPC), if_pos hin])
  · skip
    have hno : ¬ okCd t cm p c q := fun z => cq1 ⟨z.1, z.2.1⟩
    refine lv_ldc hx hb hown k7 dX9_card_12 ?_
    have hP : va_P G.1 vwCl (dW G a ra s em (if okCd t cm p c q then upd i 13 (nI (cm + 1)) else i) eo es t n d tx rt rn (if okCd t cm p c q then caF cd cm p c q (bI v) else cd) su bk co mo m0 m1 kp) zs.heap := by rw [show (if okCd t cm p c q then upd i 13 (nI (cm + 1)) else i) = i from (if_neg hno), show (if okCd t cm p c q then caF cd cm p c q (bI v) else cd) = cd from (if_neg hno)]; exact hP
    exact mX_iret hAe C hP hS dX9_card_14 (by unfold caR; rw [if_pos cq1])
theorem hd_X9_had : yX9_had.cls = RX9 ∧ yX9_had.cls ≠ "java/lang/invoke/MethodHandle" ∧ yX9_had.cls ≠ "java/lang/invoke/VarHandle" ∧ (parseMethodDescriptor yX9_had.desc).map (fun d => d.parameters.length) = some 3 := by decide +kernel
set_option maxRecDepth 100000 in
set_option maxHeartbeats 4000000 in
theorem c_X9_had (l : Launch) (G : gG) (a : Nat → Nat) (ra : Nat → Nat → Nat) (s : RSt) (em : Int32) (i : Nat → Int32) (eo : Nat → Int32) (es : Nat → Int32) (t : Nat → Int32) (n : Nat → Int32) (d : Nat → Int32) (tx : Nat → Int32) (rt : Nat → Int32) (rn : Nat → Int32) (cd : Nat → Int32) (su : Nat → Int32) (bk : Nat → Int32) (co : Nat → Int32) (mo : Nat → Int32) (m0 : Nat → Int32) (m1 : Nat → Int32) (kp : Nat → Int32) (nc : Nat) (np : Nat) (cm : Nat) (p : Int32) (c : Int32) (w : Int32) (hTT : okT t nc np) (hO : okS t n nc np) (hcm : i 13 = nI cm) (hcl : cm ≤ 6) (hQ : ∀ k, k < cm → ∃ q, q ≤ 12 ∧ cd (4 * k + 2) = nI q) (hB3 : ∀ k, k < cm → cd (4 * k + 3) = 0 ∨ cd (4 * k + 3) = 1) : mE l yX9_had wsX9_had ({ frames := 5, cells := 0, slots := 0, locals := 116 }) G (dW G a ra s em i eo es t n d tx rt rn cd su bk co mo m0 m1 kp) (fun u : (Nat → Int32) × (Nat → Int32) => dW G a ra s em i eo u.1 t n d tx rt rn cd u.2 bk co mo m0 m1 kp) [.ref (a 0), .int p, .int c, .int w] (.returned (some (.int (haR t cd cm p c w)))) := by
  refine mE.of (cc := cX9_had) (maxL := 4) (ret := (some .int)) (by decide) rfl (Nat.le_of_ble_eq_true rfl) ?_
  intro zp ze zs zm zb zt zc ls A hAe C hP hK hD hS hl
  obtain ⟨hx, hb, hr, hml, hown, hts, hlk⟩ := id C
  have hl : lv_has ls 4 [(0, .ref (a 0)), (1, .int p), (2, .int c), (3, .int w)] := hl
  have hT := hTT.1
  have hT2 := hT.2.2
  have hG := okT_G hTT
  have hLH := okT_L hTT
  have k0 := hts (.fieldLink RX9 19 "DebtDowry" "terms" "LDebtDowry$Terms;") (by decide +kernel)
  have k1 := (fun w h => by revert w; decide +kernel : ∀ w ∈ wsX90, w ∈ wsX9_had)
  have k2 := hts (.constant RX9 81 (-1000000002)) (by decide +kernel)
  have k3 := hts (.fieldLink RX9 59 "DebtDowry" "cards" "LDebtDowry$Cards;") (by decide +kernel)
  have k4 := hts (.fieldLink RX9 300 "DebtDowry$Cards" "fitting" "I") (by decide +kernel)
  have k5 := (fun w h => by revert w; decide +kernel : ∀ w ∈ wsX10, w ∈ wsX9_had)
  have k6 := hts (.constant RX9 155 (-1000000001)) (by decide +kernel)
  refine lv_aload_n hx hb dX9_had_0 rfl (lv_at hl 0 rfl) ?_
  refine va_get (D := G.1) (ci := 9) (v := .ref (a 1)) (C := RX9) (T := TX9) (N := 11) hx hb hts k1 hown hK hP 0 rfl rfl 1 (by decide) k0 (fun _ h9 => h9) rfl dX9_had_1 ?_
  refine lv_iload_n hx hb dX9_had_4 rfl (lv_at hl 1 rfl) ?_
  refine lv_iload_n hx hb dX9_had_5 rfl (lv_at hl 2 rfl) ?_
  refine cR_V (Cn := RX8) (n := 2) (As := [.int p, .int c]) (rest := []) C (c_X8_hasBoth l G (a 1) (a 2) (a 3) (a 4) t nc np p c hT) gX9_had_X8_hasBoth rfl ⟨rfl, rfl⟩ hd_X8_hasBoth ⟨(Nat.le_of_ble_eq_true rfl), (Nat.le_of_ble_eq_true rfl)⟩ hK (hP.sub [1, 2, 3, 4] rfl) (va_recv hK hP (ci := 8) (q0 := 1) rfl rfl) rfl hl.1 rfl (Nat.le_of_ble_eq_true rfl) dX9_had_6 ⟨(Nat.le_of_ble_eq_true rfl), (Nat.le_of_ble_eq_true rfl)⟩ ?_
  refine b_if_ne (tgt := 15) hx hb dX9_had_9 (by decide) (fun cq1 => ?_) (fun cq1 => ?_)
  · skip
    obtain ⟨pp, hpp, rfl⟩ := inB_nat hT.2.1 (by omega) (And.left cq1)
    have hcl_pp := cl_nI (n := pp) (by omega)
    obtain ⟨cc, hcc, rfl⟩ := inB_nat hT.1 (by omega) (And.right cq1)
    have hcl_cc := cl_nI (n := cc) (by omega)
    have hPC := cq1
    refine lv_iload_n hx hb dX9_had_15 rfl (lv_at hl 3 rfl) ?_
    refine lv_if_lt (tgt := 24) hx hb dX9_had_16 (by decide) (fun cq2 => ?_) (fun cq2 => ?_)
    · skip
      have hin : ¬ inB w 0 2 := fun z => i32_nle.mpr cq2 z.1
      refine lv_ldc hx hb hown k2 dX9_had_24 ?_
      exact mE_iret hAe C (u := (es, su)) hP hS dX9_had_26 (by unfold haR; rw [if_neg (not_not_intro hPC), if_pos hin])
    · skip
      have hinl := i32_nlt.mp cq2
      refine lv_iload_n hx hb dX9_had_19 rfl (lv_at hl 3 rfl) ?_
      refine lv_iconst (v := 2) hx hb dX9_had_20 (by decide) ?_
      refine lv_icmp_le (tgt := 27) hx hb dX9_had_21 (by decide) (fun cq3 => ?_) (fun cq3 => ?_)
      · skip
        have hin : inB w 0 2 := ⟨hinl, cq3⟩
        refine lv_aload_n hx hb dX9_had_27 rfl (lv_at hl 0 rfl) ?_
        refine va_get (D := G.1) (ci := 9) (v := .ref (a 32)) (C := RX9) (T := TX9) (N := 11) hx hb hts k1 hown hK hP 0 rfl rfl 7 (by decide) k3 (fun _ h9 => h9) rfl dX9_had_28 ?_
        refine lv_aload_n hx hb dX9_had_31 rfl (lv_at hl 0 rfl) ?_
        refine va_get (D := G.1) (ci := 9) (v := .ref (a 1)) (C := RX9) (T := TX9) (N := 11) hx hb hts k1 hown hK hP 0 rfl rfl 1 (by decide) k0 (fun _ h9 => h9) rfl dX9_had_32 ?_
        refine lv_iload_n hx hb dX9_had_35 rfl (lv_at hl 1 rfl) ?_
        refine lv_iload_n hx hb dX9_had_36 rfl (lv_at hl 2 rfl) ?_
        refine cX_V (Cn := RX1) (n := 3) (As := [.ref (a 1), .int (nI pp), .int (nI cc)]) (rest := []) (wsn := dW G a ra s em i eo (upd es 6 (nI (siN (fitP t cd cm pp cc) 100))) t n d tx rt rn cd (siS (fitP t cd cm pp cc) su 100) bk co mo m0 m1 kp) C (c_X1_sift l G (a 32) (a 33) (a 34) (a 35) (a 36) (a 37) (a 1) (a 2) (a 3) (a 4) i es cd su t cm pp cc hcm hcl hQ hB3 (by omega)) gX9_had_X1_sift rfl ⟨rfl, rfl⟩ hd_X1_sift ⟨(Nat.le_of_ble_eq_true rfl), (Nat.le_of_ble_eq_true rfl)⟩ hK hP hD hS [32, 33, 34, 35, 36, 37, 1, 2, 3, 4] (by decide) rfl (atW_f.trans atW_f.symm) rfl (dW_f.trans dW_f.symm) (va_recv hK hP (ci := 1) (q0 := 32) rfl rfl) rfl hl.1 rfl (Nat.le_of_ble_eq_true rfl) dX9_had_37 ⟨(Nat.le_of_ble_eq_true rfl), (Nat.le_of_ble_eq_true rfl)⟩ (fun H locs hP hD hS => ?_)
        refine lv_iload_n hx hb dX9_had_40 rfl (lv_at hl 3 rfl) ?_
        refine lv_if_ne (tgt := 54) hx hb dX9_had_41 (by decide) (fun cq4 => ?_) (fun cq4 => ?_)
        · skip
          have h0 := cq4
          refine lv_iload_n hx hb dX9_had_54 rfl (lv_at hl 3 rfl) ?_
          refine lv_iconst (v := 1) hx hb dX9_had_55 (by decide) ?_
          refine lv_icmp_ne (tgt := 69) hx hb dX9_had_56 (by decide) (fun cq5 => ?_) (fun cq5 => ?_)
          · skip
            have h1 := cq5
            refine lv_aload_n hx hb dX9_had_69 rfl (lv_at hl 0 rfl) ?_
            refine va_get (D := G.1) (ci := 9) (v := .ref (a 32)) (C := RX9) (T := TX9) (N := 11) hx hb hts k1 hown hK hP 0 rfl rfl 7 (by decide) k3 (fun _ h9 => h9) rfl dX9_had_70 ?_
            refine cR_V (Cn := RX1) (n := 0) (As := []) (rest := []) C (c_X1_mostSum l G (a 32) (a 33) (a 34) (a 35) (a 36) (a 37) i (upd es 6 (nI (siN (fitP t cd cm pp cc) 100))) cd (siS (fitP t cd cm pp cc) su 100) (siN (fitP t cd cm pp cc) 100)  (upd_at _ _ _) (siN_le _ _)) gX9_had_X1_mostSum rfl ⟨rfl, rfl⟩ hd_X1_mostSum ⟨(Nat.le_of_ble_eq_true rfl), (Nat.le_of_ble_eq_true rfl)⟩ hK (hP.sub [32, 33, 34, 35, 36, 37] rfl) (va_recv hK hP (ci := 1) (q0 := 32) rfl rfl) rfl hl.1 rfl (Nat.le_of_ble_eq_true rfl) dX9_had_73 ⟨(Nat.le_of_ble_eq_true rfl), (Nat.le_of_ble_eq_true rfl)⟩ ?_
            exact mE_iret hAe C (u := (upd es 6 (nI (siN (fitP t cd cm pp cc) 100)), siS (fitP t cd cm pp cc) su 100)) hP hS dX9_had_76 (by unfold haR; rw [if_neg (not_not_intro hPC), if_neg (not_not_intro hin), hcl_pp, hcl_cc, if_neg h0, if_neg h1]; exact siS_lst 100)
          · skip
            have h1 := cq5
            refine lv_aload_n hx hb dX9_had_59 rfl (lv_at hl 0 rfl) ?_
            refine va_get (D := G.1) (ci := 9) (v := .ref (a 32)) (C := RX9) (T := TX9) (N := 11) hx hb hts k1 hown hK hP 0 rfl rfl 7 (by decide) k3 (fun _ h9 => h9) rfl dX9_had_60 ?_
            refine cR_V (Cn := RX1) (n := 0) (As := []) (rest := []) C (c_X1_leastSum l G (a 32) (a 33) (a 34) (a 35) (a 36) (a 37) i (upd es 6 (nI (siN (fitP t cd cm pp cc) 100))) cd (siS (fitP t cd cm pp cc) su 100) (siN (fitP t cd cm pp cc) 100)  (upd_at _ _ _) (siN_le _ _)) gX9_had_X1_leastSum rfl ⟨rfl, rfl⟩ hd_X1_leastSum ⟨(Nat.le_of_ble_eq_true rfl), (Nat.le_of_ble_eq_true rfl)⟩ hK (hP.sub [32, 33, 34, 35, 36, 37] rfl) (va_recv hK hP (ci := 1) (q0 := 32) rfl rfl) rfl hl.1 rfl (Nat.le_of_ble_eq_true rfl) dX9_had_63 ⟨(Nat.le_of_ble_eq_true rfl), (Nat.le_of_ble_eq_true rfl)⟩ ?_
            refine lv_goto (tgt := 76) hx hb dX9_had_66 (by decide) ?_
            exact mE_iret hAe C (u := (upd es 6 (nI (siN (fitP t cd cm pp cc) 100)), siS (fitP t cd cm pp cc) su 100)) hP hS dX9_had_76 (by unfold haR; rw [if_neg (not_not_intro hPC), if_neg (not_not_intro hin), hcl_pp, hcl_cc, if_neg h0, if_pos h1]; exact siS_fst 100 (by decide))
        · skip
          have h0 := cq4
          refine lv_aload_n hx hb dX9_had_44 rfl (lv_at hl 0 rfl) ?_
          refine va_get (D := G.1) (ci := 9) (v := .ref (a 32)) (C := RX9) (T := TX9) (N := 11) hx hb hts k1 hown hK hP 0 rfl rfl 7 (by decide) k3 (fun _ h9 => h9) rfl dX9_had_45 ?_
          refine va_get (D := G.1) (ci := 1) (v := .int ((upd es 6 (nI (siN (fitP t cd cm pp cc) 100))) 6)) (C := RX1) (T := TX1) (N := 7) hx hb hts k5 hown hK hP 32 rfl rfl 6 (by decide) k4 (fun _ h9 => h9) rfl dX9_had_48 ?_
          refine lv_goto (tgt := 76) hx hb dX9_had_51 (by decide) ?_
          exact mE_iret hAe C (u := (upd es 6 (nI (siN (fitP t cd cm pp cc) 100)), siS (fitP t cd cm pp cc) su 100)) hP hS dX9_had_76 (by unfold haR; rw [if_neg (not_not_intro hPC), if_neg (not_not_intro hin), hcl_pp, hcl_cc, if_pos h0, cntU_si]; rfl)
      · skip
        have hin : ¬ inB w 0 2 := fun z => cq3 z.2
        refine lv_ldc hx hb hown k2 dX9_had_24 ?_
        exact mE_iret hAe C (u := (es, su)) hP hS dX9_had_26 (by unfold haR; rw [if_neg (not_not_intro hPC), if_pos hin])
  · skip
    refine lv_ldc hx hb hown k6 dX9_had_12 ?_
    exact mE_iret hAe C (u := (es, su)) hP hS dX9_had_14 (by unfold haR; rw [if_pos cq1])
theorem hd_X9_lookAt : yX9_lookAt.cls = RX9 ∧ yX9_lookAt.cls ≠ "java/lang/invoke/MethodHandle" ∧ yX9_lookAt.cls ≠ "java/lang/invoke/VarHandle" ∧ (parseMethodDescriptor yX9_lookAt.desc).map (fun d => d.parameters.length) = some 2 := by decide +kernel
set_option maxRecDepth 100000 in
set_option maxHeartbeats 4000000 in
theorem c_X9_lookAt (l : Launch) (G : gG) (a : Nat → Nat) (ra : Nat → Nat → Nat) (s : RSt) (em : Int32) (i : Nat → Int32) (eo : Nat → Int32) (es : Nat → Int32) (t : Nat → Int32) (n : Nat → Int32) (d : Nat → Int32) (tx : Nat → Int32) (rt : Nat → Int32) (rn : Nat → Int32) (cd : Nat → Int32) (su : Nat → Int32) (bk : Nat → Int32) (co : Nat → Int32) (mo : Nat → Int32) (m0 : Nat → Int32) (m1 : Nat → Int32) (kp : Nat → Int32) (nc : Nat) (np : Nat) (cm : Nat) (p : Int32) (c : Int32) (hTT : okT t nc np) (hO : okS t n nc np) (hcm : i 13 = nI cm) (hcl : cm ≤ 6) (hQ : ∀ k, k < cm → ∃ q, q ≤ 12 ∧ cd (4 * k + 2) = nI q) (hB3 : ∀ k, k < cm → cd (4 * k + 3) = 0 ∨ cd (4 * k + 3) = 1) : mE l yX9_lookAt wsX9_lookAt ({ frames := 5, cells := 0, slots := 0, locals := 116 }) G (dW G a ra s em i eo es t n d tx rt rn cd su bk co mo m0 m1 kp) (fun u : (Nat → Int32) × (Nat → Int32) => dW G a ra s em i eo u.1 t n d tx rt rn cd u.2 bk co mo m0 m1 kp) [.ref (a 0), .int p, .int c] (.returned (some (.int (loR t cd cm p c)))) := by
  refine mE.of (cc := cX9_lookAt) (maxL := 3) (ret := (some .int)) (by decide) rfl (Nat.le_of_ble_eq_true rfl) ?_
  intro zp ze zs zm zb zt zc ls A hAe C hP hK hD hS hl
  obtain ⟨hx, hb, hr, hml, hown, hts, hlk⟩ := id C
  have hl : lv_has ls 3 [(0, .ref (a 0)), (1, .int p), (2, .int c)] := hl
  have hT := hTT.1
  have hT2 := hT.2.2
  have hG := okT_G hTT
  have hLH := okT_L hTT
  have k0 := hts (.fieldLink RX9 19 "DebtDowry" "terms" "LDebtDowry$Terms;") (by decide +kernel)
  have k1 := (fun w h => by revert w; decide +kernel : ∀ w ∈ wsX90, w ∈ wsX9_lookAt)
  have k2 := hts (.fieldLink RX9 59 "DebtDowry" "cards" "LDebtDowry$Cards;") (by decide +kernel)
  have k3 := hts (.constant RX9 155 (-1000000001)) (by decide +kernel)
  refine lv_aload_n hx hb dX9_lookAt_0 rfl (lv_at hl 0 rfl) ?_
  refine va_get (D := G.1) (ci := 9) (v := .ref (a 1)) (C := RX9) (T := TX9) (N := 11) hx hb hts k1 hown hK hP 0 rfl rfl 1 (by decide) k0 (fun _ h9 => h9) rfl dX9_lookAt_1 ?_
  refine lv_iload_n hx hb dX9_lookAt_4 rfl (lv_at hl 1 rfl) ?_
  refine lv_iload_n hx hb dX9_lookAt_5 rfl (lv_at hl 2 rfl) ?_
  refine cR_V (Cn := RX8) (n := 2) (As := [.int p, .int c]) (rest := []) C (c_X8_hasBoth l G (a 1) (a 2) (a 3) (a 4) t nc np p c hT) gX9_lookAt_X8_hasBoth rfl ⟨rfl, rfl⟩ hd_X8_hasBoth ⟨(Nat.le_of_ble_eq_true rfl), (Nat.le_of_ble_eq_true rfl)⟩ hK (hP.sub [1, 2, 3, 4] rfl) (va_recv hK hP (ci := 8) (q0 := 1) rfl rfl) rfl hl.1 rfl (Nat.le_of_ble_eq_true rfl) dX9_lookAt_6 ⟨(Nat.le_of_ble_eq_true rfl), (Nat.le_of_ble_eq_true rfl)⟩ ?_
  refine b_if_ne (tgt := 15) hx hb dX9_lookAt_9 (by decide) (fun cq1 => ?_) (fun cq1 => ?_)
  · skip
    obtain ⟨pp, hpp, rfl⟩ := inB_nat hT.2.1 (by omega) (And.left cq1)
    have hcl_pp := cl_nI (n := pp) (by omega)
    obtain ⟨cc, hcc, rfl⟩ := inB_nat hT.1 (by omega) (And.right cq1)
    have hcl_cc := cl_nI (n := cc) (by omega)
    have hPC := cq1
    refine lv_aload_n hx hb dX9_lookAt_15 rfl (lv_at hl 0 rfl) ?_
    refine va_get (D := G.1) (ci := 9) (v := .ref (a 32)) (C := RX9) (T := TX9) (N := 11) hx hb hts k1 hown hK hP 0 rfl rfl 7 (by decide) k2 (fun _ h9 => h9) rfl dX9_lookAt_16 ?_
    refine lv_aload_n hx hb dX9_lookAt_19 rfl (lv_at hl 0 rfl) ?_
    refine va_get (D := G.1) (ci := 9) (v := .ref (a 1)) (C := RX9) (T := TX9) (N := 11) hx hb hts k1 hown hK hP 0 rfl rfl 1 (by decide) k0 (fun _ h9 => h9) rfl dX9_lookAt_20 ?_
    refine lv_iload_n hx hb dX9_lookAt_23 rfl (lv_at hl 1 rfl) ?_
    refine lv_iload_n hx hb dX9_lookAt_24 rfl (lv_at hl 2 rfl) ?_
    refine cX_V (Cn := RX1) (n := 3) (As := [.ref (a 1), .int (nI pp), .int (nI cc)]) (rest := []) (wsn := dW G a ra s em i eo (upd es 6 (nI (siN (fitP t cd cm pp cc) 100))) t n d tx rt rn cd (siS (fitP t cd cm pp cc) su 100) bk co mo m0 m1 kp) C (c_X1_sift l G (a 32) (a 33) (a 34) (a 35) (a 36) (a 37) (a 1) (a 2) (a 3) (a 4) i es cd su t cm pp cc hcm hcl hQ hB3 (by omega)) gX9_lookAt_X1_sift rfl ⟨rfl, rfl⟩ hd_X1_sift ⟨(Nat.le_of_ble_eq_true rfl), (Nat.le_of_ble_eq_true rfl)⟩ hK hP hD hS [32, 33, 34, 35, 36, 37, 1, 2, 3, 4] (by decide) rfl (atW_f.trans atW_f.symm) rfl (dW_f.trans dW_f.symm) (va_recv hK hP (ci := 1) (q0 := 32) rfl rfl) rfl hl.1 rfl (Nat.le_of_ble_eq_true rfl) dX9_lookAt_25 ⟨(Nat.le_of_ble_eq_true rfl), (Nat.le_of_ble_eq_true rfl)⟩ (fun H locs hP hD hS => ?_)
    refine lv_aload_n hx hb dX9_lookAt_28 rfl (lv_at hl 0 rfl) ?_
    refine va_get (D := G.1) (ci := 9) (v := .ref (a 32)) (C := RX9) (T := TX9) (N := 11) hx hb hts k1 hown hK hP 0 rfl rfl 7 (by decide) k2 (fun _ h9 => h9) rfl dX9_lookAt_29 ?_
    refine lv_aload_n hx hb dX9_lookAt_32 rfl (lv_at hl 0 rfl) ?_
    refine va_get (D := G.1) (ci := 9) (v := .ref (a 1)) (C := RX9) (T := TX9) (N := 11) hx hb hts k1 hown hK hP 0 rfl rfl 1 (by decide) k0 (fun _ h9 => h9) rfl dX9_lookAt_33 ?_
    refine lv_iload_n hx hb dX9_lookAt_36 rfl (lv_at hl 2 rfl) ?_
    refine cX_V (Cn := RX1) (n := 2) (As := [.ref (a 1), .int (nI cc)]) (rest := []) (wsn := dW G a ra s em i eo (upd es 6 (nI (siN (fitP t cd cm pp cc) 100))) t n d tx rt rn cd (grM t (siS (fitP t cd cm pp cc) su 100) (siN (fitP t cd cm pp cc) 100) 13) bk co mo m0 m1 kp) C (c_X1_bestLook l G (a 32) (a 33) (a 34) (a 35) (a 36) (a 37) (a 1) (a 2) (a 3) (a 4) i (upd es 6 (nI (siN (fitP t cd cm pp cc) 100))) cd (siS (fitP t cd cm pp cc) su 100) t (siN (fitP t cd cm pp cc) 100) cc (upd_at _ _ _) (siN_le _ _) (by omega)) gX9_lookAt_X1_bestLook rfl ⟨rfl, rfl⟩ hd_X1_bestLook ⟨(Nat.le_of_ble_eq_true rfl), (Nat.le_of_ble_eq_true rfl)⟩ hK hP hD hS [32, 33, 34, 35, 36, 37, 1, 2, 3, 4] (by decide) rfl (atW_f.trans atW_f.symm) rfl (dW_f.trans dW_f.symm) (va_recv hK hP (ci := 1) (q0 := 32) rfl rfl) rfl hl.1 rfl (Nat.le_of_ble_eq_true rfl) dX9_lookAt_37 ⟨(Nat.le_of_ble_eq_true rfl), (Nat.le_of_ble_eq_true rfl)⟩ (fun H locs hP hD hS => ?_)
    exact mE_iret hAe C (u := (upd es 6 (nI (siN (fitP t cd cm pp cc) 100)), grM t (siS (fitP t cd cm pp cc) su 100) (siN (fitP t cd cm pp cc) 100) 13)) hP hS dX9_lookAt_40 (by unfold loR; rw [if_neg (not_not_intro hPC), hcl_pp, hcl_cc, upd_at]; exact bkW_eq 13)
  · skip
    refine lv_ldc hx hb hown k3 dX9_lookAt_12 ?_
    exact mE_iret hAe C (u := (es, su)) hP hS dX9_lookAt_14 (by unfold loR; rw [if_pos cq1])
theorem hd_X9_write : yX9_write.cls = RX9 ∧ yX9_write.cls ≠ "java/lang/invoke/MethodHandle" ∧ yX9_write.cls ≠ "java/lang/invoke/VarHandle" ∧ (parseMethodDescriptor yX9_write.desc).map (fun d => d.parameters.length) = some 2 := by decide +kernel
set_option maxRecDepth 100000 in
set_option maxHeartbeats 4000000 in
theorem c_X9_write (l : Launch) (G : gG) (a : Nat → Nat) (ra : Nat → Nat → Nat) (s : RSt) (em : Int32) (i : Nat → Int32) (eo : Nat → Int32) (es : Nat → Int32) (t : Nat → Int32) (n : Nat → Int32) (d : Nat → Int32) (tx : Nat → Int32) (rt : Nat → Int32) (rn : Nat → Int32) (cd : Nat → Int32) (su : Nat → Int32) (bk : Nat → Int32) (co : Nat → Int32) (mo : Nat → Int32) (m0 : Nat → Int32) (m1 : Nat → Int32) (kp : Nat → Int32) (nc : Nat) (np : Nat) (bm : Nat) (p : Int32) (sv : Int32) (hTT : okT t nc np) (hO : okS t n nc np) (hbm : i 15 = nI bm) (hbl : bm ≤ 20) : mX l yX9_write wsX9_write ({ frames := 1, cells := 0, slots := 0, locals := 22 }) G (dW G a ra s em i eo es t n d tx rt rn cd su bk co mo m0 m1 kp) (dW G a ra s em (if okWr t bm p sv then upd i 15 (nI (bm + 1)) else i) eo es t n d tx rt rn cd su (if okWr t bm p sv then upd (upd bk (2 * bm) p) (2 * bm + 1) sv else bk) co mo m0 m1 kp) [.ref (a 0), .int p, .int sv] (.returned (some (.int (wrR t bm p sv)))) := by
  refine mX.of (cc := cX9_write) (maxL := 3) (ret := (some .int)) (by decide) rfl (Nat.le_of_ble_eq_true rfl) ?_
  intro zp ze zs zm zb zt zc ls A hAe C hP hK hD hS hl
  obtain ⟨hx, hb, hr, hml, hown, hts, hlk⟩ := id C
  have hl : lv_has ls 3 [(0, .ref (a 0)), (1, .int p), (2, .int sv)] := hl
  have hT := hTT.1
  have hT2 := hT.2.2
  have hG := okT_G hTT
  have hLH := okT_L hTT
  have k0 := hts (.fieldLink RX9 19 "DebtDowry" "terms" "LDebtDowry$Terms;") (by decide +kernel)
  have k1 := (fun w h => by revert w; decide +kernel : ∀ w ∈ wsX90, w ∈ wsX9_write)
  have k2 := hts (.constant RX9 81 (-1000000002)) (by decide +kernel)
  have k3 := hts (.fieldLink RX9 66 "DebtDowry" "book" "LDebtDowry$Book;") (by decide +kernel)
  have k4 := hts (.constant RX9 89 (-1000000004)) (by decide +kernel)
  have k5 := hts (.fieldLink RX9 112 "DebtDowry$Book" "count" "I") (by decide +kernel)
  have k6 := (fun w h => by revert w; decide +kernel : ∀ w ∈ wsX00, w ∈ wsX9_write)
  have k7 := hts (.constant RX9 155 (-1000000001)) (by decide +kernel)
  refine lv_aload_n hx hb dX9_write_0 rfl (lv_at hl 0 rfl) ?_
  refine va_get (D := G.1) (ci := 9) (v := .ref (a 1)) (C := RX9) (T := TX9) (N := 11) hx hb hts k1 hown hK hP 0 rfl rfl 1 (by decide) k0 (fun _ h9 => h9) rfl dX9_write_1 ?_
  refine lv_iload_n hx hb dX9_write_4 rfl (lv_at hl 1 rfl) ?_
  refine cR_V (Cn := RX8) (n := 1) (As := [.int p]) (rest := []) C (c_X8_hasPerson l G (a 1) (a 2) (a 3) (a 4) t nc np p hT) gX9_write_X8_hasPerson rfl ⟨rfl, rfl⟩ hd_X8_hasPerson ⟨(Nat.le_of_ble_eq_true rfl), (Nat.le_of_ble_eq_true rfl)⟩ hK (hP.sub [1, 2, 3, 4] rfl) (va_recv hK hP (ci := 8) (q0 := 1) rfl rfl) rfl hl.1 rfl (Nat.le_of_ble_eq_true rfl) dX9_write_5 ⟨(Nat.le_of_ble_eq_true rfl), (Nat.le_of_ble_eq_true rfl)⟩ ?_
  refine b_if_ne (tgt := 14) hx hb dX9_write_8 (by decide) (fun cq1 => ?_) (fun cq1 => ?_)
  · skip
    have hPq := cq1
    obtain ⟨pp, hpp, rfl⟩ := inB_nat hT.2.1 (by omega) (cq1)
    have hcl_pp := cl_nI (n := pp) (by omega)
    refine lv_iload_n hx hb dX9_write_14 rfl (lv_at hl 2 rfl) ?_
    refine lv_bipush (v := (-9)) hx hb dX9_write_15 (by decide) ?_
    refine lv_icmp_lt (tgt := 26) hx hb dX9_write_17 (by decide) (fun cq2 => ?_) (fun cq2 => ?_)
    · skip
      have hin : ¬ inB sv (-9) 99 := fun z => i32_nle.mpr cq2 z.1
      have hno : ¬ okWr t bm (nI pp) sv := fun z => hin z.2.1
      refine lv_ldc hx hb hown k2 dX9_write_26 ?_
      have hP : va_P G.1 vwCl (dW G a ra s em (if okWr t bm (nI pp) sv then upd i 15 (nI (bm + 1)) else i) eo es t n d tx rt rn cd su (if okWr t bm (nI pp) sv then upd (upd bk (2 * bm) (nI pp)) (2 * bm + 1) sv else bk) co mo m0 m1 kp) zs.heap := by rw [show (if okWr t bm (nI pp) sv then upd i 15 (nI (bm + 1)) else i) = i from (if_neg hno), show (if okWr t bm (nI pp) sv then upd (upd bk (2 * bm) (nI pp)) (2 * bm + 1) sv else bk) = bk from (if_neg hno)]; exact hP
      exact mX_iret hAe C hP hS dX9_write_28 (by unfold wrR; rw [if_neg (not_not_intro hPq), if_pos hin])
    · skip
      have hinl := i32_nlt.mp cq2
      refine lv_iload_n hx hb dX9_write_20 rfl (lv_at hl 2 rfl) ?_
      refine lv_bipush (v := 99) hx hb dX9_write_21 (by decide) ?_
      refine lv_icmp_le (tgt := 29) hx hb dX9_write_23 (by decide) (fun cq3 => ?_) (fun cq3 => ?_)
      · skip
        have hin : inB sv (-9) 99 := ⟨hinl, cq3⟩
        refine lv_aload_n hx hb dX9_write_29 rfl (lv_at hl 0 rfl) ?_
        refine va_get (D := G.1) (ci := 9) (v := .ref (a 38)) (C := RX9) (T := TX9) (N := 11) hx hb hts k1 hown hK hP 0 rfl rfl 8 (by decide) k3 (fun _ h9 => h9) rfl dX9_write_30 ?_
        refine lv_iload_n hx hb dX9_write_33 rfl (lv_at hl 1 rfl) ?_
        refine lv_iload_n hx hb dX9_write_34 rfl (lv_at hl 2 rfl) ?_
        refine cX_V (Cn := RX0) (n := 2) (As := [.int (nI pp), .int sv]) (rest := []) (wsn := dW G a ra s em (upd i 15 (if bm = 20 then i 15 else nI (bm + 1))) eo es t n d tx rt rn cd su (if bm = 20 then bk else upd (upd bk (2 * bm) (nI pp)) (2 * bm + 1) sv) co mo m0 m1 kp) C (c_X0_add l G (a 38) (a 39) (a 40) i bk bm (nI pp) sv hbm hbl) gX9_write_X0_add rfl ⟨rfl, rfl⟩ hd_X0_add ⟨(Nat.le_of_ble_eq_true rfl), (Nat.le_of_ble_eq_true rfl)⟩ hK hP hD hS [38, 39, 40] (by decide) rfl (bW_f.trans bW_f.symm) rfl (dW_f.trans dW_f.symm) (va_recv hK hP (ci := 0) (q0 := 38) rfl rfl) rfl hl.1 rfl (Nat.le_of_ble_eq_true rfl) dX9_write_35 ⟨(Nat.le_of_ble_eq_true rfl), (Nat.le_of_ble_eq_true rfl)⟩ (fun H locs hP hD hS => ?_)
        refine b_if_eq (tgt := 51) hx hb dX9_write_38 (by decide) (fun cq4 => ?_) (fun cq4 => ?_)
        · skip
          have h6 : bm = 20 := Decidable.of_not_not cq4
          have hno : ¬ okWr t bm (nI pp) sv := fun z => z.2.2 h6
          refine lv_ldc hx hb hown k4 dX9_write_51 ?_
          have hP : va_P G.1 vwCl (dW G a ra s em (if okWr t bm (nI pp) sv then upd i 15 (nI (bm + 1)) else i) eo es t n d tx rt rn cd su (if okWr t bm (nI pp) sv then upd (upd bk (2 * bm) (nI pp)) (2 * bm + 1) sv else bk) co mo m0 m1 kp) H := by rw [show (if okWr t bm (nI pp) sv then upd i 15 (nI (bm + 1)) else i) = (upd i 15 (if bm = 20 then i 15 else nI (bm + 1))) from by rw [if_neg hno, if_pos h6]; first | done | exact (upd_self rfl).symm, show (if okWr t bm (nI pp) sv then upd (upd bk (2 * bm) (nI pp)) (2 * bm + 1) sv else bk) = (if bm = 20 then bk else upd (upd bk (2 * bm) (nI pp)) (2 * bm + 1) sv) from by rw [if_neg hno, if_pos h6]; first | done | exact (upd_self rfl).symm]; exact hP
          exact mX_iret hAe C hP hS dX9_write_53 (by unfold wrR; rw [if_neg (not_not_intro hPq), if_neg (not_not_intro hin), if_pos h6])
        · skip
          have h6 : ¬ bm = 20 := cq4
          have hok : okWr t bm (nI pp) sv := ⟨hPq, hin, h6⟩
          refine lv_aload_n hx hb dX9_write_41 rfl (lv_at hl 0 rfl) ?_
          refine va_get (D := G.1) (ci := 9) (v := .ref (a 38)) (C := RX9) (T := TX9) (N := 11) hx hb hts k1 hown hK hP 0 rfl rfl 8 (by decide) k3 (fun _ h9 => h9) rfl dX9_write_42 ?_
          refine va_get (D := G.1) (ci := 0) (v := .int ((upd i 15 (if bm = 20 then i 15 else nI (bm + 1))) 15)) (C := RX0) (T := TX0) (N := 3) hx hb hts k6 hown hK hP 38 rfl rfl 2 (by decide) k5 (fun _ h9 => h9) rfl dX9_write_45 ?_
          refine lv_goto (tgt := 53) hx hb dX9_write_48 (by decide) ?_
          have hP : va_P G.1 vwCl (dW G a ra s em (if okWr t bm (nI pp) sv then upd i 15 (nI (bm + 1)) else i) eo es t n d tx rt rn cd su (if okWr t bm (nI pp) sv then upd (upd bk (2 * bm) (nI pp)) (2 * bm + 1) sv else bk) co mo m0 m1 kp) H := by rw [show (if okWr t bm (nI pp) sv then upd i 15 (nI (bm + 1)) else i) = (upd i 15 (if bm = 20 then i 15 else nI (bm + 1))) from by rw [if_pos hok, if_neg h6], show (if okWr t bm (nI pp) sv then upd (upd bk (2 * bm) (nI pp)) (2 * bm + 1) sv else bk) = (if bm = 20 then bk else upd (upd bk (2 * bm) (nI pp)) (2 * bm + 1) sv) from by rw [if_pos hok, if_neg h6]]; exact hP
          exact mX_iret hAe C hP hS dX9_write_53 (by unfold wrR; rw [if_neg (not_not_intro hPq), if_neg (not_not_intro hin), if_neg h6, if_neg h6]; rfl)
      · skip
        have hin : ¬ inB sv (-9) 99 := fun z => cq3 z.2
        have hno : ¬ okWr t bm (nI pp) sv := fun z => hin z.2.1
        refine lv_ldc hx hb hown k2 dX9_write_26 ?_
        have hP : va_P G.1 vwCl (dW G a ra s em (if okWr t bm (nI pp) sv then upd i 15 (nI (bm + 1)) else i) eo es t n d tx rt rn cd su (if okWr t bm (nI pp) sv then upd (upd bk (2 * bm) (nI pp)) (2 * bm + 1) sv else bk) co mo m0 m1 kp) zs.heap := by rw [show (if okWr t bm (nI pp) sv then upd i 15 (nI (bm + 1)) else i) = i from (if_neg hno), show (if okWr t bm (nI pp) sv then upd (upd bk (2 * bm) (nI pp)) (2 * bm + 1) sv else bk) = bk from (if_neg hno)]; exact hP
        exact mX_iret hAe C hP hS dX9_write_28 (by unfold wrR; rw [if_neg (not_not_intro hPq), if_pos hin])
  · skip
    have hno : ¬ okWr t bm p sv := fun z => cq1 z.1
    refine lv_ldc hx hb hown k7 dX9_write_11 ?_
    have hP : va_P G.1 vwCl (dW G a ra s em (if okWr t bm p sv then upd i 15 (nI (bm + 1)) else i) eo es t n d tx rt rn cd su (if okWr t bm p sv then upd (upd bk (2 * bm) p) (2 * bm + 1) sv else bk) co mo m0 m1 kp) zs.heap := by rw [show (if okWr t bm p sv then upd i 15 (nI (bm + 1)) else i) = i from (if_neg hno), show (if okWr t bm p sv then upd (upd bk (2 * bm) p) (2 * bm + 1) sv else bk) = bk from (if_neg hno)]; exact hP
    exact mX_iret hAe C hP hS dX9_write_13 (by unfold wrR; rw [if_pos cq1])
theorem hd_X9_judge : yX9_judge.cls = RX9 ∧ yX9_judge.cls ≠ "java/lang/invoke/MethodHandle" ∧ yX9_judge.cls ≠ "java/lang/invoke/VarHandle" ∧ (parseMethodDescriptor yX9_judge.desc).map (fun d => d.parameters.length) = some 0 := by decide +kernel
set_option maxRecDepth 100000 in
set_option maxHeartbeats 4000000 in
theorem c_X9_judge (l : Launch) (G : gG) (a : Nat → Nat) (ra : Nat → Nat → Nat) (s : RSt) (em : Int32) (i : Nat → Int32) (eo : Nat → Int32) (es : Nat → Int32) (t : Nat → Int32) (n : Nat → Int32) (d : Nat → Int32) (tx : Nat → Int32) (rt : Nat → Int32) (rn : Nat → Int32) (cd : Nat → Int32) (su : Nat → Int32) (bk : Nat → Int32) (co : Nat → Int32) (mo : Nat → Int32) (m0 : Nat → Int32) (m1 : Nat → Int32) (kp : Nat → Int32) (nc : Nat) (np : Nat) (bm : Nat) (hTT : okT t nc np) (hO : okS t n nc np) (hbm : i 15 = nI bm) (hbl : bm ≤ 20) (hbk : ∀ k, k < bm → ∃ p, p < 8 ∧ bk (2 * k) = nI p) : mR l yX9_judge wsX9_judge ({ frames := 5, cells := 0, slots := 0, locals := 111 }) G (dW G a ra s em i eo es t n d tx rt rn cd su bk co mo m0 m1 kp) [.ref (a 0)] (juU t n bk nc bm 0) := by
  refine mR.of (cc := cX9_judge) (maxL := 1) (ret := (some .int)) (by decide) rfl (Nat.le_of_ble_eq_true rfl) ?_
  intro zp ze zs zm zb zt zc ls C hP hK hl
  obtain ⟨hx, hb, hr, hml, hown, hts, hlk⟩ := id C
  have hl : lv_has ls 1 [(0, .ref (a 0))] := hl
  have hT := hTT.1
  have hT2 := hT.2.2
  have hG := okT_G hTT
  have hLH := okT_L hTT
  have k0 := hts (.fieldLink RX9 66 "DebtDowry" "book" "LDebtDowry$Book;") (by decide +kernel)
  have k1 := (fun w h => by revert w; decide +kernel : ∀ w ∈ wsX90, w ∈ wsX9_judge)
  have k2 := hts (.fieldLink RX9 28 "DebtDowry" "now" "LDebtDowry$State;") (by decide +kernel)
  refine lv_aload_n hx hb dX9_judge_0 rfl (lv_at hl 0 rfl) ?_
  refine va_get (D := G.1) (ci := 9) (v := .ref (a 38)) (C := RX9) (T := TX9) (N := 11) hx hb hts k1 hown hK hP 0 rfl rfl 8 (by decide) k0 (fun _ h9 => h9) rfl dX9_judge_1 ?_
  refine lv_aload_n hx hb dX9_judge_4 rfl (lv_at hl 0 rfl) ?_
  refine va_get (D := G.1) (ci := 9) (v := .ref (a 5)) (C := RX9) (T := TX9) (N := 11) hx hb hts k1 hown hK hP 0 rfl rfl 2 (by decide) k2 (fun _ h9 => h9) rfl dX9_judge_5 ?_
  refine cR_V (Cn := RX0) (n := 1) (As := [.ref (a 5)]) (rest := []) C (c_X0_firstWrong l G (a 38) (a 39) (a 40) (a 5) (a 6) (a 7) (a 8) (a 9) (a 1) (a 2) (a 3) (a 4) i bk t n nc np bm  hT hbm hbl hbk) gX9_judge_X0_firstWrong rfl ⟨rfl, rfl⟩ hd_X0_firstWrong ⟨(Nat.le_of_ble_eq_true rfl), (Nat.le_of_ble_eq_true rfl)⟩ hK (hP.sub [38, 39, 40, 5, 6, 7, 8, 9, 1, 2, 3, 4] rfl) (va_recv hK hP (ci := 0) (q0 := 38) rfl rfl) rfl hl.1 rfl (Nat.le_of_ble_eq_true rfl) dX9_judge_8 ⟨(Nat.le_of_ble_eq_true rfl), (Nat.le_of_ble_eq_true rfl)⟩ ?_
  exact mR_iret C dX9_judge_11 (rfl)
theorem hd_X9_tear : yX9_tear.cls = RX9 ∧ yX9_tear.cls ≠ "java/lang/invoke/MethodHandle" ∧ yX9_tear.cls ≠ "java/lang/invoke/VarHandle" ∧ (parseMethodDescriptor yX9_tear.desc).map (fun d => d.parameters.length) = some 0 := by decide +kernel
set_option maxRecDepth 100000 in
set_option maxHeartbeats 4000000 in
theorem c_X9_tear (l : Launch) (G : gG) (a : Nat → Nat) (ra : Nat → Nat → Nat) (s : RSt) (em : Int32) (i : Nat → Int32) (eo : Nat → Int32) (es : Nat → Int32) (t : Nat → Int32) (n : Nat → Int32) (d : Nat → Int32) (tx : Nat → Int32) (rt : Nat → Int32) (rn : Nat → Int32) (cd : Nat → Int32) (su : Nat → Int32) (bk : Nat → Int32) (co : Nat → Int32) (mo : Nat → Int32) (m0 : Nat → Int32) (m1 : Nat → Int32) (kp : Nat → Int32) : mX l yX9_tear wsX9_tear ({ frames := 0, cells := 0, slots := 0, locals := 0 }) G (dW G a ra s em i eo es t n d tx rt rn cd su bk co mo m0 m1 kp) (dW G a ra s em (upd (upd i 13 0) 15 0) eo es t n d tx rt rn cd su bk co mo m0 m1 kp) [.ref (a 0)] (.returned (some (.int (i 13 + i 15)))) := by
  refine mX.of (cc := cX9_tear) (maxL := 2) (ret := (some .int)) (by decide) rfl (Nat.le_of_ble_eq_true rfl) ?_
  intro zp ze zs zm zb zt zc ls A hAe C hP hK hD hS hl
  obtain ⟨hx, hb, hr, hml, hown, hts, hlk⟩ := id C
  have hl : lv_has ls 2 [(0, .ref (a 0))] := hl
  have k0 := hts (.fieldLink RX9 59 "DebtDowry" "cards" "LDebtDowry$Cards;") (by decide +kernel)
  have k1 := (fun w h => by revert w; decide +kernel : ∀ w ∈ wsX90, w ∈ wsX9_tear)
  have k2 := hts (.fieldLink RX9 109 "DebtDowry$Cards" "count" "I") (by decide +kernel)
  have k3 := (fun w h => by revert w; decide +kernel : ∀ w ∈ wsX10, w ∈ wsX9_tear)
  have k4 := hts (.fieldLink RX9 66 "DebtDowry" "book" "LDebtDowry$Book;") (by decide +kernel)
  have k5 := hts (.fieldLink RX9 112 "DebtDowry$Book" "count" "I") (by decide +kernel)
  have k6 := (fun w h => by revert w; decide +kernel : ∀ w ∈ wsX00, w ∈ wsX9_tear)
  refine lv_aload_n hx hb dX9_tear_0 rfl (lv_at hl 0 rfl) ?_
  refine va_get (D := G.1) (ci := 9) (v := .ref (a 32)) (C := RX9) (T := TX9) (N := 11) hx hb hts k1 hown hK hP 0 rfl rfl 7 (by decide) k0 (fun _ h9 => h9) rfl dX9_tear_1 ?_
  refine va_get (D := G.1) (ci := 1) (v := .int (i 13)) (C := RX1) (T := TX1) (N := 7) hx hb hts k3 hown hK hP 32 rfl rfl 4 (by decide) k2 (fun _ h9 => h9) rfl dX9_tear_4 ?_
  refine lv_aload_n hx hb dX9_tear_7 rfl (lv_at hl 0 rfl) ?_
  refine va_get (D := G.1) (ci := 9) (v := .ref (a 38)) (C := RX9) (T := TX9) (N := 11) hx hb hts k1 hown hK hP 0 rfl rfl 8 (by decide) k4 (fun _ h9 => h9) rfl dX9_tear_8 ?_
  refine va_get (D := G.1) (ci := 0) (v := .int (i 15)) (C := RX0) (T := TX0) (N := 3) hx hb hts k6 hown hK hP 38 rfl rfl 2 (by decide) k5 (fun _ h9 => h9) rfl dX9_tear_11 ?_
  refine lv_iadd hx hb dX9_tear_14 ?_
  refine lv_istore_n (lv' := [(1, .int ((i 13) + (i 15))), (0, .ref (a 0))]) hx hb dX9_tear_15 rfl hl (by decide) rfl (fun ls hl => ?_)
  refine lv_aload_n hx hb dX9_tear_16 rfl (lv_at hl 1 rfl) ?_
  refine va_get (D := G.1) (ci := 9) (v := .ref (a 32)) (C := RX9) (T := TX9) (N := 11) hx hb hts k1 hown hK hP 0 rfl rfl 7 (by decide) k0 (fun _ h9 => h9) rfl dX9_tear_17 ?_
  refine lv_iconst (v := 0) hx hb dX9_tear_20 (by decide) ?_
  refine n_putQ (D := G.1) (wsn := dW G a ra s em (upd i 13 0) eo es t n d tx rt rn cd su bk co mo m0 m1 kp) (ci := 1) (v := .int 0) (ty := .int) (C := RX1) (T := TX1) (N := 7) hx hb hts k3 tyX1 tyX1_ok nmX1 hown hK hP hD hS 32 rfl rfl 4 (by decide) k2 (fun _ h9 => h9) rfl (by decide +kernel) rfl rfl (Nat.le_of_ble_eq_true rfl) dW_p32_4 dX9_tear_21 (fun H locs hP hD hS => ?_)
  refine lv_aload_n hx hb dX9_tear_24 rfl (lv_at hl 1 rfl) ?_
  refine va_get (D := G.1) (ci := 9) (v := .ref (a 38)) (C := RX9) (T := TX9) (N := 11) hx hb hts k1 hown hK hP 0 rfl rfl 8 (by decide) k4 (fun _ h9 => h9) rfl dX9_tear_25 ?_
  refine lv_iconst (v := 0) hx hb dX9_tear_28 (by decide) ?_
  refine n_putQ (D := G.1) (wsn := dW G a ra s em (upd (upd i 13 0) 15 0) eo es t n d tx rt rn cd su bk co mo m0 m1 kp) (ci := 0) (v := .int 0) (ty := .int) (C := RX0) (T := TX0) (N := 3) hx hb hts k6 tyX0 tyX0_ok nmX0 hown hK hP hD hS 38 rfl rfl 2 (by decide) k5 (fun _ h9 => h9) rfl (by decide +kernel) rfl rfl (Nat.le_of_ble_eq_true rfl) dW_p38_2 dX9_tear_29 (fun H locs hP hD hS => ?_)
  refine lv_iload_n hx hb dX9_tear_32 rfl (lv_at hl 0 rfl) ?_
  exact mX_iret hAe C hP hS dX9_tear_33 (rfl)
theorem hd_X9_seed : yX9_seed.cls = RX9 ∧ yX9_seed.cls ≠ "java/lang/invoke/MethodHandle" ∧ yX9_seed.cls ≠ "java/lang/invoke/VarHandle" ∧ (parseMethodDescriptor yX9_seed.desc).map (fun d => d.parameters.length) = some 1 := by decide +kernel
set_option maxRecDepth 100000 in
set_option maxHeartbeats 4000000 in
theorem c_X9_seed (l : Launch) (G : gG) (a : Nat → Nat) (i : Nat → Int32) (x : Int32) : mX l yX9_seed wsX9_seed ({ frames := 0, cells := 0, slots := 0, locals := 0 }) G (vW G a i) (vW G a (if ¬ x < 0 then upd i 8 x else i)) [.ref (a 0), .int x] (.returned (some (.int (sdR i x)))) := by
  refine mX.of (cc := cX9_seed) (maxL := 3) (ret := (some .int)) (by decide) rfl (Nat.le_of_ble_eq_true rfl) ?_
  intro zp ze zs zm zb zt zc ls A hAe C hP hK hD hS hl
  obtain ⟨hx, hb, hr, hml, hown, hts, hlk⟩ := id C
  have hl : lv_has ls 3 [(0, .ref (a 0)), (1, .int x)] := hl
  have k0 := hts (.fieldLink RX9 77 "DebtDowry" "luck" "I") (by decide +kernel)
  have k1 := (fun w h => by revert w; decide +kernel : ∀ w ∈ wsX90, w ∈ wsX9_seed)
  have k2 := hts (.constant RX9 81 (-1000000002)) (by decide +kernel)
  refine lv_iload_n hx hb dX9_seed_0 rfl (lv_at hl 1 rfl) ?_
  refine lv_if_ge (tgt := 7) hx hb dX9_seed_1 (by decide) (fun cq1 => ?_) (fun cq1 => ?_)
  · skip
    have h1 := i32_nlt.mpr cq1
    refine lv_aload_n hx hb dX9_seed_7 rfl (lv_at hl 0 rfl) ?_
    refine va_get (D := G.1) (ci := 9) (v := .int (i 8)) (C := RX9) (T := TX9) (N := 11) hx hb hts k1 hown hK hP 0 rfl rfl 10 (by decide) k0 (fun _ h9 => h9) rfl dX9_seed_8 ?_
    refine lv_istore_n (lv' := [(2, .int (i 8)), (0, .ref (a 0)), (1, .int x)]) hx hb dX9_seed_11 rfl hl (by decide) rfl (fun ls hl => ?_)
    refine lv_aload_n hx hb dX9_seed_12 rfl (lv_at hl 1 rfl) ?_
    refine lv_iload_n hx hb dX9_seed_13 rfl (lv_at hl 2 rfl) ?_
    refine n_putQ (D := G.1) (wsn := vW G a (upd i 8 x)) (ci := 9) (v := .int x) (ty := .int) (C := RX9) (T := TX9) (N := 11) hx hb hts k1 tyX9 tyX9_ok nmX9 hown hK hP hD hS 0 rfl rfl 10 (by decide) k0 (fun _ h9 => h9) rfl (by decide +kernel) rfl rfl (Nat.le_of_ble_eq_true rfl) vW_p0_10 dX9_seed_14 (fun H locs hP hD hS => ?_)
    refine lv_iload_n hx hb dX9_seed_17 rfl (lv_at hl 0 rfl) ?_
    have hP : va_P G.1 vwCl (vW G a (if ¬ x < 0 then upd i 8 x else i)) H := by rw [show (if ¬ x < 0 then upd i 8 x else i) = (upd i 8 x) from (if_pos h1)]; exact hP
    exact mX_iret hAe C hP hS dX9_seed_18 (by unfold sdR; rw [if_neg h1])
  · skip
    have h1 := i32_nle.mp cq1
    refine lv_ldc hx hb hown k2 dX9_seed_4 ?_
    have hP : va_P G.1 vwCl (vW G a (if ¬ x < 0 then upd i 8 x else i)) zs.heap := by rw [show (if ¬ x < 0 then upd i 8 x else i) = i from (if_neg (not_not_intro h1))]; exact hP
    exact mX_iret hAe C hP hS dX9_seed_6 (by unfold sdR; rw [if_pos h1])
theorem hd_X9_keep : yX9_keep.cls = RX9 ∧ yX9_keep.cls ≠ "java/lang/invoke/MethodHandle" ∧ yX9_keep.cls ≠ "java/lang/invoke/VarHandle" ∧ (parseMethodDescriptor yX9_keep.desc).map (fun d => d.parameters.length) = some 1 := by decide +kernel
set_option maxRecDepth 100000 in
set_option maxHeartbeats 4000000 in
theorem c_X9_keep (l : Launch) (G : gG) (a : Nat → Nat) (ra : Nat → Nat → Nat) (s : RSt) (em : Int32) (i : Nat → Int32) (eo : Nat → Int32) (es : Nat → Int32) (t : Nat → Int32) (n : Nat → Int32) (d : Nat → Int32) (tx : Nat → Int32) (rt : Nat → Int32) (rn : Nat → Int32) (cd : Nat → Int32) (su : Nat → Int32) (bk : Nat → Int32) (co : Nat → Int32) (mo : Nat → Int32) (m0 : Nat → Int32) (m1 : Nat → Int32) (kp : Nat → Int32) (x : Int32) : mX l yX9_keep wsX9_keep ({ frames := 2, cells := 0, slots := 0, locals := 42 }) G (dW G a ra s em i eo es t n d tx rt rn cd su bk co mo m0 m1 kp) (dW G a ra s em (if inB x 0 1 then upd i 5 0 else i) (if x = 0 then upd eo 1 (i 8) else if x = 1 then upd eo 2 (i 8) else eo) es t n d tx rt rn cd su bk co mo (if x = 0 then n else m0) (if x = 1 then n else m1) (if inB x 0 1 then upd kp (cl x) 1 else kp)) [.ref (a 0), .int x] (.returned (some (.int (kpR x)))) := by
  refine mX.of (cc := cX9_keep) (maxL := 2) (ret := (some .int)) (by decide) rfl (Nat.le_of_ble_eq_true rfl) ?_
  intro zp ze zs zm zb zt zc ls A hAe C hP hK hD hS hl
  obtain ⟨hx, hb, hr, hml, hown, hts, hlk⟩ := id C
  have hl : lv_has ls 2 [(0, .ref (a 0)), (1, .int x)] := hl
  have k0 := hts (.constant RX9 155 (-1000000001)) (by decide +kernel)
  have k1 := hts (.fieldLink RX9 72 "DebtDowry" "images" "[LDebtDowry$Image;") (by decide +kernel)
  have k2 := (fun w h => by revert w; decide +kernel : ∀ w ∈ wsX90, w ∈ wsX9_keep)
  have k3 := hts (.fieldLink RX9 318 "DebtDowry$Image" "state" "LDebtDowry$State;") (by decide +kernel)
  have k4 := (fun w h => by revert w; decide +kernel : ∀ w ∈ wsX30, w ∈ wsX9_keep)
  have k5 := hts (.fieldLink RX9 28 "DebtDowry" "now" "LDebtDowry$State;") (by decide +kernel)
  have k6 := hts (.fieldLink RX9 77 "DebtDowry" "luck" "I") (by decide +kernel)
  have k7 := hts (.fieldLink RX9 319 "DebtDowry$Image" "luck" "I") (by decide +kernel)
  have k8 := hts (.fieldLink RX9 113 "DebtDowry$Image" "kept" "Z") (by decide +kernel)
  have k9 := hts (.fieldLink RX9 38 "DebtDowry" "history" "LDebtDowry$History;") (by decide +kernel)
  refine lv_iload_n hx hb dX9_keep_0 rfl (lv_at hl 1 rfl) ?_
  refine lv_if_lt (tgt := 9) hx hb dX9_keep_1 (by decide) (fun cq1 => ?_) (fun cq1 => ?_)
  · skip
    have hno : ¬ inB x 0 1 := fun z => i32_nle.mpr cq1 z.1
    refine lv_ldc hx hb hown k0 dX9_keep_9 ?_
    have hP : va_P G.1 vwCl (dW G a ra s em (if inB x 0 1 then upd i 5 0 else i) (if x = 0 then upd eo 1 (i 8) else if x = 1 then upd eo 2 (i 8) else eo) es t n d tx rt rn cd su bk co mo (if x = 0 then n else m0) (if x = 1 then n else m1) (if inB x 0 1 then upd kp (cl x) 1 else kp)) zs.heap := by rw [show (if inB x 0 1 then upd i 5 0 else i) = i from (if_neg hno), show (if x = 0 then upd eo 1 (i 8) else if x = 1 then upd eo 2 (i 8) else eo) = eo from by rw [if_neg (fun z => hno (by rw [z]; decide)), if_neg (fun z => hno (by rw [z]; decide))], show (if x = 0 then n else m0) = m0 from (if_neg (fun z => hno (by rw [z]; decide))), show (if x = 1 then n else m1) = m1 from (if_neg (fun z => hno (by rw [z]; decide))), show (if inB x 0 1 then upd kp (cl x) 1 else kp) = kp from (if_neg hno)]; exact hP
    exact mX_iret hAe C hP hS dX9_keep_11 (by unfold kpR; rw [if_pos hno])
  · skip
    have hinl := i32_nlt.mp cq1
    refine lv_iload_n hx hb dX9_keep_4 rfl (lv_at hl 1 rfl) ?_
    refine lv_iconst (v := 2) hx hb dX9_keep_5 (by decide) ?_
    refine lv_icmp_lt (tgt := 12) hx hb dX9_keep_6 (by decide) (fun cq2 => ?_) (fun cq2 => ?_)
    · skip
      have hinh := cq2
      have hin : inB x 0 1 := ⟨hinl, im_le hinh⟩
      rcases (show x = 0 ∨ x = 1 from im_01 hin) with rfl | rfl
      · skip
        have hcl_k : cl (0 : Int32) = 0 := by decide
        have hx0 : (0 : Int32) = 0 := rfl
        refine lv_aload_n hx hb dX9_keep_12 rfl (lv_at hl 0 rfl) ?_
        refine va_get (D := G.1) (ci := 9) (v := .ref (a 41)) (C := RX9) (T := TX9) (N := 11) hx hb hts k2 hown hK hP 0 rfl rfl 9 (by decide) k1 (fun _ h9 => h9) rfl dX9_keep_13 ?_
        refine lv_iload_n hx hb dX9_keep_16 rfl (lv_at hl 1 rfl) ?_
        refine n_aald hx hb hK hP 41 3 rfl rfl (j := 0) (r := (a 42)) rfl (by decide) (by decide) (rfl) dX9_keep_17 ?_
        refine va_get (D := G.1) (ci := 3) (v := .ref (a 43)) (C := RX3) (T := TX3) (N := 3) hx hb hts k4 hown hK hP 42 rfl rfl 0 (by decide) k3 (fun _ h9 => h9) rfl dX9_keep_18 ?_
        refine lv_aload_n hx hb dX9_keep_21 rfl (lv_at hl 0 rfl) ?_
        refine va_get (D := G.1) (ci := 9) (v := .ref (a 5)) (C := RX9) (T := TX9) (N := 11) hx hb hts k2 hown hK hP 0 rfl rfl 2 (by decide) k5 (fun _ h9 => h9) rfl dX9_keep_22 ?_
        refine cX_V (Cn := RX7) (n := 1) (As := [.ref (a 5)]) (rest := []) (wsn := dW G a ra s em i eo es t n d tx rt rn cd su bk co mo n m1 kp) C (c_X7_take l G (a 43) (a 44) (a 45) (a 46) (a 47) (a 5) (a 6) (a 7) (a 8) (a 9) (a 1) (a 1) m0 n   ) gX9_keep_X7_take rfl ⟨rfl, rfl⟩ hd_X7_take ⟨(Nat.le_of_ble_eq_true rfl), (Nat.le_of_ble_eq_true rfl)⟩ hK hP hD hS [43, 44, 45, 46, 47, 5, 6, 7, 8, 9] (by decide) rfl (s2W_f.trans s2W_f.symm) rfl (dW_f.trans dW_f.symm) (va_recv hK hP (ci := 7) (q0 := 43) rfl rfl) rfl hl.1 rfl (Nat.le_of_ble_eq_true rfl) dX9_keep_25 ⟨(Nat.le_of_ble_eq_true rfl), (Nat.le_of_ble_eq_true rfl)⟩ (fun H locs hP hD hS => ?_)
        refine lv_aload_n hx hb dX9_keep_28 rfl (lv_at hl 0 rfl) ?_
        refine va_get (D := G.1) (ci := 9) (v := .ref (a 41)) (C := RX9) (T := TX9) (N := 11) hx hb hts k2 hown hK hP 0 rfl rfl 9 (by decide) k1 (fun _ h9 => h9) rfl dX9_keep_29 ?_
        refine lv_iload_n hx hb dX9_keep_32 rfl (lv_at hl 1 rfl) ?_
        refine n_aald hx hb hK hP 41 3 rfl rfl (j := 0) (r := (a 42)) rfl (by decide) (by decide) (rfl) dX9_keep_33 ?_
        refine lv_aload_n hx hb dX9_keep_34 rfl (lv_at hl 0 rfl) ?_
        refine va_get (D := G.1) (ci := 9) (v := .int (i 8)) (C := RX9) (T := TX9) (N := 11) hx hb hts k2 hown hK hP 0 rfl rfl 10 (by decide) k6 (fun _ h9 => h9) rfl dX9_keep_35 ?_
        refine n_putQ (D := G.1) (wsn := dW G a ra s em i (upd eo 1 (i 8)) es t n d tx rt rn cd su bk co mo n m1 kp) (ci := 3) (v := .int (i 8)) (ty := .int) (C := RX3) (T := TX3) (N := 3) hx hb hts k4 tyX3 tyX3_ok nmX3 hown hK hP hD hS 42 rfl rfl 1 (by decide) k7 (fun _ h9 => h9) rfl (by decide +kernel) rfl rfl (Nat.le_of_ble_eq_true rfl) dW_p42_1 dX9_keep_38 (fun H locs hP hD hS => ?_)
        refine lv_aload_n hx hb dX9_keep_41 rfl (lv_at hl 0 rfl) ?_
        refine va_get (D := G.1) (ci := 9) (v := .ref (a 41)) (C := RX9) (T := TX9) (N := 11) hx hb hts k2 hown hK hP 0 rfl rfl 9 (by decide) k1 (fun _ h9 => h9) rfl dX9_keep_42 ?_
        refine lv_iload_n hx hb dX9_keep_45 rfl (lv_at hl 1 rfl) ?_
        refine n_aald hx hb hK hP 41 3 rfl rfl (j := 0) (r := (a 42)) rfl (by decide) (by decide) (rfl) dX9_keep_46 ?_
        refine lv_iconst (v := 1) hx hb dX9_keep_47 (by decide) ?_
        refine n_putQ (D := G.1) (wsn := dW G a ra s em i (upd eo 1 (i 8)) es t n d tx rt rn cd su bk co mo n m1 (upd kp 0 1)) (ci := 3) (v := .int 1) (ty := .boolean) (C := RX3) (T := TX3) (N := 3) hx hb hts k4 tyX3 tyX3_ok nmX3 hown hK hP hD hS 42 rfl rfl 2 (by decide) k8 (fun _ h9 => h9) rfl (by decide +kernel) (by decide) rfl (Nat.le_of_ble_eq_true rfl) dW_p42_2 dX9_keep_48 (fun H locs hP hD hS => ?_)
        refine lv_aload_n hx hb dX9_keep_51 rfl (lv_at hl 0 rfl) ?_
        refine va_get (D := G.1) (ci := 9) (v := .ref (a 26)) (C := RX9) (T := TX9) (N := 11) hx hb hts k2 hown hK hP 0 rfl rfl 4 (by decide) k9 (fun _ h9 => h9) rfl dX9_keep_52 ?_
        refine cX_V (Cn := RX2) (n := 0) (As := []) (rest := []) (wsn := dW G a ra s em (upd i 5 0) (upd eo 1 (i 8)) es t n d tx rt rn cd su bk co mo n m1 (upd kp 0 1)) C (c_X2_forget l G (a 26) (a 27) i (upd eo 1 (i 8))   ) gX9_keep_X2_forget rfl ⟨rfl, rfl⟩ hd_X2_forget ⟨(Nat.le_of_ble_eq_true rfl), (Nat.le_of_ble_eq_true rfl)⟩ hK hP hD hS [26] (by decide) rfl (hfW_f.trans hfW_f.symm) rfl (dW_f.trans dW_f.symm) (va_recv hK hP (ci := 2) (q0 := 26) rfl rfl) rfl hl.1 rfl (Nat.le_of_ble_eq_true rfl) dX9_keep_55 ⟨(Nat.le_of_ble_eq_true rfl), (Nat.le_of_ble_eq_true rfl)⟩ (fun H locs hP hD hS => ?_)
        refine lv_iconst (v := 1) hx hb dX9_keep_58 (by decide) ?_
        have hP : va_P G.1 vwCl (dW G a ra s em (if inB 0 0 1 then upd i 5 0 else i) (if 0 = 0 then upd eo 1 (i 8) else if 0 = 1 then upd eo 2 (i 8) else eo) es t n d tx rt rn cd su bk co mo (if 0 = 0 then n else m0) (if 0 = 1 then n else m1) (if inB 0 0 1 then upd kp (cl 0) 1 else kp)) H := by rw [show (if inB 0 0 1 then upd i 5 0 else i) = (upd i 5 0) from (if_pos hin), show (if 0 = 0 then upd eo 1 (i 8) else if 0 = 1 then upd eo 2 (i 8) else eo) = (upd eo 1 (i 8)) from by first | exact if_pos rfl | (rw [if_neg (by decide)]; exact if_pos rfl), show (if 0 = 0 then n else m0) = n from by first | exact if_pos rfl | exact if_neg (by decide), show (if 0 = 1 then n else m1) = m1 from by first | exact if_pos rfl | exact if_neg (by decide), show (if inB 0 0 1 then upd kp (cl 0) 1 else kp) = (upd kp 0 1) from by rw [if_pos hin, hcl_k]]; exact hP
        exact mX_iret hAe C hP hS dX9_keep_59 (by unfold kpR; rw [if_neg (not_not_intro hin)])
      · skip
        have hcl_k : cl (1 : Int32) = 1 := by decide
        have hx1 : (1 : Int32) = 1 := rfl
        refine lv_aload_n hx hb dX9_keep_12 rfl (lv_at hl 0 rfl) ?_
        refine va_get (D := G.1) (ci := 9) (v := .ref (a 41)) (C := RX9) (T := TX9) (N := 11) hx hb hts k2 hown hK hP 0 rfl rfl 9 (by decide) k1 (fun _ h9 => h9) rfl dX9_keep_13 ?_
        refine lv_iload_n hx hb dX9_keep_16 rfl (lv_at hl 1 rfl) ?_
        refine n_aald hx hb hK hP 41 3 rfl rfl (j := 1) (r := (a 48)) rfl (by decide) (by decide) (rfl) dX9_keep_17 ?_
        refine va_get (D := G.1) (ci := 3) (v := .ref (a 49)) (C := RX3) (T := TX3) (N := 3) hx hb hts k4 hown hK hP 48 rfl rfl 0 (by decide) k3 (fun _ h9 => h9) rfl dX9_keep_18 ?_
        refine lv_aload_n hx hb dX9_keep_21 rfl (lv_at hl 0 rfl) ?_
        refine va_get (D := G.1) (ci := 9) (v := .ref (a 5)) (C := RX9) (T := TX9) (N := 11) hx hb hts k2 hown hK hP 0 rfl rfl 2 (by decide) k5 (fun _ h9 => h9) rfl dX9_keep_22 ?_
        refine cX_V (Cn := RX7) (n := 1) (As := [.ref (a 5)]) (rest := []) (wsn := dW G a ra s em i eo es t n d tx rt rn cd su bk co mo m0 n kp) C (c_X7_take l G (a 49) (a 50) (a 51) (a 52) (a 53) (a 5) (a 6) (a 7) (a 8) (a 9) (a 1) (a 1) m1 n   ) gX9_keep_X7_take rfl ⟨rfl, rfl⟩ hd_X7_take ⟨(Nat.le_of_ble_eq_true rfl), (Nat.le_of_ble_eq_true rfl)⟩ hK hP hD hS [49, 50, 51, 52, 53, 5, 6, 7, 8, 9] (by decide) rfl (s2W_f.trans s2W_f.symm) rfl (dW_f.trans dW_f.symm) (va_recv hK hP (ci := 7) (q0 := 49) rfl rfl) rfl hl.1 rfl (Nat.le_of_ble_eq_true rfl) dX9_keep_25 ⟨(Nat.le_of_ble_eq_true rfl), (Nat.le_of_ble_eq_true rfl)⟩ (fun H locs hP hD hS => ?_)
        refine lv_aload_n hx hb dX9_keep_28 rfl (lv_at hl 0 rfl) ?_
        refine va_get (D := G.1) (ci := 9) (v := .ref (a 41)) (C := RX9) (T := TX9) (N := 11) hx hb hts k2 hown hK hP 0 rfl rfl 9 (by decide) k1 (fun _ h9 => h9) rfl dX9_keep_29 ?_
        refine lv_iload_n hx hb dX9_keep_32 rfl (lv_at hl 1 rfl) ?_
        refine n_aald hx hb hK hP 41 3 rfl rfl (j := 1) (r := (a 48)) rfl (by decide) (by decide) (rfl) dX9_keep_33 ?_
        refine lv_aload_n hx hb dX9_keep_34 rfl (lv_at hl 0 rfl) ?_
        refine va_get (D := G.1) (ci := 9) (v := .int (i 8)) (C := RX9) (T := TX9) (N := 11) hx hb hts k2 hown hK hP 0 rfl rfl 10 (by decide) k6 (fun _ h9 => h9) rfl dX9_keep_35 ?_
        refine n_putQ (D := G.1) (wsn := dW G a ra s em i (upd eo 2 (i 8)) es t n d tx rt rn cd su bk co mo m0 n kp) (ci := 3) (v := .int (i 8)) (ty := .int) (C := RX3) (T := TX3) (N := 3) hx hb hts k4 tyX3 tyX3_ok nmX3 hown hK hP hD hS 48 rfl rfl 1 (by decide) k7 (fun _ h9 => h9) rfl (by decide +kernel) rfl rfl (Nat.le_of_ble_eq_true rfl) dW_p48_1 dX9_keep_38 (fun H locs hP hD hS => ?_)
        refine lv_aload_n hx hb dX9_keep_41 rfl (lv_at hl 0 rfl) ?_
        refine va_get (D := G.1) (ci := 9) (v := .ref (a 41)) (C := RX9) (T := TX9) (N := 11) hx hb hts k2 hown hK hP 0 rfl rfl 9 (by decide) k1 (fun _ h9 => h9) rfl dX9_keep_42 ?_
        refine lv_iload_n hx hb dX9_keep_45 rfl (lv_at hl 1 rfl) ?_
        refine n_aald hx hb hK hP 41 3 rfl rfl (j := 1) (r := (a 48)) rfl (by decide) (by decide) (rfl) dX9_keep_46 ?_
        refine lv_iconst (v := 1) hx hb dX9_keep_47 (by decide) ?_
        refine n_putQ (D := G.1) (wsn := dW G a ra s em i (upd eo 2 (i 8)) es t n d tx rt rn cd su bk co mo m0 n (upd kp 1 1)) (ci := 3) (v := .int 1) (ty := .boolean) (C := RX3) (T := TX3) (N := 3) hx hb hts k4 tyX3 tyX3_ok nmX3 hown hK hP hD hS 48 rfl rfl 2 (by decide) k8 (fun _ h9 => h9) rfl (by decide +kernel) (by decide) rfl (Nat.le_of_ble_eq_true rfl) dW_p48_2 dX9_keep_48 (fun H locs hP hD hS => ?_)
        refine lv_aload_n hx hb dX9_keep_51 rfl (lv_at hl 0 rfl) ?_
        refine va_get (D := G.1) (ci := 9) (v := .ref (a 26)) (C := RX9) (T := TX9) (N := 11) hx hb hts k2 hown hK hP 0 rfl rfl 4 (by decide) k9 (fun _ h9 => h9) rfl dX9_keep_52 ?_
        refine cX_V (Cn := RX2) (n := 0) (As := []) (rest := []) (wsn := dW G a ra s em (upd i 5 0) (upd eo 2 (i 8)) es t n d tx rt rn cd su bk co mo m0 n (upd kp 1 1)) C (c_X2_forget l G (a 26) (a 27) i (upd eo 2 (i 8))   ) gX9_keep_X2_forget rfl ⟨rfl, rfl⟩ hd_X2_forget ⟨(Nat.le_of_ble_eq_true rfl), (Nat.le_of_ble_eq_true rfl)⟩ hK hP hD hS [26] (by decide) rfl (hfW_f.trans hfW_f.symm) rfl (dW_f.trans dW_f.symm) (va_recv hK hP (ci := 2) (q0 := 26) rfl rfl) rfl hl.1 rfl (Nat.le_of_ble_eq_true rfl) dX9_keep_55 ⟨(Nat.le_of_ble_eq_true rfl), (Nat.le_of_ble_eq_true rfl)⟩ (fun H locs hP hD hS => ?_)
        refine lv_iconst (v := 1) hx hb dX9_keep_58 (by decide) ?_
        have hP : va_P G.1 vwCl (dW G a ra s em (if inB 1 0 1 then upd i 5 0 else i) (if 1 = 0 then upd eo 1 (i 8) else if 1 = 1 then upd eo 2 (i 8) else eo) es t n d tx rt rn cd su bk co mo (if 1 = 0 then n else m0) (if 1 = 1 then n else m1) (if inB 1 0 1 then upd kp (cl 1) 1 else kp)) H := by rw [show (if inB 1 0 1 then upd i 5 0 else i) = (upd i 5 0) from (if_pos hin), show (if 1 = 0 then upd eo 1 (i 8) else if 1 = 1 then upd eo 2 (i 8) else eo) = (upd eo 2 (i 8)) from by first | exact if_pos rfl | (rw [if_neg (by decide)]; exact if_pos rfl), show (if 1 = 0 then n else m0) = m0 from by first | exact if_pos rfl | exact if_neg (by decide), show (if 1 = 1 then n else m1) = n from by first | exact if_pos rfl | exact if_neg (by decide), show (if inB 1 0 1 then upd kp (cl 1) 1 else kp) = (upd kp 1 1) from by rw [if_pos hin, hcl_k]]; exact hP
        exact mX_iret hAe C hP hS dX9_keep_59 (by unfold kpR; rw [if_neg (not_not_intro hin)])
    · skip
      have hno : ¬ inB x 0 1 := fun z => cq2 (im_lt z.2)
      refine lv_ldc hx hb hown k0 dX9_keep_9 ?_
      have hP : va_P G.1 vwCl (dW G a ra s em (if inB x 0 1 then upd i 5 0 else i) (if x = 0 then upd eo 1 (i 8) else if x = 1 then upd eo 2 (i 8) else eo) es t n d tx rt rn cd su bk co mo (if x = 0 then n else m0) (if x = 1 then n else m1) (if inB x 0 1 then upd kp (cl x) 1 else kp)) zs.heap := by rw [show (if inB x 0 1 then upd i 5 0 else i) = i from (if_neg hno), show (if x = 0 then upd eo 1 (i 8) else if x = 1 then upd eo 2 (i 8) else eo) = eo from by rw [if_neg (fun z => hno (by rw [z]; decide)), if_neg (fun z => hno (by rw [z]; decide))], show (if x = 0 then n else m0) = m0 from (if_neg (fun z => hno (by rw [z]; decide))), show (if x = 1 then n else m1) = m1 from (if_neg (fun z => hno (by rw [z]; decide))), show (if inB x 0 1 then upd kp (cl x) 1 else kp) = kp from (if_neg hno)]; exact hP
      exact mX_iret hAe C hP hS dX9_keep_11 (by unfold kpR; rw [if_pos hno])
theorem hd_X9_goBack : yX9_goBack.cls = RX9 ∧ yX9_goBack.cls ≠ "java/lang/invoke/MethodHandle" ∧ yX9_goBack.cls ≠ "java/lang/invoke/VarHandle" ∧ (parseMethodDescriptor yX9_goBack.desc).map (fun d => d.parameters.length) = some 1 := by decide +kernel
set_option maxRecDepth 100000 in
set_option maxHeartbeats 4000000 in
theorem c_X9_goBack (l : Launch) (G : gG) (a : Nat → Nat) (ra : Nat → Nat → Nat) (s : RSt) (em : Int32) (i : Nat → Int32) (eo : Nat → Int32) (es : Nat → Int32) (t : Nat → Int32) (n : Nat → Int32) (d : Nat → Int32) (tx : Nat → Int32) (rt : Nat → Int32) (rn : Nat → Int32) (cd : Nat → Int32) (su : Nat → Int32) (bk : Nat → Int32) (co : Nat → Int32) (mo : Nat → Int32) (m0 : Nat → Int32) (m1 : Nat → Int32) (kp : Nat → Int32) (x : Int32) : mX l yX9_goBack wsX9_goBack ({ frames := 2, cells := 0, slots := 0, locals := 42 }) G (dW G a ra s em i eo es t n d tx rt rn cd su bk co mo m0 m1 kp) (dW G a ra s em (if okGb kp x then upd (upd i 8 (if x = 0 then eo 1 else eo 2)) 5 0 else i) eo es t (if okGb kp x then (if x = 0 then m0 else m1) else n) d tx rt rn cd su bk co mo m0 m1 kp) [.ref (a 0), .int x] (.returned (some (.int (gbR kp x)))) := by
  refine mX.of (cc := cX9_goBack) (maxL := 2) (ret := (some .int)) (by decide) rfl (Nat.le_of_ble_eq_true rfl) ?_
  intro zp ze zs zm zb zt zc ls A hAe C hP hK hD hS hl
  obtain ⟨hx, hb, hr, hml, hown, hts, hlk⟩ := id C
  have hl : lv_has ls 2 [(0, .ref (a 0)), (1, .int x)] := hl
  have k0 := hts (.constant RX9 155 (-1000000001)) (by decide +kernel)
  have k1 := hts (.fieldLink RX9 72 "DebtDowry" "images" "[LDebtDowry$Image;") (by decide +kernel)
  have k2 := (fun w h => by revert w; decide +kernel : ∀ w ∈ wsX90, w ∈ wsX9_goBack)
  have k3 := hts (.fieldLink RX9 113 "DebtDowry$Image" "kept" "Z") (by decide +kernel)
  have k4 := (fun w h => by revert w; decide +kernel : ∀ w ∈ wsX30, w ∈ wsX9_goBack)
  have k5 := hts (.fieldLink RX9 28 "DebtDowry" "now" "LDebtDowry$State;") (by decide +kernel)
  have k6 := hts (.fieldLink RX9 318 "DebtDowry$Image" "state" "LDebtDowry$State;") (by decide +kernel)
  have k7 := hts (.fieldLink RX9 319 "DebtDowry$Image" "luck" "I") (by decide +kernel)
  have k8 := hts (.fieldLink RX9 77 "DebtDowry" "luck" "I") (by decide +kernel)
  have k9 := hts (.fieldLink RX9 38 "DebtDowry" "history" "LDebtDowry$History;") (by decide +kernel)
  have k10 := hts (.constant RX9 206 (-1000000003)) (by decide +kernel)
  refine lv_iload_n hx hb dX9_goBack_0 rfl (lv_at hl 1 rfl) ?_
  refine lv_if_lt (tgt := 9) hx hb dX9_goBack_1 (by decide) (fun cq1 => ?_) (fun cq1 => ?_)
  · skip
    have hno : ¬ inB x 0 1 := fun z => i32_nle.mpr cq1 z.1
    refine lv_ldc hx hb hown k0 dX9_goBack_9 ?_
    have hP : va_P G.1 vwCl (dW G a ra s em (if okGb kp x then upd (upd i 8 (if x = 0 then eo 1 else eo 2)) 5 0 else i) eo es t (if okGb kp x then (if x = 0 then m0 else m1) else n) d tx rt rn cd su bk co mo m0 m1 kp) zs.heap := by rw [show (if okGb kp x then upd (upd i 8 (if x = 0 then eo 1 else eo 2)) 5 0 else i) = i from (if_neg (fun z => hno z.1)), show (if okGb kp x then (if x = 0 then m0 else m1) else n) = n from (if_neg (fun z => hno z.1))]; exact hP
    exact mX_iret hAe C hP hS dX9_goBack_11 (by unfold gbR; rw [if_pos hno])
  · skip
    have hinl := i32_nlt.mp cq1
    refine lv_iload_n hx hb dX9_goBack_4 rfl (lv_at hl 1 rfl) ?_
    refine lv_iconst (v := 2) hx hb dX9_goBack_5 (by decide) ?_
    refine lv_icmp_lt (tgt := 12) hx hb dX9_goBack_6 (by decide) (fun cq2 => ?_) (fun cq2 => ?_)
    · skip
      have hinh := cq2
      have hin : inB x 0 1 := ⟨hinl, im_le hinh⟩
      rcases (show x = 0 ∨ x = 1 from im_01 hin) with rfl | rfl
      · skip
        have hcl_k : cl (0 : Int32) = 0 := by decide
        have hx0 : (0 : Int32) = 0 := rfl
        refine lv_aload_n hx hb dX9_goBack_12 rfl (lv_at hl 0 rfl) ?_
        refine va_get (D := G.1) (ci := 9) (v := .ref (a 41)) (C := RX9) (T := TX9) (N := 11) hx hb hts k2 hown hK hP 0 rfl rfl 9 (by decide) k1 (fun _ h9 => h9) rfl dX9_goBack_13 ?_
        refine lv_iload_n hx hb dX9_goBack_16 rfl (lv_at hl 1 rfl) ?_
        refine n_aald hx hb hK hP 41 3 rfl rfl (j := 0) (r := (a 42)) rfl (by decide) (by decide) (rfl) dX9_goBack_17 ?_
        refine va_get (D := G.1) (ci := 3) (v := .int (kp 0)) (C := RX3) (T := TX3) (N := 3) hx hb hts k4 hown hK hP 42 rfl rfl 2 (by decide) k3 (fun _ h9 => h9) rfl dX9_goBack_18 ?_
        refine lv_if_ne (tgt := 27) hx hb dX9_goBack_21 (by decide) (fun cq3 => ?_) (fun cq3 => ?_)
        · skip
          have hz : ¬ kp (cl (0 : Int32)) = 0 := by rw [hcl_k]; exact cq3
          refine lv_aload_n hx hb dX9_goBack_27 rfl (lv_at hl 0 rfl) ?_
          refine va_get (D := G.1) (ci := 9) (v := .ref (a 5)) (C := RX9) (T := TX9) (N := 11) hx hb hts k2 hown hK hP 0 rfl rfl 2 (by decide) k5 (fun _ h9 => h9) rfl dX9_goBack_28 ?_
          refine lv_aload_n hx hb dX9_goBack_31 rfl (lv_at hl 0 rfl) ?_
          refine va_get (D := G.1) (ci := 9) (v := .ref (a 41)) (C := RX9) (T := TX9) (N := 11) hx hb hts k2 hown hK hP 0 rfl rfl 9 (by decide) k1 (fun _ h9 => h9) rfl dX9_goBack_32 ?_
          refine lv_iload_n hx hb dX9_goBack_35 rfl (lv_at hl 1 rfl) ?_
          refine n_aald hx hb hK hP 41 3 rfl rfl (j := 0) (r := (a 42)) rfl (by decide) (by decide) (rfl) dX9_goBack_36 ?_
          refine va_get (D := G.1) (ci := 3) (v := .ref (a 43)) (C := RX3) (T := TX3) (N := 3) hx hb hts k4 hown hK hP 42 rfl rfl 0 (by decide) k6 (fun _ h9 => h9) rfl dX9_goBack_37 ?_
          refine cX_V (Cn := RX7) (n := 1) (As := [.ref (a 43)]) (rest := []) (wsn := dW G a ra s em i eo es t m0 d tx rt rn cd su bk co mo m0 m1 kp) C (c_X7_take l G (a 5) (a 6) (a 7) (a 8) (a 9) (a 43) (a 44) (a 45) (a 46) (a 47) (a 1) (a 1) n m0   ) gX9_goBack_X7_take rfl ⟨rfl, rfl⟩ hd_X7_take ⟨(Nat.le_of_ble_eq_true rfl), (Nat.le_of_ble_eq_true rfl)⟩ hK hP hD hS [5, 6, 7, 8, 9, 43, 44, 45, 46, 47] (by decide) rfl (s2W_f.trans s2W_f.symm) rfl (dW_f.trans dW_f.symm) (va_recv hK hP (ci := 7) (q0 := 5) rfl rfl) rfl hl.1 rfl (Nat.le_of_ble_eq_true rfl) dX9_goBack_40 ⟨(Nat.le_of_ble_eq_true rfl), (Nat.le_of_ble_eq_true rfl)⟩ (fun H locs hP hD hS => ?_)
          refine lv_aload_n hx hb dX9_goBack_43 rfl (lv_at hl 0 rfl) ?_
          refine lv_aload_n hx hb dX9_goBack_44 rfl (lv_at hl 0 rfl) ?_
          refine va_get (D := G.1) (ci := 9) (v := .ref (a 41)) (C := RX9) (T := TX9) (N := 11) hx hb hts k2 hown hK hP 0 rfl rfl 9 (by decide) k1 (fun _ h9 => h9) rfl dX9_goBack_45 ?_
          refine lv_iload_n hx hb dX9_goBack_48 rfl (lv_at hl 1 rfl) ?_
          refine n_aald hx hb hK hP 41 3 rfl rfl (j := 0) (r := (a 42)) rfl (by decide) (by decide) (rfl) dX9_goBack_49 ?_
          refine va_get (D := G.1) (ci := 3) (v := .int (eo 1)) (C := RX3) (T := TX3) (N := 3) hx hb hts k4 hown hK hP 42 rfl rfl 1 (by decide) k7 (fun _ h9 => h9) rfl dX9_goBack_50 ?_
          refine n_putQ (D := G.1) (wsn := dW G a ra s em (upd i 8 (eo 1)) eo es t m0 d tx rt rn cd su bk co mo m0 m1 kp) (ci := 9) (v := .int (eo 1)) (ty := .int) (C := RX9) (T := TX9) (N := 11) hx hb hts k2 tyX9 tyX9_ok nmX9 hown hK hP hD hS 0 rfl rfl 10 (by decide) k8 (fun _ h9 => h9) rfl (by decide +kernel) rfl rfl (Nat.le_of_ble_eq_true rfl) dW_p0_10 dX9_goBack_53 (fun H locs hP hD hS => ?_)
          refine lv_aload_n hx hb dX9_goBack_56 rfl (lv_at hl 0 rfl) ?_
          refine va_get (D := G.1) (ci := 9) (v := .ref (a 26)) (C := RX9) (T := TX9) (N := 11) hx hb hts k2 hown hK hP 0 rfl rfl 4 (by decide) k9 (fun _ h9 => h9) rfl dX9_goBack_57 ?_
          refine cX_V (Cn := RX2) (n := 0) (As := []) (rest := []) (wsn := dW G a ra s em (upd (upd i 8 (eo 1)) 5 0) eo es t m0 d tx rt rn cd su bk co mo m0 m1 kp) C (c_X2_forget l G (a 26) (a 27) (upd i 8 (eo 1)) eo   ) gX9_goBack_X2_forget rfl ⟨rfl, rfl⟩ hd_X2_forget ⟨(Nat.le_of_ble_eq_true rfl), (Nat.le_of_ble_eq_true rfl)⟩ hK hP hD hS [26] (by decide) rfl (hfW_f.trans hfW_f.symm) rfl (dW_f.trans dW_f.symm) (va_recv hK hP (ci := 2) (q0 := 26) rfl rfl) rfl hl.1 rfl (Nat.le_of_ble_eq_true rfl) dX9_goBack_60 ⟨(Nat.le_of_ble_eq_true rfl), (Nat.le_of_ble_eq_true rfl)⟩ (fun H locs hP hD hS => ?_)
          refine lv_iconst (v := 1) hx hb dX9_goBack_63 (by decide) ?_
          have hP : va_P G.1 vwCl (dW G a ra s em (if okGb kp 0 then upd (upd i 8 (if 0 = 0 then eo 1 else eo 2)) 5 0 else i) eo es t (if okGb kp 0 then (if 0 = 0 then m0 else m1) else n) d tx rt rn cd su bk co mo m0 m1 kp) H := by rw [show (if okGb kp 0 then upd (upd i 8 (if 0 = 0 then eo 1 else eo 2)) 5 0 else i) = (upd (upd i 8 (eo 1)) 5 0) from by rw [if_pos ⟨hin, hz⟩]; first | rw [if_pos rfl] | rw [if_neg (by decide)], show (if okGb kp 0 then (if 0 = 0 then m0 else m1) else n) = m0 from by rw [if_pos ⟨hin, hz⟩]; first | rw [if_pos rfl] | rw [if_neg (by decide)]]; exact hP
          exact mX_iret hAe C hP hS dX9_goBack_64 (by unfold gbR; rw [if_neg (not_not_intro hin), if_neg hz])
        · skip
          have hz : kp (cl (0 : Int32)) = 0 := by rw [hcl_k]; exact cq3
          refine lv_ldc hx hb hown k10 dX9_goBack_24 ?_
          have hP : va_P G.1 vwCl (dW G a ra s em (if okGb kp 0 then upd (upd i 8 (if 0 = 0 then eo 1 else eo 2)) 5 0 else i) eo es t (if okGb kp 0 then (if 0 = 0 then m0 else m1) else n) d tx rt rn cd su bk co mo m0 m1 kp) zs.heap := by rw [show (if okGb kp 0 then upd (upd i 8 (if 0 = 0 then eo 1 else eo 2)) 5 0 else i) = i from (if_neg (fun z => z.2 hz)), show (if okGb kp 0 then (if 0 = 0 then m0 else m1) else n) = n from (if_neg (fun z => z.2 hz))]; exact hP
          exact mX_iret hAe C hP hS dX9_goBack_26 (by unfold gbR; rw [if_neg (not_not_intro hin), if_pos hz])
      · skip
        have hcl_k : cl (1 : Int32) = 1 := by decide
        have hx1 : (1 : Int32) = 1 := rfl
        refine lv_aload_n hx hb dX9_goBack_12 rfl (lv_at hl 0 rfl) ?_
        refine va_get (D := G.1) (ci := 9) (v := .ref (a 41)) (C := RX9) (T := TX9) (N := 11) hx hb hts k2 hown hK hP 0 rfl rfl 9 (by decide) k1 (fun _ h9 => h9) rfl dX9_goBack_13 ?_
        refine lv_iload_n hx hb dX9_goBack_16 rfl (lv_at hl 1 rfl) ?_
        refine n_aald hx hb hK hP 41 3 rfl rfl (j := 1) (r := (a 48)) rfl (by decide) (by decide) (rfl) dX9_goBack_17 ?_
        refine va_get (D := G.1) (ci := 3) (v := .int (kp 1)) (C := RX3) (T := TX3) (N := 3) hx hb hts k4 hown hK hP 48 rfl rfl 2 (by decide) k3 (fun _ h9 => h9) rfl dX9_goBack_18 ?_
        refine lv_if_ne (tgt := 27) hx hb dX9_goBack_21 (by decide) (fun cq4 => ?_) (fun cq4 => ?_)
        · skip
          have hz : ¬ kp (cl (1 : Int32)) = 0 := by rw [hcl_k]; exact cq4
          refine lv_aload_n hx hb dX9_goBack_27 rfl (lv_at hl 0 rfl) ?_
          refine va_get (D := G.1) (ci := 9) (v := .ref (a 5)) (C := RX9) (T := TX9) (N := 11) hx hb hts k2 hown hK hP 0 rfl rfl 2 (by decide) k5 (fun _ h9 => h9) rfl dX9_goBack_28 ?_
          refine lv_aload_n hx hb dX9_goBack_31 rfl (lv_at hl 0 rfl) ?_
          refine va_get (D := G.1) (ci := 9) (v := .ref (a 41)) (C := RX9) (T := TX9) (N := 11) hx hb hts k2 hown hK hP 0 rfl rfl 9 (by decide) k1 (fun _ h9 => h9) rfl dX9_goBack_32 ?_
          refine lv_iload_n hx hb dX9_goBack_35 rfl (lv_at hl 1 rfl) ?_
          refine n_aald hx hb hK hP 41 3 rfl rfl (j := 1) (r := (a 48)) rfl (by decide) (by decide) (rfl) dX9_goBack_36 ?_
          refine va_get (D := G.1) (ci := 3) (v := .ref (a 49)) (C := RX3) (T := TX3) (N := 3) hx hb hts k4 hown hK hP 48 rfl rfl 0 (by decide) k6 (fun _ h9 => h9) rfl dX9_goBack_37 ?_
          refine cX_V (Cn := RX7) (n := 1) (As := [.ref (a 49)]) (rest := []) (wsn := dW G a ra s em i eo es t m1 d tx rt rn cd su bk co mo m0 m1 kp) C (c_X7_take l G (a 5) (a 6) (a 7) (a 8) (a 9) (a 49) (a 50) (a 51) (a 52) (a 53) (a 1) (a 1) n m1   ) gX9_goBack_X7_take rfl ⟨rfl, rfl⟩ hd_X7_take ⟨(Nat.le_of_ble_eq_true rfl), (Nat.le_of_ble_eq_true rfl)⟩ hK hP hD hS [5, 6, 7, 8, 9, 49, 50, 51, 52, 53] (by decide) rfl (s2W_f.trans s2W_f.symm) rfl (dW_f.trans dW_f.symm) (va_recv hK hP (ci := 7) (q0 := 5) rfl rfl) rfl hl.1 rfl (Nat.le_of_ble_eq_true rfl) dX9_goBack_40 ⟨(Nat.le_of_ble_eq_true rfl), (Nat.le_of_ble_eq_true rfl)⟩ (fun H locs hP hD hS => ?_)
          refine lv_aload_n hx hb dX9_goBack_43 rfl (lv_at hl 0 rfl) ?_
          refine lv_aload_n hx hb dX9_goBack_44 rfl (lv_at hl 0 rfl) ?_
          refine va_get (D := G.1) (ci := 9) (v := .ref (a 41)) (C := RX9) (T := TX9) (N := 11) hx hb hts k2 hown hK hP 0 rfl rfl 9 (by decide) k1 (fun _ h9 => h9) rfl dX9_goBack_45 ?_
          refine lv_iload_n hx hb dX9_goBack_48 rfl (lv_at hl 1 rfl) ?_
          refine n_aald hx hb hK hP 41 3 rfl rfl (j := 1) (r := (a 48)) rfl (by decide) (by decide) (rfl) dX9_goBack_49 ?_
          refine va_get (D := G.1) (ci := 3) (v := .int (eo 2)) (C := RX3) (T := TX3) (N := 3) hx hb hts k4 hown hK hP 48 rfl rfl 1 (by decide) k7 (fun _ h9 => h9) rfl dX9_goBack_50 ?_
          refine n_putQ (D := G.1) (wsn := dW G a ra s em (upd i 8 (eo 2)) eo es t m1 d tx rt rn cd su bk co mo m0 m1 kp) (ci := 9) (v := .int (eo 2)) (ty := .int) (C := RX9) (T := TX9) (N := 11) hx hb hts k2 tyX9 tyX9_ok nmX9 hown hK hP hD hS 0 rfl rfl 10 (by decide) k8 (fun _ h9 => h9) rfl (by decide +kernel) rfl rfl (Nat.le_of_ble_eq_true rfl) dW_p0_10 dX9_goBack_53 (fun H locs hP hD hS => ?_)
          refine lv_aload_n hx hb dX9_goBack_56 rfl (lv_at hl 0 rfl) ?_
          refine va_get (D := G.1) (ci := 9) (v := .ref (a 26)) (C := RX9) (T := TX9) (N := 11) hx hb hts k2 hown hK hP 0 rfl rfl 4 (by decide) k9 (fun _ h9 => h9) rfl dX9_goBack_57 ?_
          refine cX_V (Cn := RX2) (n := 0) (As := []) (rest := []) (wsn := dW G a ra s em (upd (upd i 8 (eo 2)) 5 0) eo es t m1 d tx rt rn cd su bk co mo m0 m1 kp) C (c_X2_forget l G (a 26) (a 27) (upd i 8 (eo 2)) eo   ) gX9_goBack_X2_forget rfl ⟨rfl, rfl⟩ hd_X2_forget ⟨(Nat.le_of_ble_eq_true rfl), (Nat.le_of_ble_eq_true rfl)⟩ hK hP hD hS [26] (by decide) rfl (hfW_f.trans hfW_f.symm) rfl (dW_f.trans dW_f.symm) (va_recv hK hP (ci := 2) (q0 := 26) rfl rfl) rfl hl.1 rfl (Nat.le_of_ble_eq_true rfl) dX9_goBack_60 ⟨(Nat.le_of_ble_eq_true rfl), (Nat.le_of_ble_eq_true rfl)⟩ (fun H locs hP hD hS => ?_)
          refine lv_iconst (v := 1) hx hb dX9_goBack_63 (by decide) ?_
          have hP : va_P G.1 vwCl (dW G a ra s em (if okGb kp 1 then upd (upd i 8 (if 1 = 0 then eo 1 else eo 2)) 5 0 else i) eo es t (if okGb kp 1 then (if 1 = 0 then m0 else m1) else n) d tx rt rn cd su bk co mo m0 m1 kp) H := by rw [show (if okGb kp 1 then upd (upd i 8 (if 1 = 0 then eo 1 else eo 2)) 5 0 else i) = (upd (upd i 8 (eo 2)) 5 0) from by rw [if_pos ⟨hin, hz⟩]; first | rw [if_pos rfl] | rw [if_neg (by decide)], show (if okGb kp 1 then (if 1 = 0 then m0 else m1) else n) = m1 from by rw [if_pos ⟨hin, hz⟩]; first | rw [if_pos rfl] | rw [if_neg (by decide)]]; exact hP
          exact mX_iret hAe C hP hS dX9_goBack_64 (by unfold gbR; rw [if_neg (not_not_intro hin), if_neg hz])
        · skip
          have hz : kp (cl (1 : Int32)) = 0 := by rw [hcl_k]; exact cq4
          refine lv_ldc hx hb hown k10 dX9_goBack_24 ?_
          have hP : va_P G.1 vwCl (dW G a ra s em (if okGb kp 1 then upd (upd i 8 (if 1 = 0 then eo 1 else eo 2)) 5 0 else i) eo es t (if okGb kp 1 then (if 1 = 0 then m0 else m1) else n) d tx rt rn cd su bk co mo m0 m1 kp) zs.heap := by rw [show (if okGb kp 1 then upd (upd i 8 (if 1 = 0 then eo 1 else eo 2)) 5 0 else i) = i from (if_neg (fun z => z.2 hz)), show (if okGb kp 1 then (if 1 = 0 then m0 else m1) else n) = n from (if_neg (fun z => z.2 hz))]; exact hP
          exact mX_iret hAe C hP hS dX9_goBack_26 (by unfold gbR; rw [if_neg (not_not_intro hin), if_pos hz])
    · skip
      have hno : ¬ inB x 0 1 := fun z => cq2 (im_lt z.2)
      refine lv_ldc hx hb hown k0 dX9_goBack_9 ?_
      have hP : va_P G.1 vwCl (dW G a ra s em (if okGb kp x then upd (upd i 8 (if x = 0 then eo 1 else eo 2)) 5 0 else i) eo es t (if okGb kp x then (if x = 0 then m0 else m1) else n) d tx rt rn cd su bk co mo m0 m1 kp) zs.heap := by rw [show (if okGb kp x then upd (upd i 8 (if x = 0 then eo 1 else eo 2)) 5 0 else i) = i from (if_neg (fun z => hno z.1)), show (if okGb kp x then (if x = 0 then m0 else m1) else n) = n from (if_neg (fun z => hno z.1))]; exact hP
      exact mX_iret hAe C hP hS dX9_goBack_11 (by unfold gbR; rw [if_pos hno])
