theorem hd_X9_fault : yX9_fault.cls = RX9 ∧ yX9_fault.cls ≠ "java/lang/invoke/MethodHandle" ∧ yX9_fault.cls ≠ "java/lang/invoke/VarHandle" ∧ (parseMethodDescriptor yX9_fault.desc).map (fun d => d.parameters.length) = some 0 := by decide +kernel
set_option maxRecDepth 100000 in
set_option maxHeartbeats 4000000 in
theorem c_X9_fault (l : Launch) (G : gG) (a : Nat → Nat) (ra : Nat → Nat → Nat) (s : RSt) (em : Int32) (i : Nat → Int32) (eo : Nat → Int32) (es : Nat → Int32) (t : Nat → Int32) (n : Nat → Int32) (d : Nat → Int32) (tx : Nat → Int32) (rt : Nat → Int32) (rn : Nat → Int32) (cd : Nat → Int32) (su : Nat → Int32) (bk : Nat → Int32) (co : Nat → Int32) (mo : Nat → Int32) (m0 : Nat → Int32) (m1 : Nat → Int32) (kp : Nat → Int32) : mR l yX9_fault wsX9_fault ({ frames := 0, cells := 0, slots := 0, locals := 0 }) G (dW G a ra s em i eo es t n d tx rt rn cd su bk co mo m0 m1 kp) [.ref (a 0)] s.2.2 := by
  refine mR.of (cc := cX9_fault) (maxL := 1) (ret := (some .int)) (by decide) rfl (Nat.le_of_ble_eq_true rfl) ?_
  intro zp ze zs zm zb zt zc ls C hP hK hl
  obtain ⟨hx, hb, hr, hml, hown, hts, hlk⟩ := id C
  have hl : lv_has ls 1 [(0, .ref (a 0))] := hl
  have k0 := hts (.fieldLink RX9 10 "DebtDowry" "reader" "LDebtDowry$Reader;") (by decide +kernel)
  have k1 := (fun w h => by revert w; decide +kernel : ∀ w ∈ wsX90, w ∈ wsX9_fault)
  have k2 := hts (.fieldLink RX9 120 "DebtDowry$Reader" "faultAt" "I") (by decide +kernel)
  have k3 := (fun w h => by revert w; decide +kernel : ∀ w ∈ wsX60, w ∈ wsX9_fault)
  refine lv_aload_n hx hb dX9_fault_0 rfl (lv_at hl 0 rfl) ?_
  refine va_get (D := G.1) (ci := 9) (v := .ref (a 15)) (C := RX9) (T := TX9) (N := 11) hx hb hts k1 hown hK hP 0 rfl rfl 0 (by decide) k0 (fun _ h9 => h9) rfl dX9_fault_1 ?_
  refine va_get (D := G.1) (ci := 6) (v := .int s.2.2) (C := RX6) (T := TX6) (N := 8) hx hb hts k3 hown hK hP 15 rfl rfl 5 (by decide) k2 (fun _ h9 => h9) rfl dX9_fault_4 ?_
  exact mR_iret C dX9_fault_7 (rfl)
theorem hd_X9_told : yX9_told.cls = RX9 ∧ yX9_told.cls ≠ "java/lang/invoke/MethodHandle" ∧ yX9_told.cls ≠ "java/lang/invoke/VarHandle" ∧ (parseMethodDescriptor yX9_told.desc).map (fun d => d.parameters.length) = some 1 := by decide +kernel
set_option maxRecDepth 100000 in
set_option maxHeartbeats 4000000 in
theorem c_X9_told (l : Launch) (G : gG) (a : Nat → Nat) (ra : Nat → Nat → Nat) (s : RSt) (em : Int32) (i : Nat → Int32) (eo : Nat → Int32) (es : Nat → Int32) (t : Nat → Int32) (n : Nat → Int32) (d : Nat → Int32) (tx : Nat → Int32) (rt : Nat → Int32) (rn : Nat → Int32) (cd : Nat → Int32) (su : Nat → Int32) (bk : Nat → Int32) (co : Nat → Int32) (mo : Nat → Int32) (m0 : Nat → Int32) (m1 : Nat → Int32) (kp : Nat → Int32) (nc : Nat) (np : Nat) (x : Int32) (hTT : okT t nc np) (hO : okS t n nc np) : mR l yX9_told wsX9_told ({ frames := 3, cells := 0, slots := 0, locals := 67 }) G (dW G a ra s em i eo es t n d tx rt rn cd su bk co mo m0 m1 kp) [.ref (a 0), .int x] (toldC i t n np x) := by
  refine mR.of (cc := cX9_told) (maxL := 2) (ret := (some .int)) (by decide) rfl (Nat.le_of_ble_eq_true rfl) ?_
  intro zp ze zs zm zb zt zc ls C hP hK hl
  obtain ⟨hx, hb, hr, hml, hown, hts, hlk⟩ := id C
  have hl : lv_has ls 2 [(0, .ref (a 0)), (1, .int x)] := hl
  have hT := hTT.1
  have hT2 := hT.2.2
  have hG := okT_G hTT
  have hLH := okT_L hTT
  have k0 := hts (.constant RX9 81 (-1000000002)) (by decide +kernel)
  have k1 := hts (.fieldLink RX9 19 "DebtDowry" "terms" "LDebtDowry$Terms;") (by decide +kernel)
  have k2 := (fun w h => by revert w; decide +kernel : ∀ w ∈ wsX90, w ∈ wsX9_told)
  have k3 := hts (.fieldLink RX9 123 "DebtDowry$Terms" "there" "Z") (by decide +kernel)
  have k4 := (fun w h => by revert w; decide +kernel : ∀ w ∈ wsX80, w ∈ wsX9_told)
  have k5 := hts (.fieldLink RX9 126 "DebtDowry$Terms" "interest" "I") (by decide +kernel)
  have k6 := hts (.fieldLink RX9 129 "DebtDowry$Terms" "mildness" "I") (by decide +kernel)
  have k7 := hts (.fieldLink RX9 132 "DebtDowry$Terms" "creditors" "I") (by decide +kernel)
  have k8 := hts (.fieldLink RX9 117 "DebtDowry$Terms" "persons" "I") (by decide +kernel)
  have k9 := hts (.fieldLink RX9 10 "DebtDowry" "reader" "LDebtDowry$Reader;") (by decide +kernel)
  have k10 := hts (.fieldLink RX9 86 "DebtDowry$Reader" "length" "I") (by decide +kernel)
  have k11 := (fun w h => by revert w; decide +kernel : ∀ w ∈ wsX60, w ∈ wsX9_told)
  have k12 := hts (.fieldLink RX9 28 "DebtDowry" "now" "LDebtDowry$State;") (by decide +kernel)
  have k13 := hts (.fieldLink RX9 135 "DebtDowry$State" "quarters" "I") (by decide +kernel)
  have k14 := (fun w h => by revert w; decide +kernel : ∀ w ∈ wsX70, w ∈ wsX9_told)
  have k15 := hts (.fieldLink RX9 138 "DebtDowry$Terms" "girls" "I") (by decide +kernel)
  have k16 := hts (.fieldLink RX9 145 "DebtDowry$State" "failed" "I") (by decide +kernel)
  have k17 := hts (.fieldLink RX9 59 "DebtDowry" "cards" "LDebtDowry$Cards;") (by decide +kernel)
  have k18 := hts (.fieldLink RX9 109 "DebtDowry$Cards" "count" "I") (by decide +kernel)
  have k19 := (fun w h => by revert w; decide +kernel : ∀ w ∈ wsX10, w ∈ wsX9_told)
  have k20 := hts (.fieldLink RX9 66 "DebtDowry" "book" "LDebtDowry$Book;") (by decide +kernel)
  have k21 := hts (.fieldLink RX9 112 "DebtDowry$Book" "count" "I") (by decide +kernel)
  have k22 := (fun w h => by revert w; decide +kernel : ∀ w ∈ wsX00, w ∈ wsX9_told)
  have k23 := hts (.fieldLink RX9 38 "DebtDowry" "history" "LDebtDowry$History;") (by decide +kernel)
  have k24 := hts (.fieldLink RX9 151 "DebtDowry$History" "count" "I") (by decide +kernel)
  have k25 := (fun w h => by revert w; decide +kernel : ∀ w ∈ wsX20, w ∈ wsX9_told)
  refine lv_iload_n hx hb dX9_told_0 rfl (lv_at hl 1 rfl) ?_
  by_cases cq1 : x.toInt < 0 ∨ 13 < x.toInt
  · refine lv_tableOut (tgt := 192) hx hb dX9_told_1 cq1 (by decide) ?_
    refine lv_ldc hx hb hown k0 dX9_told_192 ?_
    exact mR_iret C dX9_told_194 (by unfold toldC toldR; rw [if_neg (sw_out cq1 (k := 8) (by decide) (by decide)), if_neg (sw_out cq1 (k := 0) (by decide) (by decide)), if_neg (sw_out cq1 (k := 1) (by decide) (by decide)), if_neg (sw_out cq1 (k := 2) (by decide) (by decide)), if_neg (sw_out cq1 (k := 3) (by decide) (by decide)), if_neg (sw_out cq1 (k := 4) (by decide) (by decide)), if_neg (sw_out cq1 (k := 5) (by decide) (by decide)), if_neg (sw_out cq1 (k := 6) (by decide) (by decide)), if_neg (sw_out cq1 (k := 7) (by decide) (by decide)), if_neg (sw_out cq1 (k := 8) (by decide) (by decide)), if_neg (sw_out cq1 (k := 9) (by decide) (by decide)), if_neg (sw_out cq1 (k := 10) (by decide) (by decide)), if_neg (sw_out cq1 (k := 11) (by decide) (by decide)), if_neg (sw_out cq1 (k := 12) (by decide) (by decide)), if_neg (sw_out cq1 (k := 13) (by decide) (by decide))])
  · obtain ⟨j, hj1, hj2⟩ : ∃ j : Nat, j < 14 ∧ x.toInt = 0 + (j : Int) := ⟨(x.toInt - 0).toNat, by omega, by omega⟩
    rcases (show j = 0 ∨ j = 1 ∨ j = 2 ∨ j = 3 ∨ j = 4 ∨ j = 5 ∨ j = 6 ∨ j = 7 ∨ j = 8 ∨ j = 9 ∨ j = 10 ∨ j = 11 ∨ j = 12 ∨ j = 13 by omega) with rfl | rfl | rfl | rfl | rfl | rfl | rfl | rfl | rfl | rfl | rfl | rfl | rfl | rfl
    · have cq16 : x = 0 := by apply Int32.toInt_inj.mp; rw [hj2]; decide
      refine lv_tableIn (tgt := 72) hx hb dX9_told_1 (by omega) (by omega) (by rw [hj2]; rfl) (by decide) ?_
      refine lv_aload_n hx hb dX9_told_72 rfl (lv_at hl 0 rfl) ?_
      refine va_get (D := G.1) (ci := 9) (v := .ref (a 1)) (C := RX9) (T := TX9) (N := 11) hx hb hts k2 hown hK hP 0 rfl rfl 1 (by decide) k1 (fun _ h9 => h9) rfl dX9_told_73 ?_
      refine va_get (D := G.1) (ci := 8) (v := .int (t 0)) (C := RX8) (T := TX8) (N := 9) hx hb hts k4 hown hK hP 1 rfl rfl 0 (by decide) k3 (fun _ h9 => h9) rfl dX9_told_76 ?_
      refine lv_if_eq (tgt := 86) hx hb dX9_told_79 (by decide) (fun cq17 => ?_) (fun cq17 => ?_)
      · skip
        refine lv_iconst (v := 0) hx hb dX9_told_86 (by decide) ?_
        exact mR_iret C dX9_told_87 (by rw [toldC, if_neg (by rw [cq16]; decide), toldR, if_pos cq16]; exact cq17.symm)
      · skip
        refine lv_iconst (v := 1) hx hb dX9_told_82 (by decide) ?_
        refine lv_goto (tgt := 87) hx hb dX9_told_83 (by decide) ?_
        exact mR_iret C dX9_told_87 (by rw [toldC, if_neg (by rw [cq16]; decide), toldR, if_pos cq16]; exact (hTT.2.2.2.1.resolve_left cq17).symm)
    · have cq18 : x = 1 := by apply Int32.toInt_inj.mp; rw [hj2]; decide
      refine lv_tableIn (tgt := 88) hx hb dX9_told_1 (by omega) (by omega) (by rw [hj2]; rfl) (by decide) ?_
      refine lv_aload_n hx hb dX9_told_88 rfl (lv_at hl 0 rfl) ?_
      refine va_get (D := G.1) (ci := 9) (v := .ref (a 1)) (C := RX9) (T := TX9) (N := 11) hx hb hts k2 hown hK hP 0 rfl rfl 1 (by decide) k1 (fun _ h9 => h9) rfl dX9_told_89 ?_
      refine va_get (D := G.1) (ci := 8) (v := .int (t 1)) (C := RX8) (T := TX8) (N := 9) hx hb hts k4 hown hK hP 1 rfl rfl 1 (by decide) k5 (fun _ h9 => h9) rfl dX9_told_92 ?_
      exact mR_iret C dX9_told_95 (by rw [cq18]; rfl)
    · have cq19 : x = 2 := by apply Int32.toInt_inj.mp; rw [hj2]; decide
      refine lv_tableIn (tgt := 96) hx hb dX9_told_1 (by omega) (by omega) (by rw [hj2]; rfl) (by decide) ?_
      refine lv_aload_n hx hb dX9_told_96 rfl (lv_at hl 0 rfl) ?_
      refine va_get (D := G.1) (ci := 9) (v := .ref (a 1)) (C := RX9) (T := TX9) (N := 11) hx hb hts k2 hown hK hP 0 rfl rfl 1 (by decide) k1 (fun _ h9 => h9) rfl dX9_told_97 ?_
      refine va_get (D := G.1) (ci := 8) (v := .int (t 2)) (C := RX8) (T := TX8) (N := 9) hx hb hts k4 hown hK hP 1 rfl rfl 2 (by decide) k6 (fun _ h9 => h9) rfl dX9_told_100 ?_
      exact mR_iret C dX9_told_103 (by rw [cq19]; rfl)
    · have cq20 : x = 3 := by apply Int32.toInt_inj.mp; rw [hj2]; decide
      refine lv_tableIn (tgt := 104) hx hb dX9_told_1 (by omega) (by omega) (by rw [hj2]; rfl) (by decide) ?_
      refine lv_aload_n hx hb dX9_told_104 rfl (lv_at hl 0 rfl) ?_
      refine va_get (D := G.1) (ci := 9) (v := .ref (a 1)) (C := RX9) (T := TX9) (N := 11) hx hb hts k2 hown hK hP 0 rfl rfl 1 (by decide) k1 (fun _ h9 => h9) rfl dX9_told_105 ?_
      refine va_get (D := G.1) (ci := 8) (v := .int (t 3)) (C := RX8) (T := TX8) (N := 9) hx hb hts k4 hown hK hP 1 rfl rfl 3 (by decide) k7 (fun _ h9 => h9) rfl dX9_told_108 ?_
      exact mR_iret C dX9_told_111 (by rw [cq20]; rfl)
    · have cq21 : x = 4 := by apply Int32.toInt_inj.mp; rw [hj2]; decide
      refine lv_tableIn (tgt := 112) hx hb dX9_told_1 (by omega) (by omega) (by rw [hj2]; rfl) (by decide) ?_
      refine lv_aload_n hx hb dX9_told_112 rfl (lv_at hl 0 rfl) ?_
      refine va_get (D := G.1) (ci := 9) (v := .ref (a 1)) (C := RX9) (T := TX9) (N := 11) hx hb hts k2 hown hK hP 0 rfl rfl 1 (by decide) k1 (fun _ h9 => h9) rfl dX9_told_113 ?_
      refine va_get (D := G.1) (ci := 8) (v := .int (t 4)) (C := RX8) (T := TX8) (N := 9) hx hb hts k4 hown hK hP 1 rfl rfl 4 (by decide) k8 (fun _ h9 => h9) rfl dX9_told_116 ?_
      exact mR_iret C dX9_told_119 (by rw [cq21]; rfl)
    · have cq22 : x = 5 := by apply Int32.toInt_inj.mp; rw [hj2]; decide
      refine lv_tableIn (tgt := 120) hx hb dX9_told_1 (by omega) (by omega) (by rw [hj2]; rfl) (by decide) ?_
      refine lv_aload_n hx hb dX9_told_120 rfl (lv_at hl 0 rfl) ?_
      refine va_get (D := G.1) (ci := 9) (v := .ref (a 15)) (C := RX9) (T := TX9) (N := 11) hx hb hts k2 hown hK hP 0 rfl rfl 0 (by decide) k9 (fun _ h9 => h9) rfl dX9_told_121 ?_
      refine va_get (D := G.1) (ci := 6) (v := .int (i 10)) (C := RX6) (T := TX6) (N := 8) hx hb hts k11 hown hK hP 15 rfl rfl 3 (by decide) k10 (fun _ h9 => h9) rfl dX9_told_124 ?_
      exact mR_iret C dX9_told_127 (by rw [cq22]; rfl)
    · have cq23 : x = 6 := by apply Int32.toInt_inj.mp; rw [hj2]; decide
      refine lv_tableIn (tgt := 128) hx hb dX9_told_1 (by omega) (by omega) (by rw [hj2]; rfl) (by decide) ?_
      refine lv_aload_n hx hb dX9_told_128 rfl (lv_at hl 0 rfl) ?_
      refine va_get (D := G.1) (ci := 9) (v := .ref (a 5)) (C := RX9) (T := TX9) (N := 11) hx hb hts k2 hown hK hP 0 rfl rfl 2 (by decide) k12 (fun _ h9 => h9) rfl dX9_told_129 ?_
      refine va_get (D := G.1) (ci := 7) (v := .int (n 53)) (C := RX7) (T := TX7) (N := 7) hx hb hts k14 hown hK hP 5 rfl rfl 6 (by decide) k13 (fun _ h9 => h9) rfl dX9_told_132 ?_
      exact mR_iret C dX9_told_135 (by rw [cq23]; rfl)
    · have cq24 : x = 7 := by apply Int32.toInt_inj.mp; rw [hj2]; decide
      refine lv_tableIn (tgt := 136) hx hb dX9_told_1 (by omega) (by omega) (by rw [hj2]; rfl) (by decide) ?_
      refine lv_aload_n hx hb dX9_told_136 rfl (lv_at hl 0 rfl) ?_
      refine va_get (D := G.1) (ci := 9) (v := .ref (a 1)) (C := RX9) (T := TX9) (N := 11) hx hb hts k2 hown hK hP 0 rfl rfl 1 (by decide) k1 (fun _ h9 => h9) rfl dX9_told_137 ?_
      refine va_get (D := G.1) (ci := 8) (v := .int (t 21)) (C := RX8) (T := TX8) (N := 9) hx hb hts k4 hown hK hP 1 rfl rfl 5 (by decide) k15 (fun _ h9 => h9) rfl dX9_told_140 ?_
      exact mR_iret C dX9_told_143 (by rw [cq24]; rfl)
    · have cq25 : x = 8 := by apply Int32.toInt_inj.mp; rw [hj2]; decide
      refine lv_tableIn (tgt := 144) hx hb dX9_told_1 (by omega) (by omega) (by rw [hj2]; rfl) (by decide) ?_
      refine lv_aload_n hx hb dX9_told_144 rfl (lv_at hl 0 rfl) ?_
      refine va_get (D := G.1) (ci := 9) (v := .ref (a 5)) (C := RX9) (T := TX9) (N := 11) hx hb hts k2 hown hK hP 0 rfl rfl 2 (by decide) k12 (fun _ h9 => h9) rfl dX9_told_145 ?_
      refine cR_V (Cn := RX7) (n := 0) (As := []) (rest := []) C (c_X7_wedSet l G (a 5) (a 6) (a 7) (a 8) (a 9) (a 1) (a 2) (a 3) (a 4) t n nc np  hT) gX9_told_X7_wedSet rfl ⟨rfl, rfl⟩ hd_X7_wedSet ⟨(Nat.le_of_ble_eq_true rfl), (Nat.le_of_ble_eq_true rfl)⟩ hK (hP.sub [5, 6, 7, 8, 9, 1, 2, 3, 4] rfl) (va_recv hK hP (ci := 7) (q0 := 5) rfl rfl) rfl hl.1 rfl (Nat.le_of_ble_eq_true rfl) dX9_told_148 ⟨(Nat.le_of_ble_eq_true rfl), (Nat.le_of_ble_eq_true rfl)⟩ ?_
      exact mR_iret C dX9_told_151 (by rw [cq25]; rfl)
    · have cq26 : x = 9 := by apply Int32.toInt_inj.mp; rw [hj2]; decide
      refine lv_tableIn (tgt := 152) hx hb dX9_told_1 (by omega) (by omega) (by rw [hj2]; rfl) (by decide) ?_
      refine lv_aload_n hx hb dX9_told_152 rfl (lv_at hl 0 rfl) ?_
      refine va_get (D := G.1) (ci := 9) (v := .ref (a 5)) (C := RX9) (T := TX9) (N := 11) hx hb hts k2 hown hK hP 0 rfl rfl 2 (by decide) k12 (fun _ h9 => h9) rfl dX9_told_153 ?_
      refine va_get (D := G.1) (ci := 7) (v := .int (n 52)) (C := RX7) (T := TX7) (N := 7) hx hb hts k14 hown hK hP 5 rfl rfl 5 (by decide) k16 (fun _ h9 => h9) rfl dX9_told_156 ?_
      exact mR_iret C dX9_told_159 (by rw [cq26]; rfl)
    · have cq27 : x = 10 := by apply Int32.toInt_inj.mp; rw [hj2]; decide
      refine lv_tableIn (tgt := 160) hx hb dX9_told_1 (by omega) (by omega) (by rw [hj2]; rfl) (by decide) ?_
      refine lv_aload_n hx hb dX9_told_160 rfl (lv_at hl 0 rfl) ?_
      refine va_get (D := G.1) (ci := 9) (v := .ref (a 5)) (C := RX9) (T := TX9) (N := 11) hx hb hts k2 hown hK hP 0 rfl rfl 2 (by decide) k12 (fun _ h9 => h9) rfl dX9_told_161 ?_
      refine cR_V (Cn := RX7) (n := 0) (As := []) (rest := []) C (c_X7_owedInAll l G (a 5) (a 6) (a 7) (a 8) (a 9) (a 1) (a 2) (a 3) (a 4) t n nc np  hT) gX9_told_X7_owedInAll rfl ⟨rfl, rfl⟩ hd_X7_owedInAll ⟨(Nat.le_of_ble_eq_true rfl), (Nat.le_of_ble_eq_true rfl)⟩ hK (hP.sub [5, 6, 7, 8, 9, 1, 2, 3, 4] rfl) (va_recv hK hP (ci := 7) (q0 := 5) rfl rfl) rfl hl.1 rfl (Nat.le_of_ble_eq_true rfl) dX9_told_164 ⟨(Nat.le_of_ble_eq_true rfl), (Nat.le_of_ble_eq_true rfl)⟩ ?_
      exact mR_iret C dX9_told_167 (by rw [cq27, ← allU_8 hO hT2.1 hT2.2]; rfl)
    · have cq28 : x = 11 := by apply Int32.toInt_inj.mp; rw [hj2]; decide
      refine lv_tableIn (tgt := 168) hx hb dX9_told_1 (by omega) (by omega) (by rw [hj2]; rfl) (by decide) ?_
      refine lv_aload_n hx hb dX9_told_168 rfl (lv_at hl 0 rfl) ?_
      refine va_get (D := G.1) (ci := 9) (v := .ref (a 32)) (C := RX9) (T := TX9) (N := 11) hx hb hts k2 hown hK hP 0 rfl rfl 7 (by decide) k17 (fun _ h9 => h9) rfl dX9_told_169 ?_
      refine va_get (D := G.1) (ci := 1) (v := .int (i 13)) (C := RX1) (T := TX1) (N := 7) hx hb hts k19 hown hK hP 32 rfl rfl 4 (by decide) k18 (fun _ h9 => h9) rfl dX9_told_172 ?_
      exact mR_iret C dX9_told_175 (by rw [cq28]; rfl)
    · have cq29 : x = 12 := by apply Int32.toInt_inj.mp; rw [hj2]; decide
      refine lv_tableIn (tgt := 176) hx hb dX9_told_1 (by omega) (by omega) (by rw [hj2]; rfl) (by decide) ?_
      refine lv_aload_n hx hb dX9_told_176 rfl (lv_at hl 0 rfl) ?_
      refine va_get (D := G.1) (ci := 9) (v := .ref (a 38)) (C := RX9) (T := TX9) (N := 11) hx hb hts k2 hown hK hP 0 rfl rfl 8 (by decide) k20 (fun _ h9 => h9) rfl dX9_told_177 ?_
      refine va_get (D := G.1) (ci := 0) (v := .int (i 15)) (C := RX0) (T := TX0) (N := 3) hx hb hts k22 hown hK hP 38 rfl rfl 2 (by decide) k21 (fun _ h9 => h9) rfl dX9_told_180 ?_
      exact mR_iret C dX9_told_183 (by rw [cq29]; rfl)
    · have cq30 : x = 13 := by apply Int32.toInt_inj.mp; rw [hj2]; decide
      refine lv_tableIn (tgt := 184) hx hb dX9_told_1 (by omega) (by omega) (by rw [hj2]; rfl) (by decide) ?_
      refine lv_aload_n hx hb dX9_told_184 rfl (lv_at hl 0 rfl) ?_
      refine va_get (D := G.1) (ci := 9) (v := .ref (a 26)) (C := RX9) (T := TX9) (N := 11) hx hb hts k2 hown hK hP 0 rfl rfl 4 (by decide) k23 (fun _ h9 => h9) rfl dX9_told_185 ?_
      refine va_get (D := G.1) (ci := 2) (v := .int (i 5)) (C := RX2) (T := TX2) (N := 3) hx hb hts k25 hown hK hP 26 rfl rfl 2 (by decide) k24 (fun _ h9 => h9) rfl dX9_told_188 ?_
      exact mR_iret C dX9_told_191 (by rw [cq30]; rfl)
theorem hd_X9_creditor : yX9_creditor.cls = RX9 ∧ yX9_creditor.cls ≠ "java/lang/invoke/MethodHandle" ∧ yX9_creditor.cls ≠ "java/lang/invoke/VarHandle" ∧ (parseMethodDescriptor yX9_creditor.desc).map (fun d => d.parameters.length) = some 2 := by decide +kernel
set_option maxRecDepth 100000 in
set_option maxHeartbeats 4000000 in
theorem c_X9_creditor (l : Launch) (G : gG) (a : Nat → Nat) (i : Nat → Int32) (t : Nat → Int32) (n : Nat → Int32) (nc : Nat) (np : Nat) (c : Int32) (x : Int32) (hTT : okT t nc np) (hO : okS t n nc np) : mR l yX9_creditor wsX9_creditor ({ frames := 4, cells := 0, slots := 0, locals := 90 }) G (uW G a i t n) [.ref (a 0), .int c, .int x] (crR t n np c x) := by
  refine mR.of (cc := cX9_creditor) (maxL := 3) (ret := (some .int)) (by decide) rfl (Nat.le_of_ble_eq_true rfl) ?_
  intro zp ze zs zm zb zt zc ls C hP hK hl
  obtain ⟨hx, hb, hr, hml, hown, hts, hlk⟩ := id C
  have hl : lv_has ls 3 [(0, .ref (a 0)), (1, .int c), (2, .int x)] := hl
  have hT := hTT.1
  have hT2 := hT.2.2
  have hG := okT_G hTT
  have hLH := okT_L hTT
  have k0 := hts (.fieldLink RX9 19 "DebtDowry" "terms" "LDebtDowry$Terms;") (by decide +kernel)
  have k1 := (fun w h => by revert w; decide +kernel : ∀ w ∈ wsX90, w ∈ wsX9_creditor)
  have k2 := hts (.constant RX9 81 (-1000000002)) (by decide +kernel)
  have k3 := hts (.fieldLink RX9 28 "DebtDowry" "now" "LDebtDowry$State;") (by decide +kernel)
  have k4 := hts (.fieldLink RX9 156 "DebtDowry$State" "purse" "[I") (by decide +kernel)
  have k5 := (fun w h => by revert w; decide +kernel : ∀ w ∈ wsX70, w ∈ wsX9_creditor)
  have k6 := hts (.fieldLink RX9 160 "DebtDowry$Terms" "low" "[I") (by decide +kernel)
  have k7 := (fun w h => by revert w; decide +kernel : ∀ w ∈ wsX80, w ∈ wsX9_creditor)
  have k8 := hts (.fieldLink RX9 163 "DebtDowry$Terms" "high" "[I") (by decide +kernel)
  have k9 := hts (.fieldLink RX9 166 "DebtDowry$Terms" "great" "[I") (by decide +kernel)
  have k10 := hts (.constant RX9 155 (-1000000001)) (by decide +kernel)
  refine lv_aload_n hx hb dX9_creditor_0 rfl (lv_at hl 0 rfl) ?_
  refine va_get (D := G.1) (ci := 9) (v := .ref (a 1)) (C := RX9) (T := TX9) (N := 11) hx hb hts k1 hown hK hP 0 rfl rfl 1 (by decide) k0 (fun _ h9 => h9) rfl dX9_creditor_1 ?_
  refine lv_iload_n hx hb dX9_creditor_4 rfl (lv_at hl 1 rfl) ?_
  refine cR_V (Cn := RX8) (n := 1) (As := [.int c]) (rest := []) C (c_X8_hasCreditor l G (a 1) (a 2) (a 3) (a 4) t nc np c hT) gX9_creditor_X8_hasCreditor rfl ⟨rfl, rfl⟩ hd_X8_hasCreditor ⟨(Nat.le_of_ble_eq_true rfl), (Nat.le_of_ble_eq_true rfl)⟩ hK (hP.sub [1, 2, 3, 4] rfl) (va_recv hK hP (ci := 8) (q0 := 1) rfl rfl) rfl hl.1 rfl (Nat.le_of_ble_eq_true rfl) dX9_creditor_5 ⟨(Nat.le_of_ble_eq_true rfl), (Nat.le_of_ble_eq_true rfl)⟩ ?_
  refine b_if_ne (tgt := 14) hx hb dX9_creditor_8 (by decide) (fun cq1 => ?_) (fun cq1 => ?_)
  · skip
    obtain ⟨cc, hcc, rfl⟩ := inB_nat hT.1 (by omega) (cq1)
    have hcl_cc := cl_nI (n := cc) (by omega)
    refine lv_iload_n hx hb dX9_creditor_14 rfl (lv_at hl 2 rfl) ?_
    by_cases cq2 : x.toInt < 0 ∨ 5 < x.toInt
    · refine lv_tableOut (tgt := 112) hx hb dX9_creditor_15 cq2 (by decide) ?_
      refine lv_ldc hx hb hown k2 dX9_creditor_112 ?_
      exact mR_iret C dX9_creditor_114 (by unfold crR; rw [if_neg (not_not_intro cq1), if_neg (sw_out cq2 (k := 0) (by decide) (by decide)), if_neg (sw_out cq2 (k := 1) (by decide) (by decide)), if_neg (sw_out cq2 (k := 2) (by decide) (by decide)), if_neg (sw_out cq2 (k := 3) (by decide) (by decide)), if_neg (sw_out cq2 (k := 4) (by decide) (by decide)), if_neg (sw_out cq2 (k := 5) (by decide) (by decide))])
    · obtain ⟨j, hj1, hj2⟩ : ∃ j : Nat, j < 6 ∧ x.toInt = 0 + (j : Int) := ⟨(x.toInt - 0).toNat, by omega, by omega⟩
      rcases (show j = 0 ∨ j = 1 ∨ j = 2 ∨ j = 3 ∨ j = 4 ∨ j = 5 by omega) with rfl | rfl | rfl | rfl | rfl | rfl
      · have cq9 : x = 0 := by apply Int32.toInt_inj.mp; rw [hj2]; decide
        refine lv_tableIn (tgt := 52) hx hb dX9_creditor_15 (by omega) (by omega) (by rw [hj2]; rfl) (by decide) ?_
        refine lv_aload_n hx hb dX9_creditor_52 rfl (lv_at hl 0 rfl) ?_
        refine va_get (D := G.1) (ci := 9) (v := .ref (a 5)) (C := RX9) (T := TX9) (N := 11) hx hb hts k1 hown hK hP 0 rfl rfl 2 (by decide) k3 (fun _ h9 => h9) rfl dX9_creditor_53 ?_
        refine va_get (D := G.1) (ci := 7) (v := .ref (a 7)) (C := RX7) (T := TX7) (N := 7) hx hb hts k5 hown hK hP 5 rfl rfl 2 (by decide) k4 (fun _ h9 => h9) rfl dX9_creditor_56 ?_
        refine lv_iload_n hx hb dX9_creditor_59 rfl (lv_at hl 1 rfl) ?_
        refine n_iald hx hb hK hP 7 0 rfl rfl (j := cc) rfl (by omega) (by decide) dX9_creditor_60 ?_
        exact mR_iret C dX9_creditor_61 (by rw [cq9]; unfold crR; rw [if_neg (not_not_intro cq1)]; simp [hcl_cc])
      · have cq10 : x = 1 := by apply Int32.toInt_inj.mp; rw [hj2]; decide
        refine lv_tableIn (tgt := 62) hx hb dX9_creditor_15 (by omega) (by omega) (by rw [hj2]; rfl) (by decide) ?_
        refine lv_aload_n hx hb dX9_creditor_62 rfl (lv_at hl 0 rfl) ?_
        refine va_get (D := G.1) (ci := 9) (v := .ref (a 1)) (C := RX9) (T := TX9) (N := 11) hx hb hts k1 hown hK hP 0 rfl rfl 1 (by decide) k0 (fun _ h9 => h9) rfl dX9_creditor_63 ?_
        refine va_get (D := G.1) (ci := 8) (v := .ref (a 2)) (C := RX8) (T := TX8) (N := 9) hx hb hts k7 hown hK hP 1 rfl rfl 6 (by decide) k6 (fun _ h9 => h9) rfl dX9_creditor_66 ?_
        refine lv_iload_n hx hb dX9_creditor_69 rfl (lv_at hl 1 rfl) ?_
        refine n_iald hx hb hK hP 2 0 rfl rfl (j := cc) rfl (by omega) (by decide) dX9_creditor_70 ?_
        exact mR_iret C dX9_creditor_71 (by rw [cq10]; unfold crR; rw [if_neg (not_not_intro cq1)]; simp [hcl_cc])
      · have cq11 : x = 2 := by apply Int32.toInt_inj.mp; rw [hj2]; decide
        refine lv_tableIn (tgt := 72) hx hb dX9_creditor_15 (by omega) (by omega) (by rw [hj2]; rfl) (by decide) ?_
        refine lv_aload_n hx hb dX9_creditor_72 rfl (lv_at hl 0 rfl) ?_
        refine va_get (D := G.1) (ci := 9) (v := .ref (a 1)) (C := RX9) (T := TX9) (N := 11) hx hb hts k1 hown hK hP 0 rfl rfl 1 (by decide) k0 (fun _ h9 => h9) rfl dX9_creditor_73 ?_
        refine va_get (D := G.1) (ci := 8) (v := .ref (a 3)) (C := RX8) (T := TX8) (N := 9) hx hb hts k7 hown hK hP 1 rfl rfl 7 (by decide) k8 (fun _ h9 => h9) rfl dX9_creditor_76 ?_
        refine lv_iload_n hx hb dX9_creditor_79 rfl (lv_at hl 1 rfl) ?_
        refine n_iald hx hb hK hP 3 0 rfl rfl (j := cc) rfl (by omega) (by decide) dX9_creditor_80 ?_
        exact mR_iret C dX9_creditor_81 (by rw [cq11]; unfold crR; rw [if_neg (not_not_intro cq1)]; simp [hcl_cc])
      · have cq12 : x = 3 := by apply Int32.toInt_inj.mp; rw [hj2]; decide
        refine lv_tableIn (tgt := 82) hx hb dX9_creditor_15 (by omega) (by omega) (by rw [hj2]; rfl) (by decide) ?_
        refine lv_aload_n hx hb dX9_creditor_82 rfl (lv_at hl 0 rfl) ?_
        refine va_get (D := G.1) (ci := 9) (v := .ref (a 1)) (C := RX9) (T := TX9) (N := 11) hx hb hts k1 hown hK hP 0 rfl rfl 1 (by decide) k0 (fun _ h9 => h9) rfl dX9_creditor_83 ?_
        refine va_get (D := G.1) (ci := 8) (v := .ref (a 4)) (C := RX8) (T := TX8) (N := 9) hx hb hts k7 hown hK hP 1 rfl rfl 8 (by decide) k9 (fun _ h9 => h9) rfl dX9_creditor_86 ?_
        refine lv_iload_n hx hb dX9_creditor_89 rfl (lv_at hl 1 rfl) ?_
        refine n_iald hx hb hK hP 4 0 rfl rfl (j := cc) rfl (by omega) (by decide) dX9_creditor_90 ?_
        exact mR_iret C dX9_creditor_91 (by rw [cq12]; unfold crR; rw [if_neg (not_not_intro cq1)]; simp [hcl_cc])
      · have cq13 : x = 4 := by apply Int32.toInt_inj.mp; rw [hj2]; decide
        refine lv_tableIn (tgt := 92) hx hb dX9_creditor_15 (by omega) (by omega) (by rw [hj2]; rfl) (by decide) ?_
        refine lv_aload_n hx hb dX9_creditor_92 rfl (lv_at hl 0 rfl) ?_
        refine va_get (D := G.1) (ci := 9) (v := .ref (a 5)) (C := RX9) (T := TX9) (N := 11) hx hb hts k1 hown hK hP 0 rfl rfl 2 (by decide) k3 (fun _ h9 => h9) rfl dX9_creditor_93 ?_
        refine lv_iload_n hx hb dX9_creditor_96 rfl (lv_at hl 1 rfl) ?_
        refine lv_iconst (v := 1) hx hb dX9_creditor_97 (by decide) ?_
        refine cR_V (Cn := RX7) (n := 2) (As := [.int (nI cc), .int 1]) (rest := []) C (c_X7_personsByMood l G (a 5) (a 6) (a 7) (a 8) (a 9) (a 1) (a 2) (a 3) (a 4) t n nc np cc 1 hT (by omega)) gX9_creditor_X7_personsByMood rfl ⟨rfl, rfl⟩ hd_X7_personsByMood ⟨(Nat.le_of_ble_eq_true rfl), (Nat.le_of_ble_eq_true rfl)⟩ hK (hP.sub [5, 6, 7, 8, 9, 1, 2, 3, 4] rfl) (va_recv hK hP (ci := 7) (q0 := 5) rfl rfl) rfl hl.1 rfl (Nat.le_of_ble_eq_true rfl) dX9_creditor_98 ⟨(Nat.le_of_ble_eq_true rfl), (Nat.le_of_ble_eq_true rfl)⟩ ?_
        exact mR_iret C dX9_creditor_101 (by rw [cq13]; unfold crR; rw [if_neg (not_not_intro cq1)]; simp [hcl_cc])
      · have cq14 : x = 5 := by apply Int32.toInt_inj.mp; rw [hj2]; decide
        refine lv_tableIn (tgt := 102) hx hb dX9_creditor_15 (by omega) (by omega) (by rw [hj2]; rfl) (by decide) ?_
        refine lv_aload_n hx hb dX9_creditor_102 rfl (lv_at hl 0 rfl) ?_
        refine va_get (D := G.1) (ci := 9) (v := .ref (a 5)) (C := RX9) (T := TX9) (N := 11) hx hb hts k1 hown hK hP 0 rfl rfl 2 (by decide) k3 (fun _ h9 => h9) rfl dX9_creditor_103 ?_
        refine lv_iload_n hx hb dX9_creditor_106 rfl (lv_at hl 1 rfl) ?_
        refine lv_iconst (v := 2) hx hb dX9_creditor_107 (by decide) ?_
        refine cR_V (Cn := RX7) (n := 2) (As := [.int (nI cc), .int 2]) (rest := []) C (c_X7_personsByMood l G (a 5) (a 6) (a 7) (a 8) (a 9) (a 1) (a 2) (a 3) (a 4) t n nc np cc 2 hT (by omega)) gX9_creditor_X7_personsByMood rfl ⟨rfl, rfl⟩ hd_X7_personsByMood ⟨(Nat.le_of_ble_eq_true rfl), (Nat.le_of_ble_eq_true rfl)⟩ hK (hP.sub [5, 6, 7, 8, 9, 1, 2, 3, 4] rfl) (va_recv hK hP (ci := 7) (q0 := 5) rfl rfl) rfl hl.1 rfl (Nat.le_of_ble_eq_true rfl) dX9_creditor_108 ⟨(Nat.le_of_ble_eq_true rfl), (Nat.le_of_ble_eq_true rfl)⟩ ?_
        exact mR_iret C dX9_creditor_111 (by rw [cq14]; unfold crR; rw [if_neg (not_not_intro cq1)]; simp [hcl_cc])
  · skip
    refine lv_ldc hx hb hown k10 dX9_creditor_11 ?_
    exact mR_iret C dX9_creditor_13 (by simp only [crR]; rw [if_pos cq1])
theorem hd_X9_person : yX9_person.cls = RX9 ∧ yX9_person.cls ≠ "java/lang/invoke/MethodHandle" ∧ yX9_person.cls ≠ "java/lang/invoke/VarHandle" ∧ (parseMethodDescriptor yX9_person.desc).map (fun d => d.parameters.length) = some 2 := by decide +kernel
set_option maxRecDepth 100000 in
set_option maxHeartbeats 4000000 in
theorem c_X9_person (l : Launch) (G : gG) (a : Nat → Nat) (i : Nat → Int32) (t : Nat → Int32) (n : Nat → Int32) (nc : Nat) (np : Nat) (p : Int32) (x : Int32) (hTT : okT t nc np) (hO : okS t n nc np) : mR l yX9_person wsX9_person ({ frames := 4, cells := 0, slots := 0, locals := 89 }) G (uW G a i t n) [.ref (a 0), .int p, .int x] (peR t n nc p x) := by
  refine mR.of (cc := cX9_person) (maxL := 3) (ret := (some .int)) (by decide) rfl (Nat.le_of_ble_eq_true rfl) ?_
  intro zp ze zs zm zb zt zc ls C hP hK hl
  obtain ⟨hx, hb, hr, hml, hown, hts, hlk⟩ := id C
  have hl : lv_has ls 3 [(0, .ref (a 0)), (1, .int p), (2, .int x)] := hl
  have hT := hTT.1
  have hT2 := hT.2.2
  have hG := okT_G hTT
  have hLH := okT_L hTT
  have k0 := hts (.fieldLink RX9 19 "DebtDowry" "terms" "LDebtDowry$Terms;") (by decide +kernel)
  have k1 := (fun w h => by revert w; decide +kernel : ∀ w ∈ wsX90, w ∈ wsX9_person)
  have k2 := hts (.constant RX9 81 (-1000000002)) (by decide +kernel)
  have k3 := hts (.fieldLink RX9 28 "DebtDowry" "now" "LDebtDowry$State;") (by decide +kernel)
  have k4 := hts (.fieldLink RX9 179 "DebtDowry$State" "spouse" "[I") (by decide +kernel)
  have k5 := (fun w h => by revert w; decide +kernel : ∀ w ∈ wsX70, w ∈ wsX9_person)
  have k6 := hts (.fieldLink RX9 189 "DebtDowry$State" "insults" "[I") (by decide +kernel)
  have k7 := hts (.constant RX9 155 (-1000000001)) (by decide +kernel)
  refine lv_aload_n hx hb dX9_person_0 rfl (lv_at hl 0 rfl) ?_
  refine va_get (D := G.1) (ci := 9) (v := .ref (a 1)) (C := RX9) (T := TX9) (N := 11) hx hb hts k1 hown hK hP 0 rfl rfl 1 (by decide) k0 (fun _ h9 => h9) rfl dX9_person_1 ?_
  refine lv_iload_n hx hb dX9_person_4 rfl (lv_at hl 1 rfl) ?_
  refine cR_V (Cn := RX8) (n := 1) (As := [.int p]) (rest := []) C (c_X8_hasPerson l G (a 1) (a 2) (a 3) (a 4) t nc np p hT) gX9_person_X8_hasPerson rfl ⟨rfl, rfl⟩ hd_X8_hasPerson ⟨(Nat.le_of_ble_eq_true rfl), (Nat.le_of_ble_eq_true rfl)⟩ hK (hP.sub [1, 2, 3, 4] rfl) (va_recv hK hP (ci := 8) (q0 := 1) rfl rfl) rfl hl.1 rfl (Nat.le_of_ble_eq_true rfl) dX9_person_5 ⟨(Nat.le_of_ble_eq_true rfl), (Nat.le_of_ble_eq_true rfl)⟩ ?_
  refine b_if_ne (tgt := 14) hx hb dX9_person_8 (by decide) (fun cq1 => ?_) (fun cq1 => ?_)
  · skip
    obtain ⟨pp, hpp, rfl⟩ := inB_nat hT.2.1 (by omega) (cq1)
    have hcl_pp := cl_nI (n := pp) (by omega)
    refine lv_iload_n hx hb dX9_person_14 rfl (lv_at hl 2 rfl) ?_
    by_cases cq2 : x.toInt < 0 ∨ 4 < x.toInt
    · refine lv_tableOut (tgt := 103) hx hb dX9_person_15 cq2 (by decide) ?_
      refine lv_ldc hx hb hown k2 dX9_person_103 ?_
      exact mR_iret C dX9_person_105 (by unfold peR; rw [if_neg (not_not_intro cq1), if_neg (sw_out cq2 (k := 0) (by decide) (by decide)), if_neg (sw_out cq2 (k := 1) (by decide) (by decide)), if_neg (sw_out cq2 (k := 2) (by decide) (by decide)), if_neg (sw_out cq2 (k := 3) (by decide) (by decide)), if_neg (sw_out cq2 (k := 4) (by decide) (by decide))])
    · obtain ⟨j, hj1, hj2⟩ : ∃ j : Nat, j < 5 ∧ x.toInt = 0 + (j : Int) := ⟨(x.toInt - 0).toNat, by omega, by omega⟩
      rcases (show j = 0 ∨ j = 1 ∨ j = 2 ∨ j = 3 ∨ j = 4 by omega) with rfl | rfl | rfl | rfl | rfl
      · have cq8 : x = 0 := by apply Int32.toInt_inj.mp; rw [hj2]; decide
        refine lv_tableIn (tgt := 48) hx hb dX9_person_15 (by omega) (by omega) (by rw [hj2]; rfl) (by decide) ?_
        refine lv_aload_n hx hb dX9_person_48 rfl (lv_at hl 0 rfl) ?_
        refine va_get (D := G.1) (ci := 9) (v := .ref (a 1)) (C := RX9) (T := TX9) (N := 11) hx hb hts k1 hown hK hP 0 rfl rfl 1 (by decide) k0 (fun _ h9 => h9) rfl dX9_person_49 ?_
        refine lv_iload_n hx hb dX9_person_52 rfl (lv_at hl 1 rfl) ?_
        refine cR_V (Cn := RX8) (n := 1) (As := [.int (nI pp)]) (rest := []) C (c_X8_isGirl l G (a 1) (a 2) (a 3) (a 4) t nc np (nI pp) hT) gX9_person_X8_isGirl rfl ⟨rfl, rfl⟩ hd_X8_isGirl ⟨(Nat.le_of_ble_eq_true rfl), (Nat.le_of_ble_eq_true rfl)⟩ hK (hP.sub [1, 2, 3, 4] rfl) (va_recv hK hP (ci := 8) (q0 := 1) rfl rfl) rfl hl.1 rfl (Nat.le_of_ble_eq_true rfl) dX9_person_53 ⟨(Nat.le_of_ble_eq_true rfl), (Nat.le_of_ble_eq_true rfl)⟩ ?_
        refine b_if_eq (tgt := 63) hx hb dX9_person_56 (by decide) (fun cq9 => ?_) (fun cq9 => ?_)
        · skip
          refine lv_iconst (v := 0) hx hb dX9_person_63 (by decide) ?_
          exact mR_iret C dX9_person_64 (by rw [cq8]; unfold peR; rw [if_neg (not_not_intro cq1), if_pos rfl, hcl_pp]; exact (bI_f (fun q => cq9 ⟨cq1, q⟩)).symm)
        · skip
          refine lv_iconst (v := 1) hx hb dX9_person_59 (by decide) ?_
          refine lv_goto (tgt := 64) hx hb dX9_person_60 (by decide) ?_
          exact mR_iret C dX9_person_64 (by rw [cq8]; unfold peR; rw [if_neg (not_not_intro cq1), if_pos rfl, hcl_pp]; exact (bI_t cq9.2).symm)
      · have cq10 : x = 1 := by apply Int32.toInt_inj.mp; rw [hj2]; decide
        refine lv_tableIn (tgt := 65) hx hb dX9_person_15 (by omega) (by omega) (by rw [hj2]; rfl) (by decide) ?_
        refine lv_aload_n hx hb dX9_person_65 rfl (lv_at hl 0 rfl) ?_
        refine va_get (D := G.1) (ci := 9) (v := .ref (a 5)) (C := RX9) (T := TX9) (N := 11) hx hb hts k1 hown hK hP 0 rfl rfl 2 (by decide) k3 (fun _ h9 => h9) rfl dX9_person_66 ?_
        refine va_get (D := G.1) (ci := 7) (v := .ref (a 9)) (C := RX7) (T := TX7) (N := 7) hx hb hts k5 hown hK hP 5 rfl rfl 4 (by decide) k4 (fun _ h9 => h9) rfl dX9_person_69 ?_
        refine lv_iload_n hx hb dX9_person_72 rfl (lv_at hl 1 rfl) ?_
        refine n_iald hx hb hK hP 9 0 rfl rfl (j := pp) rfl (by omega) (by decide) dX9_person_73 ?_
        exact mR_iret C dX9_person_74 (by rw [cq10]; unfold peR; rw [if_neg (not_not_intro cq1)]; simp [hcl_pp])
      · have cq11 : x = 2 := by apply Int32.toInt_inj.mp; rw [hj2]; decide
        refine lv_tableIn (tgt := 75) hx hb dX9_person_15 (by omega) (by omega) (by rw [hj2]; rfl) (by decide) ?_
        refine lv_aload_n hx hb dX9_person_75 rfl (lv_at hl 0 rfl) ?_
        refine va_get (D := G.1) (ci := 9) (v := .ref (a 5)) (C := RX9) (T := TX9) (N := 11) hx hb hts k1 hown hK hP 0 rfl rfl 2 (by decide) k3 (fun _ h9 => h9) rfl dX9_person_76 ?_
        refine lv_iload_n hx hb dX9_person_79 rfl (lv_at hl 1 rfl) ?_
        refine cR_V (Cn := RX7) (n := 1) (As := [.int (nI pp)]) (rest := []) C (c_X7_owedTogether l G (a 5) (a 6) (a 7) (a 8) (a 9) (a 1) (a 2) (a 3) (a 4) t n nc np pp hT (by omega)) gX9_person_X7_owedTogether rfl ⟨rfl, rfl⟩ hd_X7_owedTogether ⟨(Nat.le_of_ble_eq_true rfl), (Nat.le_of_ble_eq_true rfl)⟩ hK (hP.sub [5, 6, 7, 8, 9, 1, 2, 3, 4] rfl) (va_recv hK hP (ci := 7) (q0 := 5) rfl rfl) rfl hl.1 rfl (Nat.le_of_ble_eq_true rfl) dX9_person_80 ⟨(Nat.le_of_ble_eq_true rfl), (Nat.le_of_ble_eq_true rfl)⟩ ?_
        exact mR_iret C dX9_person_83 (by rw [cq11]; unfold peR; rw [if_neg (not_not_intro cq1), ← owU_4 hO hT2.1 (by omega)]; simp [hcl_pp])
      · have cq12 : x = 3 := by apply Int32.toInt_inj.mp; rw [hj2]; decide
        refine lv_tableIn (tgt := 84) hx hb dX9_person_15 (by omega) (by omega) (by rw [hj2]; rfl) (by decide) ?_
        refine lv_aload_n hx hb dX9_person_84 rfl (lv_at hl 0 rfl) ?_
        refine va_get (D := G.1) (ci := 9) (v := .ref (a 5)) (C := RX9) (T := TX9) (N := 11) hx hb hts k1 hown hK hP 0 rfl rfl 2 (by decide) k3 (fun _ h9 => h9) rfl dX9_person_85 ?_
        refine lv_iload_n hx hb dX9_person_88 rfl (lv_at hl 1 rfl) ?_
        refine cR_V (Cn := RX7) (n := 1) (As := [.int (nI pp)]) (rest := []) C (c_X7_standingOf l G (a 5) (a 6) (a 7) (a 8) (a 9) (a 1) (a 2) (a 3) (a 4) t n nc np pp hT (by omega)) gX9_person_X7_standingOf rfl ⟨rfl, rfl⟩ hd_X7_standingOf ⟨(Nat.le_of_ble_eq_true rfl), (Nat.le_of_ble_eq_true rfl)⟩ hK (hP.sub [5, 6, 7, 8, 9, 1, 2, 3, 4] rfl) (va_recv hK hP (ci := 7) (q0 := 5) rfl rfl) rfl hl.1 rfl (Nat.le_of_ble_eq_true rfl) dX9_person_89 ⟨(Nat.le_of_ble_eq_true rfl), (Nat.le_of_ble_eq_true rfl)⟩ ?_
        exact mR_iret C dX9_person_92 (by rw [cq12]; unfold peR; rw [if_neg (not_not_intro cq1)]; simp [hcl_pp])
      · have cq13 : x = 4 := by apply Int32.toInt_inj.mp; rw [hj2]; decide
        refine lv_tableIn (tgt := 93) hx hb dX9_person_15 (by omega) (by omega) (by rw [hj2]; rfl) (by decide) ?_
        refine lv_aload_n hx hb dX9_person_93 rfl (lv_at hl 0 rfl) ?_
        refine va_get (D := G.1) (ci := 9) (v := .ref (a 5)) (C := RX9) (T := TX9) (N := 11) hx hb hts k1 hown hK hP 0 rfl rfl 2 (by decide) k3 (fun _ h9 => h9) rfl dX9_person_94 ?_
        refine va_get (D := G.1) (ci := 7) (v := .ref (a 8)) (C := RX7) (T := TX7) (N := 7) hx hb hts k5 hown hK hP 5 rfl rfl 3 (by decide) k6 (fun _ h9 => h9) rfl dX9_person_97 ?_
        refine lv_iload_n hx hb dX9_person_100 rfl (lv_at hl 1 rfl) ?_
        refine n_iald hx hb hK hP 8 0 rfl rfl (j := pp) rfl (by omega) (by decide) dX9_person_101 ?_
        exact mR_iret C dX9_person_102 (by rw [cq13]; unfold peR; rw [if_neg (not_not_intro cq1)]; simp [hcl_pp])
  · skip
    refine lv_ldc hx hb hown k7 dX9_person_11 ?_
    exact mR_iret C dX9_person_13 (by simp only [peR]; rw [if_pos cq1])
theorem hd_X9_owes : yX9_owes.cls = RX9 ∧ yX9_owes.cls ≠ "java/lang/invoke/MethodHandle" ∧ yX9_owes.cls ≠ "java/lang/invoke/VarHandle" ∧ (parseMethodDescriptor yX9_owes.desc).map (fun d => d.parameters.length) = some 2 := by decide +kernel
set_option maxRecDepth 100000 in
set_option maxHeartbeats 4000000 in
theorem c_X9_owes (l : Launch) (G : gG) (a : Nat → Nat) (i : Nat → Int32) (t : Nat → Int32) (n : Nat → Int32) (nc : Nat) (np : Nat) (p : Int32) (c : Int32) (hTT : okT t nc np) (hO : okS t n nc np) : mR l yX9_owes wsX9_owes ({ frames := 2, cells := 0, slots := 0, locals := 43 }) G (uW G a i t n) [.ref (a 0), .int p, .int c] (owR t n p c) := by
  refine mR.of (cc := cX9_owes) (maxL := 3) (ret := (some .int)) (by decide) rfl (Nat.le_of_ble_eq_true rfl) ?_
  intro zp ze zs zm zb zt zc ls C hP hK hl
  obtain ⟨hx, hb, hr, hml, hown, hts, hlk⟩ := id C
  have hl : lv_has ls 3 [(0, .ref (a 0)), (1, .int p), (2, .int c)] := hl
  have hT := hTT.1
  have hT2 := hT.2.2
  have hG := okT_G hTT
  have hLH := okT_L hTT
  have k0 := hts (.fieldLink RX9 19 "DebtDowry" "terms" "LDebtDowry$Terms;") (by decide +kernel)
  have k1 := (fun w h => by revert w; decide +kernel : ∀ w ∈ wsX90, w ∈ wsX9_owes)
  have k2 := hts (.constant RX9 155 (-1000000001)) (by decide +kernel)
  have k3 := hts (.fieldLink RX9 28 "DebtDowry" "now" "LDebtDowry$State;") (by decide +kernel)
  refine lv_aload_n hx hb dX9_owes_0 rfl (lv_at hl 0 rfl) ?_
  refine va_get (D := G.1) (ci := 9) (v := .ref (a 1)) (C := RX9) (T := TX9) (N := 11) hx hb hts k1 hown hK hP 0 rfl rfl 1 (by decide) k0 (fun _ h9 => h9) rfl dX9_owes_1 ?_
  refine lv_iload_n hx hb dX9_owes_4 rfl (lv_at hl 1 rfl) ?_
  refine lv_iload_n hx hb dX9_owes_5 rfl (lv_at hl 2 rfl) ?_
  refine cR_V (Cn := RX8) (n := 2) (As := [.int p, .int c]) (rest := []) C (c_X8_hasBoth l G (a 1) (a 2) (a 3) (a 4) t nc np p c hT) gX9_owes_X8_hasBoth rfl ⟨rfl, rfl⟩ hd_X8_hasBoth ⟨(Nat.le_of_ble_eq_true rfl), (Nat.le_of_ble_eq_true rfl)⟩ hK (hP.sub [1, 2, 3, 4] rfl) (va_recv hK hP (ci := 8) (q0 := 1) rfl rfl) rfl hl.1 rfl (Nat.le_of_ble_eq_true rfl) dX9_owes_6 ⟨(Nat.le_of_ble_eq_true rfl), (Nat.le_of_ble_eq_true rfl)⟩ ?_
  refine b_if_eq (tgt := 24) hx hb dX9_owes_9 (by decide) (fun cq1 => ?_) (fun cq1 => ?_)
  · skip
    refine lv_ldc hx hb hown k2 dX9_owes_24 ?_
    exact mR_iret C dX9_owes_26 (by unfold owR; exact (if_neg cq1).symm)
  · skip
    obtain ⟨pp, hpp, rfl⟩ := inB_nat hT.2.1 (by omega) (And.left cq1)
    have hcl_pp := cl_nI (n := pp) (by omega)
    obtain ⟨cc, hcc, rfl⟩ := inB_nat hT.1 (by omega) (And.right cq1)
    have hcl_cc := cl_nI (n := cc) (by omega)
    have hPC := cq1
    refine lv_aload_n hx hb dX9_owes_12 rfl (lv_at hl 0 rfl) ?_
    refine va_get (D := G.1) (ci := 9) (v := .ref (a 5)) (C := RX9) (T := TX9) (N := 11) hx hb hts k1 hown hK hP 0 rfl rfl 2 (by decide) k3 (fun _ h9 => h9) rfl dX9_owes_13 ?_
    refine lv_iload_n hx hb dX9_owes_16 rfl (lv_at hl 1 rfl) ?_
    refine lv_iload_n hx hb dX9_owes_17 rfl (lv_at hl 2 rfl) ?_
    refine cR_V (Cn := RX7) (n := 2) (As := [.int (nI pp), .int (nI cc)]) (rest := []) C (c_X7_owedTo l G (a 5) (a 6) (a 7) (a 8) (a 9) (a 1) (a 2) (a 3) (a 4) t n  pp cc (by omega) (by omega)) gX9_owes_X7_owedTo rfl ⟨rfl, rfl⟩ hd_X7_owedTo ⟨(Nat.le_of_ble_eq_true rfl), (Nat.le_of_ble_eq_true rfl)⟩ hK (hP.sub [5, 6, 7, 8, 9, 1, 2, 3, 4] rfl) (va_recv hK hP (ci := 7) (q0 := 5) rfl rfl) rfl hl.1 rfl (Nat.le_of_ble_eq_true rfl) dX9_owes_18 ⟨(Nat.le_of_ble_eq_true rfl), (Nat.le_of_ble_eq_true rfl)⟩ ?_
    refine lv_goto (tgt := 26) hx hb dX9_owes_21 (by decide) ?_
    exact mR_iret C dX9_owes_26 (by unfold owR; rw [if_pos hPC, hcl_pp, hcl_cc])
theorem hd_X9_temper : yX9_temper.cls = RX9 ∧ yX9_temper.cls ≠ "java/lang/invoke/MethodHandle" ∧ yX9_temper.cls ≠ "java/lang/invoke/VarHandle" ∧ (parseMethodDescriptor yX9_temper.desc).map (fun d => d.parameters.length) = some 2 := by decide +kernel
set_option maxRecDepth 100000 in
set_option maxHeartbeats 4000000 in
theorem c_X9_temper (l : Launch) (G : gG) (a : Nat → Nat) (i : Nat → Int32) (t : Nat → Int32) (n : Nat → Int32) (nc : Nat) (np : Nat) (p : Int32) (c : Int32) (hTT : okT t nc np) (hO : okS t n nc np) : mR l yX9_temper wsX9_temper ({ frames := 3, cells := 0, slots := 0, locals := 66 }) G (uW G a i t n) [.ref (a 0), .int p, .int c] (teR t n p c) := by
  refine mR.of (cc := cX9_temper) (maxL := 3) (ret := (some .int)) (by decide) rfl (Nat.le_of_ble_eq_true rfl) ?_
  intro zp ze zs zm zb zt zc ls C hP hK hl
  obtain ⟨hx, hb, hr, hml, hown, hts, hlk⟩ := id C
  have hl : lv_has ls 3 [(0, .ref (a 0)), (1, .int p), (2, .int c)] := hl
  have hT := hTT.1
  have hT2 := hT.2.2
  have hG := okT_G hTT
  have hLH := okT_L hTT
  have k0 := hts (.fieldLink RX9 19 "DebtDowry" "terms" "LDebtDowry$Terms;") (by decide +kernel)
  have k1 := (fun w h => by revert w; decide +kernel : ∀ w ∈ wsX90, w ∈ wsX9_temper)
  have k2 := hts (.constant RX9 155 (-1000000001)) (by decide +kernel)
  have k3 := hts (.fieldLink RX9 28 "DebtDowry" "now" "LDebtDowry$State;") (by decide +kernel)
  refine lv_aload_n hx hb dX9_temper_0 rfl (lv_at hl 0 rfl) ?_
  refine va_get (D := G.1) (ci := 9) (v := .ref (a 1)) (C := RX9) (T := TX9) (N := 11) hx hb hts k1 hown hK hP 0 rfl rfl 1 (by decide) k0 (fun _ h9 => h9) rfl dX9_temper_1 ?_
  refine lv_iload_n hx hb dX9_temper_4 rfl (lv_at hl 1 rfl) ?_
  refine lv_iload_n hx hb dX9_temper_5 rfl (lv_at hl 2 rfl) ?_
  refine cR_V (Cn := RX8) (n := 2) (As := [.int p, .int c]) (rest := []) C (c_X8_hasBoth l G (a 1) (a 2) (a 3) (a 4) t nc np p c hT) gX9_temper_X8_hasBoth rfl ⟨rfl, rfl⟩ hd_X8_hasBoth ⟨(Nat.le_of_ble_eq_true rfl), (Nat.le_of_ble_eq_true rfl)⟩ hK (hP.sub [1, 2, 3, 4] rfl) (va_recv hK hP (ci := 8) (q0 := 1) rfl rfl) rfl hl.1 rfl (Nat.le_of_ble_eq_true rfl) dX9_temper_6 ⟨(Nat.le_of_ble_eq_true rfl), (Nat.le_of_ble_eq_true rfl)⟩ ?_
  refine b_if_eq (tgt := 24) hx hb dX9_temper_9 (by decide) (fun cq1 => ?_) (fun cq1 => ?_)
  · skip
    refine lv_ldc hx hb hown k2 dX9_temper_24 ?_
    exact mR_iret C dX9_temper_26 (by unfold teR; exact (if_neg cq1).symm)
  · skip
    obtain ⟨pp, hpp, rfl⟩ := inB_nat hT.2.1 (by omega) (And.left cq1)
    have hcl_pp := cl_nI (n := pp) (by omega)
    obtain ⟨cc, hcc, rfl⟩ := inB_nat hT.1 (by omega) (And.right cq1)
    have hcl_cc := cl_nI (n := cc) (by omega)
    have hPC := cq1
    refine lv_aload_n hx hb dX9_temper_12 rfl (lv_at hl 0 rfl) ?_
    refine va_get (D := G.1) (ci := 9) (v := .ref (a 5)) (C := RX9) (T := TX9) (N := 11) hx hb hts k1 hown hK hP 0 rfl rfl 2 (by decide) k3 (fun _ h9 => h9) rfl dX9_temper_13 ?_
    refine lv_iload_n hx hb dX9_temper_16 rfl (lv_at hl 1 rfl) ?_
    refine lv_iload_n hx hb dX9_temper_17 rfl (lv_at hl 2 rfl) ?_
    refine cR_V (Cn := RX7) (n := 2) (As := [.int (nI pp), .int (nI cc)]) (rest := []) C (c_X7_moodTo l G (a 5) (a 6) (a 7) (a 8) (a 9) (a 1) (a 2) (a 3) (a 4) t n  pp cc (by omega) (by omega)) gX9_temper_X7_moodTo rfl ⟨rfl, rfl⟩ hd_X7_moodTo ⟨(Nat.le_of_ble_eq_true rfl), (Nat.le_of_ble_eq_true rfl)⟩ hK (hP.sub [5, 6, 7, 8, 9, 1, 2, 3, 4] rfl) (va_recv hK hP (ci := 7) (q0 := 5) rfl rfl) rfl hl.1 rfl (Nat.le_of_ble_eq_true rfl) dX9_temper_18 ⟨(Nat.le_of_ble_eq_true rfl), (Nat.le_of_ble_eq_true rfl)⟩ ?_
    refine lv_goto (tgt := 26) hx hb dX9_temper_21 (by decide) ?_
    exact mR_iret C dX9_temper_26 (by unfold teR; rw [if_pos hPC, hcl_pp, hcl_cc])
