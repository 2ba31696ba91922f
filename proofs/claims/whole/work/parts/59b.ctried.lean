theorem cr_neg {o p t : Int32} {ow pu hi : Nat} (ho : o = nI ow) (hp : p = nI pu) (ht : t = nI hi) (h1 : ow ≤ 9999) (h2 : pu ≤ 9999) (h3 : hi ≤ 999) (h : (if t - o < p then t - o else p) < 0) : hi < ow := by
  subst ho hp ht
  rw [Int32.lt_iff_toInt_lt, less2_ti, pk_sub_toInt (by omega) (by omega), nI_toInt (by omega), show (0 : Int32).toInt = 0 from rfl] at h
  omega
theorem cr_pos {o p t : Int32} {ow pu hi : Nat} (ho : o = nI ow) (hp : p = nI pu) (ht : t = nI hi) (h1 : ow ≤ 9999) (h2 : pu ≤ 9999) (h3 : hi ≤ 999) (h : ¬ (if t - o < p then t - o else p) < 0) : ow ≤ hi ∧ (if t - o < p then t - o else p) = nI (min pu (hi - ow)) := by
  subst ho hp ht
  rw [Int32.lt_iff_toInt_lt, less2_ti, pk_sub_toInt (by omega) (by omega), nI_toInt (by omega), show (0 : Int32).toInt = 0 from rfl] at h
  refine ⟨by omega, ?_⟩
  apply Int32.toInt_inj.mp
  rw [less2_ti, pk_sub_toInt (by omega) (by omega), nI_toInt (by omega), nI_toInt (by omega)]
  omega
theorem hd_X9_least : yX9_least.cls = RX9 ∧ yX9_least.cls ≠ "java/lang/invoke/MethodHandle" ∧ yX9_least.cls ≠ "java/lang/invoke/VarHandle" ∧ (parseMethodDescriptor yX9_least.desc).map (fun d => d.parameters.length) = some 3 := by decide +kernel
set_option maxRecDepth 100000 in
set_option maxHeartbeats 4000000 in
theorem c_X9_least (l : Launch) (G : gG) (a : Nat → Nat) (i : Nat → Int32) (t : Nat → Int32) (n : Nat → Int32) (nc : Nat) (np : Nat) (p : Int32) (sx : Int32) (w : Int32) (hTT : okT t nc np) (hO : okS t n nc np) : mR l yX9_least wsX9_least ({ frames := 6, cells := 0, slots := 0, locals := 137 }) G (uW G a i t n) [.ref (a 0), .int p, .int sx, .int w] (leR t n nc p sx w) := by
  refine mR.of (cc := cX9_least) (maxL := 5) (ret := (some .int)) (by decide) rfl (Nat.le_of_ble_eq_true rfl) ?_
  intro zp ze zs zm zb zt zc ls C hP hK hl
  obtain ⟨hx, hb, hr, hml, hown, hts, hlk⟩ := id C
  have hl : lv_has ls 5 [(0, .ref (a 0)), (1, .int p), (2, .int sx), (3, .int w)] := hl
  have hT := hTT.1
  have hT2 := hT.2.2
  have hG := okT_G hTT
  have hLH := okT_L hTT
  have k0 := hts (.fieldLink RX9 19 "DebtDowry" "terms" "LDebtDowry$Terms;") (by decide +kernel)
  have k1 := (fun w h => by revert w; decide +kernel : ∀ w ∈ wsX90, w ∈ wsX9_least)
  have k2 := hts (.constant RX9 81 (-1000000002)) (by decide +kernel)
  have k3 := hts (.fieldLink RX9 28 "DebtDowry" "now" "LDebtDowry$State;") (by decide +kernel)
  have k4 := hts (.constant RX9 206 (-1000000003)) (by decide +kernel)
  have k5 := hts (.constant RX9 155 (-1000000001)) (by decide +kernel)
  refine lv_aload_n hx hb dX9_least_0 rfl (lv_at hl 0 rfl) ?_
  refine va_get (D := G.1) (ci := 9) (v := .ref (a 1)) (C := RX9) (T := TX9) (N := 11) hx hb hts k1 hown hK hP 0 rfl rfl 1 (by decide) k0 (fun _ h9 => h9) rfl dX9_least_1 ?_
  refine lv_iload_n hx hb dX9_least_4 rfl (lv_at hl 1 rfl) ?_
  refine cR_V (Cn := RX8) (n := 1) (As := [.int p]) (rest := []) C (c_X8_hasPerson l G (a 1) (a 2) (a 3) (a 4) t nc np p hT) gX9_least_X8_hasPerson rfl ⟨rfl, rfl⟩ hd_X8_hasPerson ⟨(Nat.le_of_ble_eq_true rfl), (Nat.le_of_ble_eq_true rfl)⟩ hK (hP.sub [1, 2, 3, 4] rfl) (va_recv hK hP (ci := 8) (q0 := 1) rfl rfl) rfl hl.1 rfl (Nat.le_of_ble_eq_true rfl) dX9_least_5 ⟨(Nat.le_of_ble_eq_true rfl), (Nat.le_of_ble_eq_true rfl)⟩ ?_
  refine b_if_ne (tgt := 14) hx hb dX9_least_8 (by decide) (fun cq1 => ?_) (fun cq1 => ?_)
  · skip
    have hPq := cq1
    obtain ⟨pp, hpp, rfl⟩ := inB_nat hT.2.1 (by omega) (cq1)
    have hcl_pp := cl_nI (n := pp) (by omega)
    refine lv_iload_n hx hb dX9_least_14 rfl (lv_at hl 2 rfl) ?_
    refine lv_iconst (v := 1) hx hb dX9_least_15 (by decide) ?_
    refine lv_icmp_lt (tgt := 34) hx hb dX9_least_16 (by decide) (fun cq2 => ?_) (fun cq2 => ?_)
    · skip
      have hno : ¬ (inB sx 1 36 ∧ inB w 0 1) := fun q => i32_nle.mpr cq2 q.1.1
      refine lv_ldc hx hb hown k2 dX9_least_34 ?_
      exact mR_iret C dX9_least_36 (by unfold leR; rw [if_neg (not_not_intro hPq), if_pos hno])
    · skip
      have hs1 := i32_nlt.mp cq2
      refine lv_iload_n hx hb dX9_least_19 rfl (lv_at hl 2 rfl) ?_
      refine lv_bipush (v := 36) hx hb dX9_least_20 (by decide) ?_
      refine lv_icmp_gt (tgt := 34) hx hb dX9_least_22 (by decide) (fun cq3 => ?_) (fun cq3 => ?_)
      · skip
        have hno : ¬ (inB sx 1 36 ∧ inB w 0 1) := fun q => i32_nle.mpr cq3 q.1.2
        refine lv_ldc hx hb hown k2 dX9_least_34 ?_
        exact mR_iret C dX9_least_36 (by unfold leR; rw [if_neg (not_not_intro hPq), if_pos hno])
      · skip
        have hs2 := i32_nlt.mp cq3
        refine lv_iload_n hx hb dX9_least_25 rfl (lv_at hl 3 rfl) ?_
        refine lv_if_lt (tgt := 34) hx hb dX9_least_26 (by decide) (fun cq4 => ?_) (fun cq4 => ?_)
        · skip
          have hno : ¬ (inB sx 1 36 ∧ inB w 0 1) := fun q => i32_nle.mpr cq4 q.2.1
          refine lv_ldc hx hb hown k2 dX9_least_34 ?_
          exact mR_iret C dX9_least_36 (by unfold leR; rw [if_neg (not_not_intro hPq), if_pos hno])
        · skip
          have hw1 := i32_nlt.mp cq4
          refine lv_iload_n hx hb dX9_least_29 rfl (lv_at hl 3 rfl) ?_
          refine lv_iconst (v := 1) hx hb dX9_least_30 (by decide) ?_
          refine lv_icmp_le (tgt := 37) hx hb dX9_least_31 (by decide) (fun cq5 => ?_) (fun cq5 => ?_)
          · skip
            have hin : inB sx 1 36 ∧ inB w 0 1 := ⟨⟨hs1, hs2⟩, hw1, cq5⟩
            refine lv_aload_n hx hb dX9_least_37 rfl (lv_at hl 0 rfl) ?_
            refine va_get (D := G.1) (ci := 9) (v := .ref (a 5)) (C := RX9) (T := TX9) (N := 11) hx hb hts k1 hown hK hP 0 rfl rfl 2 (by decide) k3 (fun _ h9 => h9) rfl dX9_least_38 ?_
            refine lv_iload_n hx hb dX9_least_41 rfl (lv_at hl 1 rfl) ?_
            refine cR_V (Cn := RX7) (n := 1) (As := [.int (nI pp)]) (rest := []) C (c_X7_isWedMan l G (a 5) (a 6) (a 7) (a 8) (a 9) (a 1) (a 2) (a 3) (a 4) t n nc np pp hT (by omega)) gX9_least_X7_isWedMan rfl ⟨rfl, rfl⟩ hd_X7_isWedMan ⟨(Nat.le_of_ble_eq_true rfl), (Nat.le_of_ble_eq_true rfl)⟩ hK (hP.sub [5, 6, 7, 8, 9, 1, 2, 3, 4] rfl) (va_recv hK hP (ci := 7) (q0 := 5) rfl rfl) rfl hl.1 rfl (Nat.le_of_ble_eq_true rfl) dX9_least_42 ⟨(Nat.le_of_ble_eq_true rfl), (Nat.le_of_ble_eq_true rfl)⟩ ?_
            refine b_if_eq (tgt := 51) hx hb dX9_least_45 (by decide) (fun cq6 => ?_) (fun cq6 => ?_)
            · skip
              have hwd := cq6
              have hch := ch_16 (sx := sx) hTT hO hpp hwd
              refine lv_aload_n hx hb dX9_least_51 rfl (lv_at hl 0 rfl) ?_
              refine va_get (D := G.1) (ci := 9) (v := .ref (a 5)) (C := RX9) (T := TX9) (N := 11) hx hb hts k1 hown hK hP 0 rfl rfl 2 (by decide) k3 (fun _ h9 => h9) rfl dX9_least_52 ?_
              refine lv_iload_n hx hb dX9_least_55 rfl (lv_at hl 1 rfl) ?_
              refine lv_iload_n hx hb dX9_least_56 rfl (lv_at hl 2 rfl) ?_
              refine cR_V (Cn := RX7) (n := 2) (As := [.int (nI pp), .int sx]) (rest := []) C (c_X7_cheapestSet l G (a 5) (a 6) (a 7) (a 8) (a 9) (a 1) (a 2) (a 3) (a 4) t n nc np pp sx hT (by omega)) gX9_least_X7_cheapestSet rfl ⟨rfl, rfl⟩ hd_X7_cheapestSet ⟨(Nat.le_of_ble_eq_true rfl), (Nat.le_of_ble_eq_true rfl)⟩ hK (hP.sub [5, 6, 7, 8, 9, 1, 2, 3, 4] rfl) (va_recv hK hP (ci := 7) (q0 := 5) rfl rfl) rfl hl.1 rfl (Nat.le_of_ble_eq_true rfl) dX9_least_57 ⟨(Nat.le_of_ble_eq_true rfl), (Nat.le_of_ble_eq_true rfl)⟩ ?_
              refine lv_istore (lv' := [(4, .int (chB t n nc pp sx 16)), (0, .ref (a 0)), (1, .int (nI pp)), (2, .int sx), (3, .int w)]) hx hb dX9_least_60 hl (by decide) rfl (fun ls hl => ?_)
              refine lv_iload hx hb dX9_least_62 (lv_at hl 0 rfl) ?_
              refine lv_iconst (v := (-1)) hx hb dX9_least_64 (by decide) ?_
              refine lv_icmp_eq (tgt := 72) hx hb dX9_least_65 (by decide) (fun cq7 => ?_) (fun cq7 => ?_)
              · skip
                have hor : w = 0 ∨ lsB t n nc pp sx (2 ^ nc) = -1 := Or.inr (hch.1.symm.trans cq7)
                refine lv_iload hx hb dX9_least_72 (lv_at hl 0 rfl) ?_
                refine lv_goto (tgt := 87) hx hb dX9_least_74 (by decide) ?_
                exact mR_iret C dX9_least_87 (by unfold leR; rw [if_neg (not_not_intro hPq), if_neg (not_not_intro hin), hcl_pp, if_neg hwd, if_pos hor, hch.1])
              · skip
                have h65 := cq7
                refine lv_iload_n hx hb dX9_least_68 rfl (lv_at hl 4 rfl) ?_
                refine lv_if_ne (tgt := 77) hx hb dX9_least_69 (by decide) (fun cq8 => ?_) (fun cq8 => ?_)
                · skip
                  obtain ⟨zz, hz16, hze, hzf⟩ := hch.2.resolve_left (fun q => h65 (hch.1.trans q))
                  have hze2 : chB t n nc pp sx 16 = nI zz := hch.1.trans hze
                  have hnor : ¬ (w = 0 ∨ lsB t n nc pp sx (2 ^ nc) = -1) := fun q => q.elim cq8 (fun z => h65 (hch.1.trans z))
                  refine lv_aload_n hx hb dX9_least_77 rfl (lv_at hl 1 rfl) ?_
                  refine va_get (D := G.1) (ci := 9) (v := .ref (a 5)) (C := RX9) (T := TX9) (N := 11) hx hb hts k1 hown hK hP 0 rfl rfl 2 (by decide) k3 (fun _ h9 => h9) rfl dX9_least_78 ?_
                  refine lv_iload_n hx hb dX9_least_81 rfl (lv_at hl 2 rfl) ?_
                  refine lv_iload hx hb dX9_least_82 (lv_at hl 0 rfl) ?_
                  refine cR_V (Cn := RX7) (n := 2) (As := [.int (nI pp), .int (nI zz)]) (rest := []) C (c_X7_coinsFor l G (a 5) (a 6) (a 7) (a 8) (a 9) (a 1) (a 2) (a 3) (a 4) t n nc np pp zz hT (by omega)) gX9_least_X7_coinsFor rfl ⟨rfl, rfl⟩ hd_X7_coinsFor ⟨(Nat.le_of_ble_eq_true rfl), (Nat.le_of_ble_eq_true rfl)⟩ hK (hP.sub [5, 6, 7, 8, 9, 1, 2, 3, 4] rfl) (va_recv hK hP (ci := 7) (q0 := 5) rfl rfl) rfl hl.1 (by rw [show (chB t n nc pp sx 16 : Int32) = nI zz from hze2]; rfl) (Nat.le_of_ble_eq_true rfl) dX9_least_84 ⟨(Nat.le_of_ble_eq_true rfl), (Nat.le_of_ble_eq_true rfl)⟩ ?_
                  exact mR_iret C dX9_least_87 (by unfold leR; rw [if_neg (not_not_intro hPq), if_neg (not_not_intro hin), hcl_pp, if_neg hwd, if_neg hnor]; exact hzf)
                · skip
                  have hor : w = 0 ∨ lsB t n nc pp sx (2 ^ nc) = -1 := Or.inl cq8
                  refine lv_iload hx hb dX9_least_72 (lv_at hl 0 rfl) ?_
                  refine lv_goto (tgt := 87) hx hb dX9_least_74 (by decide) ?_
                  exact mR_iret C dX9_least_87 (by unfold leR; rw [if_neg (not_not_intro hPq), if_neg (not_not_intro hin), hcl_pp, if_neg hwd, if_pos hor, hch.1])
            · skip
              have hwd := cq6
              refine lv_ldc hx hb hown k4 dX9_least_48 ?_
              exact mR_iret C dX9_least_50 (by unfold leR; rw [if_neg (not_not_intro hPq), if_neg (not_not_intro hin), hcl_pp, if_pos hwd])
          · skip
            have hno : ¬ (inB sx 1 36 ∧ inB w 0 1) := fun q => cq5 q.2.2
            refine lv_ldc hx hb hown k2 dX9_least_34 ?_
            exact mR_iret C dX9_least_36 (by unfold leR; rw [if_neg (not_not_intro hPq), if_pos hno])
  · skip
    refine lv_ldc hx hb hown k5 dX9_least_11 ?_
    exact mR_iret C dX9_least_13 (by unfold leR; rw [if_pos cq1])
theorem hd_X9_plan : yX9_plan.cls = RX9 ∧ yX9_plan.cls ≠ "java/lang/invoke/MethodHandle" ∧ yX9_plan.cls ≠ "java/lang/invoke/VarHandle" ∧ (parseMethodDescriptor yX9_plan.desc).map (fun d => d.parameters.length) = some 4 := by decide +kernel
set_option maxRecDepth 100000 in
set_option maxHeartbeats 4000000 in
theorem c_X9_plan (l : Launch) (G : gG) (a : Nat → Nat) (ra : Nat → Nat → Nat) (s : RSt) (em : Int32) (i : Nat → Int32) (eo : Nat → Int32) (es : Nat → Int32) (t : Nat → Int32) (n : Nat → Int32) (d : Nat → Int32) (tx : Nat → Int32) (rt : Nat → Int32) (rn : Nat → Int32) (cd : Nat → Int32) (su : Nat → Int32) (bk : Nat → Int32) (co : Nat → Int32) (mo : Nat → Int32) (m0 : Nat → Int32) (m1 : Nat → Int32) (kp : Nat → Int32) (nc : Nat) (np : Nat) (p : Int32) (c : Int32) (x : Int32) (w : Int32) (hTT : okT t nc np) (hO : okS t n nc np) : mE l yX9_plan wsX9_plan ({ frames := 5, cells := 0, slots := 0, locals := 119 }) G (dW G a ra s em i eo es t n d tx rt rn cd su bk co mo m0 m1 kp) (fun u : (Nat → Int32) × (Nat → Int32) => dW G a ra s em i eo u.1 t n d tx rt rn cd su bk u.2 mo m0 m1 kp) [.ref (a 0), .int p, .int c, .int x, .int w] (.returned (some (.int (plR t n p c x w)))) := by
  refine mE.of (cc := cX9_plan) (maxL := 5) (ret := (some .int)) (by decide) rfl (Nat.le_of_ble_eq_true rfl) ?_
  intro zp ze zs zm zb zt zc ls A hAe C hP hK hD hS hl
  obtain ⟨hx, hb, hr, hml, hown, hts, hlk⟩ := id C
  have hl : lv_has ls 5 [(0, .ref (a 0)), (1, .int p), (2, .int c), (3, .int x), (4, .int w)] := hl
  have hT := hTT.1
  have hT2 := hT.2.2
  have hG := okT_G hTT
  have hLH := okT_L hTT
  have k0 := hts (.fieldLink RX9 19 "DebtDowry" "terms" "LDebtDowry$Terms;") (by decide +kernel)
  have k1 := (fun w h => by revert w; decide +kernel : ∀ w ∈ wsX90, w ∈ wsX9_plan)
  have k2 := hts (.constant RX9 81 (-1000000002)) (by decide +kernel)
  have k3 := hts (.fieldLink RX9 28 "DebtDowry" "now" "LDebtDowry$State;") (by decide +kernel)
  have k4 := hts (.fieldLink RX9 52 "DebtDowry" "planner" "LDebtDowry$Planner;") (by decide +kernel)
  have k5 := hts (.fieldLink RX9 267 "DebtDowry$Planner" "first" "I") (by decide +kernel)
  have k6 := (fun w h => by revert w; decide +kernel : ∀ w ∈ wsX50, w ∈ wsX9_plan)
  have k7 := hts (.fieldLink RX9 264 "DebtDowry$Planner" "together" "I") (by decide +kernel)
  have k8 := hts (.constant RX9 155 (-1000000001)) (by decide +kernel)
  refine lv_aload_n hx hb dX9_plan_0 rfl (lv_at hl 0 rfl) ?_
  refine va_get (D := G.1) (ci := 9) (v := .ref (a 1)) (C := RX9) (T := TX9) (N := 11) hx hb hts k1 hown hK hP 0 rfl rfl 1 (by decide) k0 (fun _ h9 => h9) rfl dX9_plan_1 ?_
  refine lv_iload_n hx hb dX9_plan_4 rfl (lv_at hl 1 rfl) ?_
  refine lv_iload_n hx hb dX9_plan_5 rfl (lv_at hl 2 rfl) ?_
  refine cR_V (Cn := RX8) (n := 2) (As := [.int p, .int c]) (rest := []) C (c_X8_hasBoth l G (a 1) (a 2) (a 3) (a 4) t nc np p c hT) gX9_plan_X8_hasBoth rfl ⟨rfl, rfl⟩ hd_X8_hasBoth ⟨(Nat.le_of_ble_eq_true rfl), (Nat.le_of_ble_eq_true rfl)⟩ hK (hP.sub [1, 2, 3, 4] rfl) (va_recv hK hP (ci := 8) (q0 := 1) rfl rfl) rfl hl.1 rfl (Nat.le_of_ble_eq_true rfl) dX9_plan_6 ⟨(Nat.le_of_ble_eq_true rfl), (Nat.le_of_ble_eq_true rfl)⟩ ?_
  refine b_if_ne (tgt := 15) hx hb dX9_plan_9 (by decide) (fun cq1 => ?_) (fun cq1 => ?_)
  · skip
    obtain ⟨pp, hpp, rfl⟩ := inB_nat hT.2.1 (by omega) (And.left cq1)
    have hcl_pp := cl_nI (n := pp) (by omega)
    obtain ⟨cc, hcc, rfl⟩ := inB_nat hT.1 (by omega) (And.right cq1)
    have hcl_cc := cl_nI (n := cc) (by omega)
    have hPC := cq1
    refine lv_iload_n hx hb dX9_plan_15 rfl (lv_at hl 3 rfl) ?_
    refine lv_iconst (v := 1) hx hb dX9_plan_16 (by decide) ?_
    refine lv_icmp_lt (tgt := 37) hx hb dX9_plan_17 (by decide) (fun cq2 => ?_) (fun cq2 => ?_)
    · skip
      have hno : ¬ (inB x 1 8 ∧ inB w 0 1) := fun q => i32_nle.mpr cq2 q.1.1
      refine lv_ldc hx hb hown k2 dX9_plan_37 ?_
      exact mE_iret hAe C (u := (es, co)) hP hS dX9_plan_39 (by unfold plR; rw [if_neg (not_not_intro hPC), if_pos hno])
    · skip
      have hx1 := i32_nlt.mp cq2
      refine lv_iload_n hx hb dX9_plan_20 rfl (lv_at hl 3 rfl) ?_
      refine lv_bipush (v := 8) hx hb dX9_plan_21 (by decide) ?_
      refine lv_icmp_gt (tgt := 37) hx hb dX9_plan_23 (by decide) (fun cq3 => ?_) (fun cq3 => ?_)
      · skip
        have hno : ¬ (inB x 1 8 ∧ inB w 0 1) := fun q => i32_nle.mpr cq3 q.1.2
        refine lv_ldc hx hb hown k2 dX9_plan_37 ?_
        exact mE_iret hAe C (u := (es, co)) hP hS dX9_plan_39 (by unfold plR; rw [if_neg (not_not_intro hPC), if_pos hno])
      · skip
        have hx2 := i32_nlt.mp cq3
        refine lv_iload hx hb dX9_plan_26 (lv_at hl 4 rfl) ?_
        refine lv_if_lt (tgt := 37) hx hb dX9_plan_28 (by decide) (fun cq4 => ?_) (fun cq4 => ?_)
        · skip
          have hno : ¬ (inB x 1 8 ∧ inB w 0 1) := fun q => i32_nle.mpr cq4 q.2.1
          refine lv_ldc hx hb hown k2 dX9_plan_37 ?_
          exact mE_iret hAe C (u := (es, co)) hP hS dX9_plan_39 (by unfold plR; rw [if_neg (not_not_intro hPC), if_pos hno])
        · skip
          have hw1 := i32_nlt.mp cq4
          refine lv_iload hx hb dX9_plan_31 (lv_at hl 4 rfl) ?_
          refine lv_iconst (v := 1) hx hb dX9_plan_33 (by decide) ?_
          refine lv_icmp_le (tgt := 40) hx hb dX9_plan_34 (by decide) (fun cq5 => ?_) (fun cq5 => ?_)
          · skip
            have hin : inB x 1 8 ∧ inB w 0 1 := ⟨⟨hx1, hx2⟩, hw1, cq5⟩
            obtain ⟨kk, hkk1, hkk2, rfl⟩ := inB_rng (a := 1) (b := 8) rfl rfl (by decide) (by decide) (hin.1)
            have hcl_kk := cl_nI (n := kk) (by omega)
            refine lv_aload_n hx hb dX9_plan_40 rfl (lv_at hl 0 rfl) ?_
            refine va_get (D := G.1) (ci := 9) (v := .ref (a 5)) (C := RX9) (T := TX9) (N := 11) hx hb hts k1 hown hK hP 0 rfl rfl 2 (by decide) k3 (fun _ h9 => h9) rfl dX9_plan_41 ?_
            refine lv_iload_n hx hb dX9_plan_44 rfl (lv_at hl 2 rfl) ?_
            refine cR_V (Cn := RX7) (n := 1) (As := [.int (nI cc)]) (rest := []) C (c_X7_hasFailed l G (a 5) (a 6) (a 7) (a 8) (a 9) (a 1) (a 2) (a 3) (a 4) t n  cc ) gX9_plan_X7_hasFailed rfl ⟨rfl, rfl⟩ hd_X7_hasFailed ⟨(Nat.le_of_ble_eq_true rfl), (Nat.le_of_ble_eq_true rfl)⟩ hK (hP.sub [5, 6, 7, 8, 9, 1, 2, 3, 4] rfl) (va_recv hK hP (ci := 7) (q0 := 5) rfl rfl) rfl hl.1 rfl (Nat.le_of_ble_eq_true rfl) dX9_plan_45 ⟨(Nat.le_of_ble_eq_true rfl), (Nat.le_of_ble_eq_true rfl)⟩ ?_
            refine b_if_ne (tgt := 76) hx hb dX9_plan_48 (by decide) (fun cq6 => ?_) (fun cq6 => ?_)
            · skip
              have hF := cq6
              refine lv_iconst (v := (-1)) hx hb dX9_plan_76 (by decide) ?_
              exact mE_iret hAe C (u := (es, co)) hP hS dX9_plan_77 (by unfold plR; rw [if_neg (not_not_intro hPC), if_neg (not_not_intro hin), hcl_pp, hcl_cc, hcl_kk, if_pos hF])
            · skip
              have hF := cq6
              obtain ⟨ow, how, hoe⟩ := hO.2.2.1 (4 * pp + cc) (by omega)
              obtain ⟨lo, hi, gg, hlo, hh, hgg, hl1, hl2, hhi, hg1, hg2⟩ := hTT.2.2.2.2 cc hcc
              obtain ⟨ir, hir2, hir⟩ := hTT.2.1
              have hR := rowOK_q (z := upto co (fun _ => 0) 1000) (hLH cc hcc) hh hhi (fun v hv => if_pos hv) (kk - 1) (by omega)
              have hPE := plan_eq (z := es 5) (w := w) (hLH cc hcc) hh hhi (by omega) hR how hir hir2
              refine lv_aload_n hx hb dX9_plan_51 rfl (lv_at hl 0 rfl) ?_
              refine va_get (D := G.1) (ci := 9) (v := .ref (a 30)) (C := RX9) (T := TX9) (N := 11) hx hb hts k1 hown hK hP 0 rfl rfl 6 (by decide) k4 (fun _ h9 => h9) rfl dX9_plan_52 ?_
              refine lv_aload_n hx hb dX9_plan_55 rfl (lv_at hl 0 rfl) ?_
              refine va_get (D := G.1) (ci := 9) (v := .ref (a 1)) (C := RX9) (T := TX9) (N := 11) hx hb hts k1 hown hK hP 0 rfl rfl 1 (by decide) k0 (fun _ h9 => h9) rfl dX9_plan_56 ?_
              refine lv_iload_n hx hb dX9_plan_59 rfl (lv_at hl 2 rfl) ?_
              refine lv_aload_n hx hb dX9_plan_60 rfl (lv_at hl 0 rfl) ?_
              refine va_get (D := G.1) (ci := 9) (v := .ref (a 5)) (C := RX9) (T := TX9) (N := 11) hx hb hts k1 hown hK hP 0 rfl rfl 2 (by decide) k3 (fun _ h9 => h9) rfl dX9_plan_61 ?_
              refine lv_iload_n hx hb dX9_plan_64 rfl (lv_at hl 1 rfl) ?_
              refine lv_iload_n hx hb dX9_plan_65 rfl (lv_at hl 2 rfl) ?_
              refine cR_V (Cn := RX7) (n := 2) (As := [.int (nI pp), .int (nI cc)]) (rest := [.int (nI cc), .ref (a 1), .ref (a 30)]) C (c_X7_owedTo l G (a 5) (a 6) (a 7) (a 8) (a 9) (a 1) (a 2) (a 3) (a 4) t n  pp cc (by omega) (by omega)) gX9_plan_X7_owedTo rfl ⟨rfl, rfl⟩ hd_X7_owedTo ⟨(Nat.le_of_ble_eq_true rfl), (Nat.le_of_ble_eq_true rfl)⟩ hK (hP.sub [5, 6, 7, 8, 9, 1, 2, 3, 4] rfl) (va_recv hK hP (ci := 7) (q0 := 5) rfl rfl) rfl hl.1 rfl (Nat.le_of_ble_eq_true rfl) dX9_plan_66 ⟨(Nat.le_of_ble_eq_true rfl), (Nat.le_of_ble_eq_true rfl)⟩ ?_
              refine lv_iload_n hx hb dX9_plan_69 rfl (lv_at hl 3 rfl) ?_
              refine cX_V (Cn := RX5) (n := 4) (As := [.ref (a 1), .int (nI cc), .int (nI ow), .int (nI kk)]) (rest := []) (wsn := dW G a ra s em i eo (upd (upd es 4 (paF t (rwQ t cc hi (upto co (fun _ => 0) 1000) (kk - 1)) cc (nI ow) (min ow hi + 1))) 5 (paL t (rwQ t cc hi (upto co (fun _ => 0) 1000) (kk - 1)) cc (nI ow) (es 5) (min ow hi + 1))) t n d tx rt rn cd su bk (rwQ t cc hi (upto co (fun _ => 0) 1000) (kk - 1)) mo m0 m1 kp) C (c_X5_work l G (a 30) (a 31) (a 1) (a 2) (a 3) (a 4) es co t hi ir cc ow kk (by omega) (hLH cc hcc) hh hhi hir hir2 (by omega) (by omega) (by omega)) gX9_plan_X5_work rfl ⟨rfl, rfl⟩ hd_X5_work ⟨(Nat.le_of_ble_eq_true rfl), (Nat.le_of_ble_eq_true rfl)⟩ hK hP hD hS [30, 31, 1, 2, 3, 4] (by decide) rfl (pkW_f.trans pkW_f.symm) rfl (dW_f.trans dW_f.symm) (va_recv hK hP (ci := 5) (q0 := 30) rfl rfl) rfl hl.1 (by rw [show (n (4 * pp + cc) : Int32) = nI ow from hoe]; rfl) (Nat.le_of_ble_eq_true rfl) dX9_plan_70 ⟨(Nat.le_of_ble_eq_true rfl), (Nat.le_of_ble_eq_true rfl)⟩ (fun H locs hP hD hS => ?_)
              refine b_if_ne (tgt := 78) hx hb dX9_plan_73 (by decide) (fun cq7 => ?_) (fun cq7 => ?_)
              · skip
                have hwk := cq7
                refine lv_iload hx hb dX9_plan_78 (lv_at hl 4 rfl) ?_
                refine lv_if_ne (tgt := 93) hx hb dX9_plan_80 (by decide) (fun cq8 => ?_) (fun cq8 => ?_)
                · skip
                  have hw0 := cq8
                  refine lv_aload_n hx hb dX9_plan_93 rfl (lv_at hl 0 rfl) ?_
                  refine va_get (D := G.1) (ci := 9) (v := .ref (a 30)) (C := RX9) (T := TX9) (N := 11) hx hb hts k1 hown hK hP 0 rfl rfl 6 (by decide) k4 (fun _ h9 => h9) rfl dX9_plan_94 ?_
                  refine va_get (D := G.1) (ci := 5) (v := .int ((upd (upd es 4 (paF t (rwQ t cc hi (upto co (fun _ => 0) 1000) (kk - 1)) cc (nI ow) (min ow hi + 1))) 5 (paL t (rwQ t cc hi (upto co (fun _ => 0) 1000) (kk - 1)) cc (nI ow) (es 5) (min ow hi + 1))) 5)) (C := RX5) (T := TX5) (N := 3) hx hb hts k6 hown hK hP 30 rfl rfl 2 (by decide) k5 (fun _ h9 => h9) rfl dX9_plan_97 ?_
                  exact mE_iret hAe C (u := (upd (upd es 4 (paF t (rwQ t cc hi (upto co (fun _ => 0) 1000) (kk - 1)) cc (nI ow) (min ow hi + 1))) 5 (paL t (rwQ t cc hi (upto co (fun _ => 0) 1000) (kk - 1)) cc (nI ow) (es 5) (min ow hi + 1)), (rwQ t cc hi (upto co (fun _ => 0) 1000) (kk - 1)))) hP hS dX9_plan_100 (by unfold plR; rw [if_neg (not_not_intro hPC), if_neg (not_not_intro hin), hcl_pp, hcl_cc, hcl_kk, if_neg hF, hoe, cl_nI (by omega), hPE.2 hwk, if_neg hw0]; rfl)
                · skip
                  have hw0 := cq8
                  refine lv_aload_n hx hb dX9_plan_83 rfl (lv_at hl 0 rfl) ?_
                  refine va_get (D := G.1) (ci := 9) (v := .ref (a 30)) (C := RX9) (T := TX9) (N := 11) hx hb hts k1 hown hK hP 0 rfl rfl 6 (by decide) k4 (fun _ h9 => h9) rfl dX9_plan_84 ?_
                  refine va_get (D := G.1) (ci := 5) (v := .int ((upd (upd es 4 (paF t (rwQ t cc hi (upto co (fun _ => 0) 1000) (kk - 1)) cc (nI ow) (min ow hi + 1))) 5 (paL t (rwQ t cc hi (upto co (fun _ => 0) 1000) (kk - 1)) cc (nI ow) (es 5) (min ow hi + 1))) 4)) (C := RX5) (T := TX5) (N := 3) hx hb hts k6 hown hK hP 30 rfl rfl 1 (by decide) k7 (fun _ h9 => h9) rfl dX9_plan_87 ?_
                  refine lv_goto (tgt := 100) hx hb dX9_plan_90 (by decide) ?_
                  exact mE_iret hAe C (u := (upd (upd es 4 (paF t (rwQ t cc hi (upto co (fun _ => 0) 1000) (kk - 1)) cc (nI ow) (min ow hi + 1))) 5 (paL t (rwQ t cc hi (upto co (fun _ => 0) 1000) (kk - 1)) cc (nI ow) (es 5) (min ow hi + 1)), (rwQ t cc hi (upto co (fun _ => 0) 1000) (kk - 1)))) hP hS dX9_plan_100 (by unfold plR; rw [if_neg (not_not_intro hPC), if_neg (not_not_intro hin), hcl_pp, hcl_cc, hcl_kk, if_neg hF, hoe, cl_nI (by omega), hPE.2 hwk, if_pos hw0]; rfl)
              · skip
                have hwk := cq7
                refine lv_iconst (v := (-1)) hx hb dX9_plan_76 (by decide) ?_
                exact mE_iret hAe C (u := (upd (upd es 4 (paF t (rwQ t cc hi (upto co (fun _ => 0) 1000) (kk - 1)) cc (nI ow) (min ow hi + 1))) 5 (paL t (rwQ t cc hi (upto co (fun _ => 0) 1000) (kk - 1)) cc (nI ow) (es 5) (min ow hi + 1)), (rwQ t cc hi (upto co (fun _ => 0) 1000) (kk - 1)))) hP hS dX9_plan_77 (by unfold plR; rw [if_neg (not_not_intro hPC), if_neg (not_not_intro hin), hcl_pp, hcl_cc, hcl_kk, if_neg hF, hoe, cl_nI (by omega), hPE.1 hwk])
          · skip
            have hno : ¬ (inB x 1 8 ∧ inB w 0 1) := fun q => cq5 q.2.2
            refine lv_ldc hx hb hown k2 dX9_plan_37 ?_
            exact mE_iret hAe C (u := (es, co)) hP hS dX9_plan_39 (by unfold plR; rw [if_neg (not_not_intro hPC), if_pos hno])
  · skip
    refine lv_ldc hx hb hown k8 dX9_plan_12 ?_
    exact mE_iret hAe C (u := (es, co)) hP hS dX9_plan_14 (by unfold plR; rw [if_pos cq1])
theorem hd_X9_matches : yX9_matches.cls = RX9 ∧ yX9_matches.cls ≠ "java/lang/invoke/MethodHandle" ∧ yX9_matches.cls ≠ "java/lang/invoke/VarHandle" ∧ (parseMethodDescriptor yX9_matches.desc).map (fun d => d.parameters.length) = some 1 := by decide +kernel
set_option maxRecDepth 100000 in
set_option maxHeartbeats 4000000 in
theorem c_X9_matches (l : Launch) (G : gG) (a : Nat → Nat) (ra : Nat → Nat → Nat) (s : RSt) (em : Int32) (i : Nat → Int32) (eo : Nat → Int32) (es : Nat → Int32) (t : Nat → Int32) (n : Nat → Int32) (d : Nat → Int32) (tx : Nat → Int32) (rt : Nat → Int32) (rn : Nat → Int32) (cd : Nat → Int32) (su : Nat → Int32) (bk : Nat → Int32) (co : Nat → Int32) (mo : Nat → Int32) (m0 : Nat → Int32) (m1 : Nat → Int32) (kp : Nat → Int32) (nc : Nat) (np : Nat) (x : Int32) (hTT : okT t nc np) (hO : okS t n nc np) (hnp : t 0 = 1) : mE l yX9_matches wsX9_matches ({ frames := 6, cells := 0, slots := 0, locals := 143 }) G (dW G a ra s em i eo es t n d tx rt rn cd su bk co mo m0 m1 kp) (fun u : (Nat → Int32) => dW G a ra s em i eo es t n d tx rt rn cd su bk co u m0 m1 kp) [.ref (a 0), .int x] (.returned (some (.int (maR t n nc np x)))) := by
  refine mE.of (cc := cX9_matches) (maxL := 3) (ret := (some .int)) (by decide) rfl (Nat.le_of_ble_eq_true rfl) ?_
  intro zp ze zs zm zb zt zc ls A hAe C hP hK hD hS hl
  obtain ⟨hx, hb, hr, hml, hown, hts, hlk⟩ := id C
  have hl : lv_has ls 3 [(0, .ref (a 0)), (1, .int x)] := hl
  have hT := hTT.1
  have hT2 := hT.2.2
  have hG := okT_G hTT
  have hLH := okT_L hTT
  have k0 := hts (.fieldLink RX9 45 "DebtDowry" "matcher" "LDebtDowry$Matcher;") (by decide +kernel)
  have k1 := (fun w h => by revert w; decide +kernel : ∀ w ∈ wsX90, w ∈ wsX9_matches)
  have k2 := hts (.fieldLink RX9 28 "DebtDowry" "now" "LDebtDowry$State;") (by decide +kernel)
  have k3 := hts (.fieldLink RX9 19 "DebtDowry" "terms" "LDebtDowry$Terms;") (by decide +kernel)
  have k4 := hts (.fieldLink RX9 274 "DebtDowry$Matcher" "manOf" "[I") (by decide +kernel)
  have k5 := (fun w h => by revert w; decide +kernel : ∀ w ∈ wsX40, w ∈ wsX9_matches)
  have k6 := hts (.constant RX9 155 (-1000000001)) (by decide +kernel)
  refine lv_iload_n hx hb dX9_matches_0 rfl (lv_at hl 1 rfl) ?_
  refine lv_iconst (v := (-1)) hx hb dX9_matches_1 (by decide) ?_
  refine lv_icmp_eq (tgt := 19) hx hb dX9_matches_2 (by decide) (fun cq1 => ?_) (fun cq1 => ?_)
  · skip
    have h2 : x = -1 := cq1
    refine lv_aload_n hx hb dX9_matches_19 rfl (lv_at hl 0 rfl) ?_
    refine va_get (D := G.1) (ci := 9) (v := .ref (a 28)) (C := RX9) (T := TX9) (N := 11) hx hb hts k1 hown hK hP 0 rfl rfl 5 (by decide) k0 (fun _ h9 => h9) rfl dX9_matches_20 ?_
    refine lv_aload_n hx hb dX9_matches_23 rfl (lv_at hl 0 rfl) ?_
    refine va_get (D := G.1) (ci := 9) (v := .ref (a 5)) (C := RX9) (T := TX9) (N := 11) hx hb hts k1 hown hK hP 0 rfl rfl 2 (by decide) k2 (fun _ h9 => h9) rfl dX9_matches_24 ?_
    refine cX_V (Cn := RX4) (n := 1) (As := [.ref (a 5)]) (rest := []) (wsn := dW G a ra s em i eo es t n d tx rt rn cd su bk co (mkM t n nc np (upto mo (fun _ => -1) 8) (mkN t n nc np 8 0)) m0 m1 kp) C (c_X4_pairAll l G (a 28) (a 29) (a 5) (a 6) (a 7) (a 8) (a 9) (a 1) (a 2) (a 3) (a 4) mo t n nc np  hT hO hG hnp) gX9_matches_X4_pairAll rfl ⟨rfl, rfl⟩ hd_X4_pairAll ⟨(Nat.le_of_ble_eq_true rfl), (Nat.le_of_ble_eq_true rfl)⟩ hK hP hD hS [28, 29, 5, 6, 7, 8, 9, 1, 2, 3, 4] (by decide) rfl (msW_f.trans msW_f.symm) rfl (dW_f.trans dW_f.symm) (va_recv hK hP (ci := 4) (q0 := 28) rfl rfl) rfl hl.1 rfl (Nat.le_of_ble_eq_true rfl) dX9_matches_27 ⟨(Nat.le_of_ble_eq_true rfl), (Nat.le_of_ble_eq_true rfl)⟩ (fun H locs hP hD hS => ?_)
    refine lv_istore_n (lv' := [(2, .int (nI (mkN t n nc np 8 0))), (0, .ref (a 0)), (1, .int x)]) hx hb dX9_matches_30 rfl hl (by decide) rfl (fun ls hl => ?_)
    refine lv_iload_n hx hb dX9_matches_31 rfl (lv_at hl 2 rfl) ?_
    refine lv_iconst (v := (-1)) hx hb dX9_matches_32 (by decide) ?_
    refine lv_icmp_ne (tgt := 40) hx hb dX9_matches_33 (by decide) (fun cq2 => ?_) (fun cq2 => ?_)
    · exact absurd h2 cq2
    · skip
      refine lv_iload_n hx hb dX9_matches_36 rfl (lv_at hl 0 rfl) ?_
      refine lv_goto (tgt := 49) hx hb dX9_matches_37 (by decide) ?_
      exact mE_iret hAe C (u := mkM t n nc np (upto mo (fun _ => -1) 8) (mkN t n nc np 8 0)) hP hS dX9_matches_49 (by rw [maR, if_neg (fun q => q.1 h2), if_pos h2])
  · skip
    have h2 := cq1
    refine lv_aload_n hx hb dX9_matches_5 rfl (lv_at hl 0 rfl) ?_
    refine va_get (D := G.1) (ci := 9) (v := .ref (a 1)) (C := RX9) (T := TX9) (N := 11) hx hb hts k1 hown hK hP 0 rfl rfl 1 (by decide) k3 (fun _ h9 => h9) rfl dX9_matches_6 ?_
    refine lv_iload_n hx hb dX9_matches_9 rfl (lv_at hl 1 rfl) ?_
    refine cR_V (Cn := RX8) (n := 1) (As := [.int x]) (rest := []) C (c_X8_isGirl l G (a 1) (a 2) (a 3) (a 4) t nc np x hT) gX9_matches_X8_isGirl rfl ⟨rfl, rfl⟩ hd_X8_isGirl ⟨(Nat.le_of_ble_eq_true rfl), (Nat.le_of_ble_eq_true rfl)⟩ hK (hP.sub [1, 2, 3, 4] rfl) (va_recv hK hP (ci := 8) (q0 := 1) rfl rfl) rfl hl.1 rfl (Nat.le_of_ble_eq_true rfl) dX9_matches_10 ⟨(Nat.le_of_ble_eq_true rfl), (Nat.le_of_ble_eq_true rfl)⟩ ?_
    refine b_if_ne (tgt := 19) hx hb dX9_matches_13 (by decide) (fun cq3 => ?_) (fun cq3 => ?_)
    · skip
      have h10 := cq3
      obtain ⟨xx, hxx, rfl⟩ := inB_nat hT.2.1 (by omega) (And.left cq3)
      have hcl_xx := cl_nI (n := xx) (by omega)
      have hne := nI_m1 (k := xx) (by omega)
      refine lv_aload_n hx hb dX9_matches_19 rfl (lv_at hl 0 rfl) ?_
      refine va_get (D := G.1) (ci := 9) (v := .ref (a 28)) (C := RX9) (T := TX9) (N := 11) hx hb hts k1 hown hK hP 0 rfl rfl 5 (by decide) k0 (fun _ h9 => h9) rfl dX9_matches_20 ?_
      refine lv_aload_n hx hb dX9_matches_23 rfl (lv_at hl 0 rfl) ?_
      refine va_get (D := G.1) (ci := 9) (v := .ref (a 5)) (C := RX9) (T := TX9) (N := 11) hx hb hts k1 hown hK hP 0 rfl rfl 2 (by decide) k2 (fun _ h9 => h9) rfl dX9_matches_24 ?_
      refine cX_V (Cn := RX4) (n := 1) (As := [.ref (a 5)]) (rest := []) (wsn := dW G a ra s em i eo es t n d tx rt rn cd su bk co (mkM t n nc np (upto mo (fun _ => -1) 8) (mkN t n nc np 8 0)) m0 m1 kp) C (c_X4_pairAll l G (a 28) (a 29) (a 5) (a 6) (a 7) (a 8) (a 9) (a 1) (a 2) (a 3) (a 4) mo t n nc np  hT hO hG hnp) gX9_matches_X4_pairAll rfl ⟨rfl, rfl⟩ hd_X4_pairAll ⟨(Nat.le_of_ble_eq_true rfl), (Nat.le_of_ble_eq_true rfl)⟩ hK hP hD hS [28, 29, 5, 6, 7, 8, 9, 1, 2, 3, 4] (by decide) rfl (msW_f.trans msW_f.symm) rfl (dW_f.trans dW_f.symm) (va_recv hK hP (ci := 4) (q0 := 28) rfl rfl) rfl hl.1 rfl (Nat.le_of_ble_eq_true rfl) dX9_matches_27 ⟨(Nat.le_of_ble_eq_true rfl), (Nat.le_of_ble_eq_true rfl)⟩ (fun H locs hP hD hS => ?_)
      refine lv_istore_n (lv' := [(2, .int (nI (mkN t n nc np 8 0))), (0, .ref (a 0)), (1, .int (nI xx))]) hx hb dX9_matches_30 rfl hl (by decide) rfl (fun ls hl => ?_)
      refine lv_iload_n hx hb dX9_matches_31 rfl (lv_at hl 2 rfl) ?_
      refine lv_iconst (v := (-1)) hx hb dX9_matches_32 (by decide) ?_
      refine lv_icmp_ne (tgt := 40) hx hb dX9_matches_33 (by decide) (fun cq4 => ?_) (fun cq4 => ?_)
      · skip
        refine lv_aload_n hx hb dX9_matches_40 rfl (lv_at hl 1 rfl) ?_
        refine va_get (D := G.1) (ci := 9) (v := .ref (a 28)) (C := RX9) (T := TX9) (N := 11) hx hb hts k1 hown hK hP 0 rfl rfl 5 (by decide) k0 (fun _ h9 => h9) rfl dX9_matches_41 ?_
        refine va_get (D := G.1) (ci := 4) (v := .ref (a 29)) (C := RX4) (T := TX4) (N := 1) hx hb hts k5 hown hK hP 28 rfl rfl 0 (by decide) k4 (fun _ h9 => h9) rfl dX9_matches_44 ?_
        refine lv_iload_n hx hb dX9_matches_47 rfl (lv_at hl 2 rfl) ?_
        refine n_iald hx hb hK hP 29 0 rfl rfl (j := xx) rfl (by omega) (by decide) dX9_matches_48 ?_
        exact mE_iret hAe C (u := mkM t n nc np (upto mo (fun _ => -1) 8) (mkN t n nc np 8 0)) hP hS dX9_matches_49 (by rw [maR, if_neg (fun q => q.2 h10), if_neg hne, hcl_xx]; exact mkM_c (fun k hk => if_pos hk) _ _ (by omega))
      · exact absurd cq4 hne
    · skip
      refine lv_ldc hx hb hown k6 dX9_matches_16 ?_
      exact mE_iret hAe C (u := mo) hP hS dX9_matches_18 (by rw [maR, if_pos ⟨h2, cq3⟩])
theorem hd_X9_failing : yX9_failing.cls = RX9 ∧ yX9_failing.cls ≠ "java/lang/invoke/MethodHandle" ∧ yX9_failing.cls ≠ "java/lang/invoke/VarHandle" ∧ (parseMethodDescriptor yX9_failing.desc).map (fun d => d.parameters.length) = some 0 := by decide +kernel
set_option maxRecDepth 100000 in
set_option maxHeartbeats 4000000 in
theorem c_X9_failing (l : Launch) (G : gG) (a : Nat → Nat) (ra : Nat → Nat → Nat) (s : RSt) (em : Int32) (i : Nat → Int32) (eo : Nat → Int32) (es : Nat → Int32) (t : Nat → Int32) (n : Nat → Int32) (d : Nat → Int32) (tx : Nat → Int32) (rt : Nat → Int32) (rn : Nat → Int32) (cd : Nat → Int32) (su : Nat → Int32) (bk : Nat → Int32) (co : Nat → Int32) (mo : Nat → Int32) (m0 : Nat → Int32) (m1 : Nat → Int32) (kp : Nat → Int32) (nc : Nat) (np : Nat) (hTT : okT t nc np) (hO : okS t n nc np) : mE l yX9_failing wsX9_failing ({ frames := 5, cells := 0, slots := 0, locals := 111 }) G (dW G a ra s em i eo es t n d tx rt rn cd su bk co mo m0 m1 kp) (fun u : (Nat → Int32) => dW G a ra s em i eo es t n u tx rt rn cd su bk co mo m0 m1 kp) [.ref (a 0)] (.returned (some (.int (qgF t n nc np 52 &&& (n 52 ^^^ (-1)))))) := by
  refine mE.of (cc := cX9_failing) (maxL := 1) (ret := (some .int)) (by decide) rfl (Nat.le_of_ble_eq_true rfl) ?_
  intro zp ze zs zm zb zt zc ls A hAe C hP hK hD hS hl
  obtain ⟨hx, hb, hr, hml, hown, hts, hlk⟩ := id C
  have hl : lv_has ls 1 [(0, .ref (a 0))] := hl
  have hT := hTT.1
  have hT2 := hT.2.2
  have hG := okT_G hTT
  have hLH := okT_L hTT
  have k0 := hts (.fieldLink RX9 32 "DebtDowry" "tried" "LDebtDowry$State;") (by decide +kernel)
  have k1 := (fun w h => by revert w; decide +kernel : ∀ w ∈ wsX90, w ∈ wsX9_failing)
  have k2 := hts (.fieldLink RX9 28 "DebtDowry" "now" "LDebtDowry$State;") (by decide +kernel)
  refine lv_aload_n hx hb dX9_failing_0 rfl (lv_at hl 0 rfl) ?_
  refine va_get (D := G.1) (ci := 9) (v := .ref (a 10)) (C := RX9) (T := TX9) (N := 11) hx hb hts k1 hown hK hP 0 rfl rfl 3 (by decide) k0 (fun _ h9 => h9) rfl dX9_failing_1 ?_
  refine lv_aload_n hx hb dX9_failing_4 rfl (lv_at hl 0 rfl) ?_
  refine va_get (D := G.1) (ci := 9) (v := .ref (a 5)) (C := RX9) (T := TX9) (N := 11) hx hb hts k1 hown hK hP 0 rfl rfl 2 (by decide) k2 (fun _ h9 => h9) rfl dX9_failing_5 ?_
  refine cX_V (Cn := RX7) (n := 1) (As := [.ref (a 5)]) (rest := []) (wsn := dW G a ra s em i eo es t n n tx rt rn cd su bk co mo m0 m1 kp) C (c_X7_take l G (a 10) (a 11) (a 12) (a 13) (a 14) (a 5) (a 6) (a 7) (a 8) (a 9) (a 1) (a 1) d n   ) gX9_failing_X7_take rfl ⟨rfl, rfl⟩ hd_X7_take ⟨(Nat.le_of_ble_eq_true rfl), (Nat.le_of_ble_eq_true rfl)⟩ hK hP hD hS [10, 11, 12, 13, 14, 5, 6, 7, 8, 9] (by decide) rfl (s2W_f.trans s2W_f.symm) rfl (dW_f.trans dW_f.symm) (va_recv hK hP (ci := 7) (q0 := 10) rfl rfl) rfl hl.1 rfl (Nat.le_of_ble_eq_true rfl) dX9_failing_8 ⟨(Nat.le_of_ble_eq_true rfl), (Nat.le_of_ble_eq_true rfl)⟩ (fun H locs hP hD hS => ?_)
  refine lv_aload_n hx hb dX9_failing_11 rfl (lv_at hl 0 rfl) ?_
  refine va_get (D := G.1) (ci := 9) (v := .ref (a 10)) (C := RX9) (T := TX9) (N := 11) hx hb hts k1 hown hK hP 0 rfl rfl 3 (by decide) k0 (fun _ h9 => h9) rfl dX9_failing_12 ?_
  refine cX_V (Cn := RX7) (n := 0) (As := []) (rest := []) (wsn := dW G a ra s em i eo es t n (qgF t n nc np) tx rt rn cd su bk co mo m0 m1 kp) C (c_X7_passQuarter l G (a 10) (a 11) (a 12) (a 13) (a 14) (a 1) (a 2) (a 3) (a 4) t n nc np  hT hO) gX9_failing_X7_passQuarter rfl ⟨rfl, rfl⟩ hd_X7_passQuarter ⟨(Nat.le_of_ble_eq_true rfl), (Nat.le_of_ble_eq_true rfl)⟩ hK hP hD hS [10, 11, 12, 13, 14, 1, 2, 3, 4] (by decide) rfl (sW_f.trans sW_f.symm) rfl (dW_f.trans dW_f.symm) (va_recv hK hP (ci := 7) (q0 := 10) rfl rfl) rfl hl.1 rfl (Nat.le_of_ble_eq_true rfl) dX9_failing_15 ⟨(Nat.le_of_ble_eq_true rfl), (Nat.le_of_ble_eq_true rfl)⟩ (fun H locs hP hD hS => ?_)
  exact mE_iret hAe C (u := qgF t n nc np) hP hS dX9_failing_18 (fail_eq hT2.1)
theorem hd_X9_run : yX9_run.cls = RX9 ∧ yX9_run.cls ≠ "java/lang/invoke/MethodHandle" ∧ yX9_run.cls ≠ "java/lang/invoke/VarHandle" ∧ (parseMethodDescriptor yX9_run.desc).map (fun d => d.parameters.length) = some 1 := by decide +kernel
set_option maxRecDepth 100000 in
set_option maxHeartbeats 4000000 in
theorem c_X9_run (l : Launch) (G : gG) (a : Nat → Nat) (ra : Nat → Nat → Nat) (s : RSt) (em : Int32) (i : Nat → Int32) (eo : Nat → Int32) (es : Nat → Int32) (t : Nat → Int32) (n : Nat → Int32) (d : Nat → Int32) (tx : Nat → Int32) (rt : Nat → Int32) (rn : Nat → Int32) (cd : Nat → Int32) (su : Nat → Int32) (bk : Nat → Int32) (co : Nat → Int32) (mo : Nat → Int32) (m0 : Nat → Int32) (m1 : Nat → Int32) (kp : Nat → Int32) (nc : Nat) (np : Nat) (x : Int32) (hTT : okT t nc np) (hO : okS t n nc np) : mE l yX9_run wsX9_run ({ frames := 5, cells := 0, slots := 0, locals := 111 }) G (dW G a ra s em i eo es t n d tx rt rn cd su bk co mo m0 m1 kp) (fun u : (Nat → Int32) => dW G a ra s em i eo es t n u tx rt rn cd su bk co mo m0 m1 kp) [.ref (a 0), .int x] (.returned (some (.int (if ¬ inB x 1 20 then cOUT else nQ t nc np n (cl x) 52)))) := by
  refine mE.of (cc := cX9_run) (maxL := 3) (ret := (some .int)) (by decide) rfl (Nat.le_of_ble_eq_true rfl) ?_
  intro zp ze zs zm zb zt zc ls A hAe C hP hK hD hS hl
  obtain ⟨hx, hb, hr, hml, hown, hts, hlk⟩ := id C
  have hl : lv_has ls 3 [(0, .ref (a 0)), (1, .int x)] := hl
  have hT := hTT.1
  have hT2 := hT.2.2
  have hG := okT_G hTT
  have hLH := okT_L hTT
  have k0 := hts (.constant RX9 81 (-1000000002)) (by decide +kernel)
  have k1 := hts (.fieldLink RX9 32 "DebtDowry" "tried" "LDebtDowry$State;") (by decide +kernel)
  have k2 := (fun w h => by revert w; decide +kernel : ∀ w ∈ wsX90, w ∈ wsX9_run)
  have k3 := hts (.fieldLink RX9 28 "DebtDowry" "now" "LDebtDowry$State;") (by decide +kernel)
  have k4 := hts (.fieldLink RX9 145 "DebtDowry$State" "failed" "I") (by decide +kernel)
  have k5 := (fun w h => by revert w; decide +kernel : ∀ w ∈ wsX70, w ∈ wsX9_run)
  refine lv_iload_n hx hb dX9_run_0 rfl (lv_at hl 1 rfl) ?_
  refine lv_iconst (v := 1) hx hb dX9_run_1 (by decide) ?_
  refine lv_icmp_lt (tgt := 11) hx hb dX9_run_2 (by decide) (fun cq1 => ?_) (fun cq1 => ?_)
  · skip
    have hin : ¬ inB x 1 20 := fun q => i32_nle.mpr cq1 q.1
    refine lv_ldc hx hb hown k0 dX9_run_11 ?_
    exact mE_iret hAe C (u := d) hP hS dX9_run_13 ((if_pos hin).symm)
  · skip
    have hinl := i32_nlt.mp cq1
    refine lv_iload_n hx hb dX9_run_5 rfl (lv_at hl 1 rfl) ?_
    refine lv_bipush (v := 20) hx hb dX9_run_6 (by decide) ?_
    refine lv_icmp_le (tgt := 14) hx hb dX9_run_8 (by decide) (fun cq2 => ?_) (fun cq2 => ?_)
    · skip
      have hin : inB x 1 20 := ⟨hinl, cq2⟩
      obtain ⟨kk, hkk1, hkk2, rfl⟩ := inB_rng (a := 1) (b := 20) rfl rfl (by decide) (by decide) (hin)
      have hcl_kk := cl_nI (n := kk) (by omega)
      refine lv_aload_n hx hb dX9_run_14 rfl (lv_at hl 0 rfl) ?_
      refine va_get (D := G.1) (ci := 9) (v := .ref (a 10)) (C := RX9) (T := TX9) (N := 11) hx hb hts k2 hown hK hP 0 rfl rfl 3 (by decide) k1 (fun _ h9 => h9) rfl dX9_run_15 ?_
      refine lv_aload_n hx hb dX9_run_18 rfl (lv_at hl 0 rfl) ?_
      refine va_get (D := G.1) (ci := 9) (v := .ref (a 5)) (C := RX9) (T := TX9) (N := 11) hx hb hts k2 hown hK hP 0 rfl rfl 2 (by decide) k3 (fun _ h9 => h9) rfl dX9_run_19 ?_
      refine cX_V (Cn := RX7) (n := 1) (As := [.ref (a 5)]) (rest := []) (wsn := dW G a ra s em i eo es t n n tx rt rn cd su bk co mo m0 m1 kp) C (c_X7_take l G (a 10) (a 11) (a 12) (a 13) (a 14) (a 5) (a 6) (a 7) (a 8) (a 9) (a 1) (a 1) d n   ) gX9_run_X7_take rfl ⟨rfl, rfl⟩ hd_X7_take ⟨(Nat.le_of_ble_eq_true rfl), (Nat.le_of_ble_eq_true rfl)⟩ hK hP hD hS [10, 11, 12, 13, 14, 5, 6, 7, 8, 9] (by decide) rfl (s2W_f.trans s2W_f.symm) rfl (dW_f.trans dW_f.symm) (va_recv hK hP (ci := 7) (q0 := 10) rfl rfl) rfl hl.1 rfl (Nat.le_of_ble_eq_true rfl) dX9_run_22 ⟨(Nat.le_of_ble_eq_true rfl), (Nat.le_of_ble_eq_true rfl)⟩ (fun H locs hP hD hS => ?_)
      refine lv_iconst (v := 0) hx hb dX9_run_25 (by decide) ?_
      refine lv_istore_n (lv' := [(2, .int 0), (0, .ref (a 0)), (1, .int (nI kk))]) hx hb dX9_run_26 rfl hl (by decide) rfl (fun ls hl => ?_)
      refine wl_X (B := kk) (i0 := 0) (Inv := fun i1 H locs ls => va_P G.1 vwCl (dW G a ra s em i eo es t n (nQ t nc np n i1) tx rt rn cd su bk co mo m0 m1 kp) H ∧ va_D A (dW G a ra s em i eo es t n (nQ t nc np n i1) tx rt rn cd su bk co mo m0 m1 kp) ∧ va_S A zs.heap H locs ∧ lv_has ls 3 [(0, .ref (a 0)), (1, .int (nI kk)), (2, .int (nI i1))] ∧ True) (by omega) ⟨hP, hD, hS, lv_sub hl [1, 2, 0] (rfl), trivial⟩ ?_
      rintro i1 H locs ls hle27 ⟨hP, hD, hS, hl, -⟩ ih27
      refine lv_iload_n hx hb dX9_run_27 rfl (lv_at hl 2 rfl) ?_
      refine lv_iload_n hx hb dX9_run_28 rfl (lv_at hl 1 rfl) ?_
      refine n_icmp_ge (tgt := 46) hx hb dX9_run_29 (by decide) (u := i1) (v := kk) rfl rfl (by omega) (by omega) (fun cq3 => ?_) (fun cq3 => ?_)
      · skip
        obtain rfl : kk = i1 := by omega
        refine lv_aload_n hx hb dX9_run_46 rfl (lv_at hl 0 rfl) ?_
        refine va_get (D := G.1) (ci := 9) (v := .ref (a 10)) (C := RX9) (T := TX9) (N := 11) hx hb hts k2 hown hK hP 0 rfl rfl 3 (by decide) k1 (fun _ h9 => h9) rfl dX9_run_47 ?_
        refine va_get (D := G.1) (ci := 7) (v := .int ((nQ t nc np n kk) 52)) (C := RX7) (T := TX7) (N := 7) hx hb hts k5 hown hK hP 10 rfl rfl 5 (by decide) k4 (fun _ h9 => h9) rfl dX9_run_50 ?_
        exact mE_iret hAe C (u := nQ t nc np n kk) hP hS dX9_run_53 (by rw [if_neg (not_not_intro hin), hcl_kk])
      · skip
        refine lv_aload_n hx hb dX9_run_32 rfl (lv_at hl 0 rfl) ?_
        refine va_get (D := G.1) (ci := 9) (v := .ref (a 10)) (C := RX9) (T := TX9) (N := 11) hx hb hts k2 hown hK hP 0 rfl rfl 3 (by decide) k1 (fun _ h9 => h9) rfl dX9_run_33 ?_
        refine cX_V (Cn := RX7) (n := 0) (As := []) (rest := []) (wsn := dW G a ra s em i eo es t n (qgF t (nQ t nc np n i1) nc np) tx rt rn cd su bk co mo m0 m1 kp) C (c_X7_passQuarter l G (a 10) (a 11) (a 12) (a 13) (a 14) (a 1) (a 2) (a 3) (a 4) t (nQ t nc np n i1) nc np  hT (okS_nQ hTT hO i1)) gX9_run_X7_passQuarter rfl ⟨rfl, rfl⟩ hd_X7_passQuarter ⟨(Nat.le_of_ble_eq_true rfl), (Nat.le_of_ble_eq_true rfl)⟩ hK hP hD hS [10, 11, 12, 13, 14, 1, 2, 3, 4] (by decide) rfl (sW_f.trans sW_f.symm) rfl (dW_f.trans dW_f.symm) (va_recv hK hP (ci := 7) (q0 := 10) rfl rfl) rfl hl.1 rfl (Nat.le_of_ble_eq_true rfl) dX9_run_36 ⟨(Nat.le_of_ble_eq_true rfl), (Nat.le_of_ble_eq_true rfl)⟩ (fun H locs hP hD hS => ?_)
        refine lv_pop hx hb dX9_run_39 rfl ?_
        refine lv_iinc (v := nI (i1 + 1)) (lv' := [(2, .int (nI (i1 + 1))), (0, .ref (a 0)), (1, .int (nI kk))]) hx hb dX9_run_40 hl (k := 2) rfl (by rw [show (nI i1 : Int32) = nI i1 from rfl]; exact nI_add _ 1) (by decide) rfl (fun ls hl => ?_)
        refine lv_goto (tgt := 27) hx hb dX9_run_43 (by decide) ?_
        have e4 : qgF t (nQ t nc np n i1) nc np = nQ t nc np n (i1 + 1) := rfl
        rw [e4] at hP hD
        exact ih27 _ _ _ (by omega) ⟨hP, hD, hS, lv_sub hl [1, 2, 0] (rfl), trivial⟩
    · skip
      have hin : ¬ inB x 1 20 := fun q => cq2 q.2
      refine lv_ldc hx hb hown k0 dX9_run_11 ?_
      exact mE_iret hAe C (u := d) hP hS dX9_run_13 ((if_pos hin).symm)
theorem hd_X9_credit : yX9_credit.cls = RX9 ∧ yX9_credit.cls ≠ "java/lang/invoke/MethodHandle" ∧ yX9_credit.cls ≠ "java/lang/invoke/VarHandle" ∧ (parseMethodDescriptor yX9_credit.desc).map (fun d => d.parameters.length) = some 2 := by decide +kernel
set_option maxRecDepth 100000 in
set_option maxHeartbeats 4000000 in
theorem c_X9_credit (l : Launch) (G : gG) (a : Nat → Nat) (i : Nat → Int32) (t : Nat → Int32) (n : Nat → Int32) (nc : Nat) (np : Nat) (p : Int32) (c : Int32) (hTT : okT t nc np) (hO : okS t n nc np) : mR l yX9_credit wsX9_credit ({ frames := 4, cells := 0, slots := 0, locals := 86 }) G (uW G a i t n) [.ref (a 0), .int p, .int c] (cdR t n p c) := by
  refine mR.of (cc := cX9_credit) (maxL := 5) (ret := (some .int)) (by decide) rfl (Nat.le_of_ble_eq_true rfl) ?_
  intro zp ze zs zm zb zt zc ls C hP hK hl
  obtain ⟨hx, hb, hr, hml, hown, hts, hlk⟩ := id C
  have hl : lv_has ls 5 [(0, .ref (a 0)), (1, .int p), (2, .int c)] := hl
  have hT := hTT.1
  have hT2 := hT.2.2
  have hG := okT_G hTT
  have hLH := okT_L hTT
  have k0 := hts (.fieldLink RX9 19 "DebtDowry" "terms" "LDebtDowry$Terms;") (by decide +kernel)
  have k1 := (fun w h => by revert w; decide +kernel : ∀ w ∈ wsX90, w ∈ wsX9_credit)
  have k2 := hts (.fieldLink RX9 28 "DebtDowry" "now" "LDebtDowry$State;") (by decide +kernel)
  have k3 := hts (.fieldLink RX9 156 "DebtDowry$State" "purse" "[I") (by decide +kernel)
  have k4 := (fun w h => by revert w; decide +kernel : ∀ w ∈ wsX70, w ∈ wsX9_credit)
  have k5 := hts (.fieldLink RX9 163 "DebtDowry$Terms" "high" "[I") (by decide +kernel)
  have k6 := (fun w h => by revert w; decide +kernel : ∀ w ∈ wsX80, w ∈ wsX9_credit)
  have k7 := hts (.methodLink RX9 277 Lib.Math.min.name) (by decide +kernel)
  have k8 := hts (.static Lib.Math.min.name) (by decide +kernel)
  have k9 := hts (.initialized "java/lang/Math") (by decide +kernel)
  have k10 := hts (.code Lib.Math.min.name Lib.Math.min.code 2 (some .int)) (by decide +kernel)
  have k11 := hts (.constant RX9 155 (-1000000001)) (by decide +kernel)
  refine lv_aload_n hx hb dX9_credit_0 rfl (lv_at hl 0 rfl) ?_
  refine va_get (D := G.1) (ci := 9) (v := .ref (a 1)) (C := RX9) (T := TX9) (N := 11) hx hb hts k1 hown hK hP 0 rfl rfl 1 (by decide) k0 (fun _ h9 => h9) rfl dX9_credit_1 ?_
  refine lv_iload_n hx hb dX9_credit_4 rfl (lv_at hl 1 rfl) ?_
  refine lv_iload_n hx hb dX9_credit_5 rfl (lv_at hl 2 rfl) ?_
  refine cR_V (Cn := RX8) (n := 2) (As := [.int p, .int c]) (rest := []) C (c_X8_hasBoth l G (a 1) (a 2) (a 3) (a 4) t nc np p c hT) gX9_credit_X8_hasBoth rfl ⟨rfl, rfl⟩ hd_X8_hasBoth ⟨(Nat.le_of_ble_eq_true rfl), (Nat.le_of_ble_eq_true rfl)⟩ hK (hP.sub [1, 2, 3, 4] rfl) (va_recv hK hP (ci := 8) (q0 := 1) rfl rfl) rfl hl.1 rfl (Nat.le_of_ble_eq_true rfl) dX9_credit_6 ⟨(Nat.le_of_ble_eq_true rfl), (Nat.le_of_ble_eq_true rfl)⟩ ?_
  refine b_if_ne (tgt := 15) hx hb dX9_credit_9 (by decide) (fun cq1 => ?_) (fun cq1 => ?_)
  · skip
    obtain ⟨pp, hpp, rfl⟩ := inB_nat hT.2.1 (by omega) (And.left cq1)
    have hcl_pp := cl_nI (n := pp) (by omega)
    obtain ⟨cc, hcc, rfl⟩ := inB_nat hT.1 (by omega) (And.right cq1)
    have hcl_cc := cl_nI (n := cc) (by omega)
    have hPC := cq1
    obtain ⟨ow, pu, hi, hoe, hpe, hhe, how, hpu, hhi, hA1, hA2, hA3⟩ := credit_eq hTT hO hpp hcc
    refine lv_aload_n hx hb dX9_credit_15 rfl (lv_at hl 0 rfl) ?_
    refine va_get (D := G.1) (ci := 9) (v := .ref (a 5)) (C := RX9) (T := TX9) (N := 11) hx hb hts k1 hown hK hP 0 rfl rfl 2 (by decide) k2 (fun _ h9 => h9) rfl dX9_credit_16 ?_
    refine lv_iload_n hx hb dX9_credit_19 rfl (lv_at hl 1 rfl) ?_
    refine lv_iload_n hx hb dX9_credit_20 rfl (lv_at hl 2 rfl) ?_
    refine cR_V (Cn := RX7) (n := 2) (As := [.int (nI pp), .int (nI cc)]) (rest := []) C (c_X7_owedTo l G (a 5) (a 6) (a 7) (a 8) (a 9) (a 1) (a 2) (a 3) (a 4) t n  pp cc (by omega) (by omega)) gX9_credit_X7_owedTo rfl ⟨rfl, rfl⟩ hd_X7_owedTo ⟨(Nat.le_of_ble_eq_true rfl), (Nat.le_of_ble_eq_true rfl)⟩ hK (hP.sub [5, 6, 7, 8, 9, 1, 2, 3, 4] rfl) (va_recv hK hP (ci := 7) (q0 := 5) rfl rfl) rfl hl.1 rfl (Nat.le_of_ble_eq_true rfl) dX9_credit_21 ⟨(Nat.le_of_ble_eq_true rfl), (Nat.le_of_ble_eq_true rfl)⟩ ?_
    refine lv_istore_n (lv' := [(3, .int (n (4 * pp + cc))), (0, .ref (a 0)), (1, .int (nI pp)), (2, .int (nI cc))]) hx hb dX9_credit_24 rfl hl (by decide) rfl (fun ls hl => ?_)
    refine lv_aload_n hx hb dX9_credit_25 rfl (lv_at hl 1 rfl) ?_
    refine va_get (D := G.1) (ci := 9) (v := .ref (a 5)) (C := RX9) (T := TX9) (N := 11) hx hb hts k1 hown hK hP 0 rfl rfl 2 (by decide) k2 (fun _ h9 => h9) rfl dX9_credit_26 ?_
    refine va_get (D := G.1) (ci := 7) (v := .ref (a 7)) (C := RX7) (T := TX7) (N := 7) hx hb hts k4 hown hK hP 5 rfl rfl 2 (by decide) k3 (fun _ h9 => h9) rfl dX9_credit_29 ?_
    refine lv_iload_n hx hb dX9_credit_32 rfl (lv_at hl 3 rfl) ?_
    refine n_iald hx hb hK hP 7 0 rfl rfl (j := cc) rfl (by omega) (by decide) dX9_credit_33 ?_
    refine lv_aload_n hx hb dX9_credit_34 rfl (lv_at hl 1 rfl) ?_
    refine va_get (D := G.1) (ci := 9) (v := .ref (a 1)) (C := RX9) (T := TX9) (N := 11) hx hb hts k1 hown hK hP 0 rfl rfl 1 (by decide) k0 (fun _ h9 => h9) rfl dX9_credit_35 ?_
    refine va_get (D := G.1) (ci := 8) (v := .ref (a 3)) (C := RX8) (T := TX8) (N := 9) hx hb hts k6 hown hK hP 1 rfl rfl 7 (by decide) k5 (fun _ h9 => h9) rfl dX9_credit_38 ?_
    refine lv_iload_n hx hb dX9_credit_41 rfl (lv_at hl 3 rfl) ?_
    refine n_iald hx hb hK hP 3 0 rfl rfl (j := cc) rfl (by omega) (by decide) dX9_credit_42 ?_
    refine lv_iload_n hx hb dX9_credit_43 rfl (lv_at hl 0 rfl) ?_
    refine lv_isub hx hb dX9_credit_44 ?_
    refine va_mmin hx hb (hml.trans hl.1.symm) hown k7 k8 k9 k10 (Nat.le_of_ble_eq_true rfl) (Nat.le_of_ble_eq_true rfl) (Nat.le_of_ble_eq_true rfl) (Nat.le_of_ble_eq_true rfl) dX9_credit_45 ?_
    refine lv_istore (lv' := [(4, .int (if ((t (13 + cc)) - (n (4 * pp + cc))) < (n (32 + cc)) then ((t (13 + cc)) - (n (4 * pp + cc))) else (n (32 + cc)))), (3, .int (n (4 * pp + cc))), (0, .ref (a 0)), (1, .int (nI pp)), (2, .int (nI cc))]) hx hb dX9_credit_48 hl (by decide) rfl (fun ls hl => ?_)
    refine lv_iload hx hb dX9_credit_50 (lv_at hl 0 rfl) ?_
    refine lv_if_lt (tgt := 74) hx hb dX9_credit_52 (by decide) (fun cq2 => ?_) (fun cq2 => ?_)
    · skip
      have hlt : hi < ow := cr_neg hoe hpe hhe how hpu hhi cq2
      refine lv_iconst (v := (-1)) hx hb dX9_credit_74 (by decide) ?_
      exact mR_iret C dX9_credit_75 (by unfold cdR; rw [if_neg (not_not_intro hPC), hcl_pp, hcl_cc]; exact (hA1 hlt).symm)
    · skip
      obtain ⟨hle, hms⟩ := cr_pos hoe hpe hhe how hpu hhi cq2
      rw [hms] at hl
      refine lv_iload hx hb dX9_credit_55 (lv_at hl 0 rfl) ?_
      refine lv_if_le (tgt := 76) hx hb dX9_credit_57 (by decide) (fun cq3 => ?_) (fun cq3 => ?_)
      · skip
        have hm0 : min pu (hi - ow) = 0 := np_0 rfl (by omega) cq3
        have hor : min pu (hi - ow) = 0 ∨ mayB t n pp cc (nI (min pu (hi - ow))) := Or.inl hm0
        refine lv_aload_n hx hb dX9_credit_76 rfl (lv_at hl 2 rfl) ?_
        refine va_get (D := G.1) (ci := 9) (v := .ref (a 5)) (C := RX9) (T := TX9) (N := 11) hx hb hts k1 hown hK hP 0 rfl rfl 2 (by decide) k2 (fun _ h9 => h9) rfl dX9_credit_77 ?_
        refine lv_iload_n hx hb dX9_credit_80 rfl (lv_at hl 4 rfl) ?_
        refine lv_iload_n hx hb dX9_credit_81 rfl (lv_at hl 1 rfl) ?_
        refine lv_iload hx hb dX9_credit_82 (lv_at hl 0 rfl) ?_
        refine lv_iadd hx hb dX9_credit_84 ?_
        refine lv_aload_n hx hb dX9_credit_85 rfl (lv_at hl 2 rfl) ?_
        refine va_get (D := G.1) (ci := 9) (v := .ref (a 5)) (C := RX9) (T := TX9) (N := 11) hx hb hts k1 hown hK hP 0 rfl rfl 2 (by decide) k2 (fun _ h9 => h9) rfl dX9_credit_86 ?_
        refine lv_iload_n hx hb dX9_credit_89 rfl (lv_at hl 3 rfl) ?_
        refine lv_iload_n hx hb dX9_credit_90 rfl (lv_at hl 4 rfl) ?_
        refine cR_V (Cn := RX7) (n := 2) (As := [.int (nI pp), .int (nI cc)]) (rest := [.int ((n (4 * pp + cc)) + (nI (min pu (hi - ow)))), .int (nI cc), .ref (a 5)]) C (c_X7_hasInsulted l G (a 5) (a 6) (a 7) (a 8) (a 9) (a 1) (a 2) (a 3) (a 4) t n  pp cc (by omega)) gX9_credit_X7_hasInsulted rfl ⟨rfl, rfl⟩ hd_X7_hasInsulted ⟨(Nat.le_of_ble_eq_true rfl), (Nat.le_of_ble_eq_true rfl)⟩ hK (hP.sub [5, 6, 7, 8, 9, 1, 2, 3, 4] rfl) (va_recv hK hP (ci := 7) (q0 := 5) rfl rfl) rfl hl.1 rfl (Nat.le_of_ble_eq_true rfl) dX9_credit_91 ⟨(Nat.le_of_ble_eq_true rfl), (Nat.le_of_ble_eq_true rfl)⟩ ?_
        refine cR_V (Cn := RX7) (n := 3) (As := [.int (nI cc), .int ((n (4 * pp + cc)) + (nI (min pu (hi - ow)))), .int (bI (hasB (n (36 + pp)) cc))]) (rest := []) C (c_X7_moodBy l G (a 5) (a 6) (a 7) (a 8) (a 9) (a 1) (a 2) (a 3) (a 4) t n  cc ((n (4 * pp + cc)) + (nI (min pu (hi - ow)))) (hasB (n (36 + pp)) cc) (by omega)) gX9_credit_X7_moodBy rfl ⟨rfl, rfl⟩ hd_X7_moodBy ⟨(Nat.le_of_ble_eq_true rfl), (Nat.le_of_ble_eq_true rfl)⟩ hK (hP.sub [5, 6, 7, 8, 9, 1, 2, 3, 4] rfl) (va_recv hK hP (ci := 7) (q0 := 5) rfl rfl) rfl hl.1 rfl (Nat.le_of_ble_eq_true rfl) dX9_credit_94 ⟨(Nat.le_of_ble_eq_true rfl), (Nat.le_of_ble_eq_true rfl)⟩ ?_
        refine lv_iconst (v := 1) hx hb dX9_credit_97 (by decide) ?_
        refine lv_icmp_ne (tgt := 106) hx hb dX9_credit_98 (by decide) (fun cq4 => ?_) (fun cq4 => ?_)
        · skip
          have hmd := cq4
          rw [hoe] at hmd
          refine lv_iconst (v := (-1)) hx hb dX9_credit_106 (by decide) ?_
          exact mR_iret C dX9_credit_107 (by unfold cdR; rw [if_neg (not_not_intro hPC), hcl_pp, hcl_cc]; rw [hA3 hle hor, if_neg hmd])
        · skip
          have hmd := cq4
          rw [hoe] at hmd
          refine lv_iload hx hb dX9_credit_101 (lv_at hl 0 rfl) ?_
          refine lv_goto (tgt := 107) hx hb dX9_credit_103 (by decide) ?_
          exact mR_iret C dX9_credit_107 (by unfold cdR; rw [if_neg (not_not_intro hPC), hcl_pp, hcl_cc]; rw [hA3 hle hor, if_pos hmd])
      · skip
        have hm0 := np_1 rfl cq3
        refine lv_aload_n hx hb dX9_credit_60 rfl (lv_at hl 2 rfl) ?_
        refine va_get (D := G.1) (ci := 9) (v := .ref (a 5)) (C := RX9) (T := TX9) (N := 11) hx hb hts k1 hown hK hP 0 rfl rfl 2 (by decide) k2 (fun _ h9 => h9) rfl dX9_credit_61 ?_
        refine lv_iload_n hx hb dX9_credit_64 rfl (lv_at hl 3 rfl) ?_
        refine lv_iload_n hx hb dX9_credit_65 rfl (lv_at hl 4 rfl) ?_
        refine lv_iload hx hb dX9_credit_66 (lv_at hl 0 rfl) ?_
        refine cR_V (Cn := RX7) (n := 3) (As := [.int (nI pp), .int (nI cc), .int (nI (min pu (hi - ow)))]) (rest := []) C (c_X7_mayBorrow l G (a 5) (a 6) (a 7) (a 8) (a 9) (a 1) (a 2) (a 3) (a 4) t n nc np pp cc (nI (min pu (hi - ow))) hT (by omega) (by omega)) gX9_credit_X7_mayBorrow rfl ⟨rfl, rfl⟩ hd_X7_mayBorrow ⟨(Nat.le_of_ble_eq_true rfl), (Nat.le_of_ble_eq_true rfl)⟩ hK (hP.sub [5, 6, 7, 8, 9, 1, 2, 3, 4] rfl) (va_recv hK hP (ci := 7) (q0 := 5) rfl rfl) rfl hl.1 rfl (Nat.le_of_ble_eq_true rfl) dX9_credit_68 ⟨(Nat.le_of_ble_eq_true rfl), (Nat.le_of_ble_eq_true rfl)⟩ ?_
        refine b_if_ne (tgt := 76) hx hb dX9_credit_71 (by decide) (fun cq5 => ?_) (fun cq5 => ?_)
        · skip
          have hor : min pu (hi - ow) = 0 ∨ mayB t n pp cc (nI (min pu (hi - ow))) := Or.inr cq5
          refine lv_aload_n hx hb dX9_credit_76 rfl (lv_at hl 2 rfl) ?_
          refine va_get (D := G.1) (ci := 9) (v := .ref (a 5)) (C := RX9) (T := TX9) (N := 11) hx hb hts k1 hown hK hP 0 rfl rfl 2 (by decide) k2 (fun _ h9 => h9) rfl dX9_credit_77 ?_
          refine lv_iload_n hx hb dX9_credit_80 rfl (lv_at hl 4 rfl) ?_
          refine lv_iload_n hx hb dX9_credit_81 rfl (lv_at hl 1 rfl) ?_
          refine lv_iload hx hb dX9_credit_82 (lv_at hl 0 rfl) ?_
          refine lv_iadd hx hb dX9_credit_84 ?_
          refine lv_aload_n hx hb dX9_credit_85 rfl (lv_at hl 2 rfl) ?_
          refine va_get (D := G.1) (ci := 9) (v := .ref (a 5)) (C := RX9) (T := TX9) (N := 11) hx hb hts k1 hown hK hP 0 rfl rfl 2 (by decide) k2 (fun _ h9 => h9) rfl dX9_credit_86 ?_
          refine lv_iload_n hx hb dX9_credit_89 rfl (lv_at hl 3 rfl) ?_
          refine lv_iload_n hx hb dX9_credit_90 rfl (lv_at hl 4 rfl) ?_
          refine cR_V (Cn := RX7) (n := 2) (As := [.int (nI pp), .int (nI cc)]) (rest := [.int ((n (4 * pp + cc)) + (nI (min pu (hi - ow)))), .int (nI cc), .ref (a 5)]) C (c_X7_hasInsulted l G (a 5) (a 6) (a 7) (a 8) (a 9) (a 1) (a 2) (a 3) (a 4) t n  pp cc (by omega)) gX9_credit_X7_hasInsulted rfl ⟨rfl, rfl⟩ hd_X7_hasInsulted ⟨(Nat.le_of_ble_eq_true rfl), (Nat.le_of_ble_eq_true rfl)⟩ hK (hP.sub [5, 6, 7, 8, 9, 1, 2, 3, 4] rfl) (va_recv hK hP (ci := 7) (q0 := 5) rfl rfl) rfl hl.1 rfl (Nat.le_of_ble_eq_true rfl) dX9_credit_91 ⟨(Nat.le_of_ble_eq_true rfl), (Nat.le_of_ble_eq_true rfl)⟩ ?_
          refine cR_V (Cn := RX7) (n := 3) (As := [.int (nI cc), .int ((n (4 * pp + cc)) + (nI (min pu (hi - ow)))), .int (bI (hasB (n (36 + pp)) cc))]) (rest := []) C (c_X7_moodBy l G (a 5) (a 6) (a 7) (a 8) (a 9) (a 1) (a 2) (a 3) (a 4) t n  cc ((n (4 * pp + cc)) + (nI (min pu (hi - ow)))) (hasB (n (36 + pp)) cc) (by omega)) gX9_credit_X7_moodBy rfl ⟨rfl, rfl⟩ hd_X7_moodBy ⟨(Nat.le_of_ble_eq_true rfl), (Nat.le_of_ble_eq_true rfl)⟩ hK (hP.sub [5, 6, 7, 8, 9, 1, 2, 3, 4] rfl) (va_recv hK hP (ci := 7) (q0 := 5) rfl rfl) rfl hl.1 rfl (Nat.le_of_ble_eq_true rfl) dX9_credit_94 ⟨(Nat.le_of_ble_eq_true rfl), (Nat.le_of_ble_eq_true rfl)⟩ ?_
          refine lv_iconst (v := 1) hx hb dX9_credit_97 (by decide) ?_
          refine lv_icmp_ne (tgt := 106) hx hb dX9_credit_98 (by decide) (fun cq6 => ?_) (fun cq6 => ?_)
          · skip
            have hmd := cq6
            rw [hoe] at hmd
            refine lv_iconst (v := (-1)) hx hb dX9_credit_106 (by decide) ?_
            exact mR_iret C dX9_credit_107 (by unfold cdR; rw [if_neg (not_not_intro hPC), hcl_pp, hcl_cc]; rw [hA3 hle hor, if_neg hmd])
          · skip
            have hmd := cq6
            rw [hoe] at hmd
            refine lv_iload hx hb dX9_credit_101 (lv_at hl 0 rfl) ?_
            refine lv_goto (tgt := 107) hx hb dX9_credit_103 (by decide) ?_
            exact mR_iret C dX9_credit_107 (by unfold cdR; rw [if_neg (not_not_intro hPC), hcl_pp, hcl_cc]; rw [hA3 hle hor, if_pos hmd])
        · skip
          have hmb := cq5
          refine lv_iconst (v := (-1)) hx hb dX9_credit_74 (by decide) ?_
          exact mR_iret C dX9_credit_75 (by unfold cdR; rw [if_neg (not_not_intro hPC), hcl_pp, hcl_cc]; exact (hA2 hle hm0 hmb).symm)
  · skip
    refine lv_ldc hx hb hown k11 dX9_credit_12 ?_
    exact mR_iret C dX9_credit_14 (by unfold cdR; rw [if_pos cq1])
theorem hd_X9_rumours : yX9_rumours.cls = RX9 ∧ yX9_rumours.cls ≠ "java/lang/invoke/MethodHandle" ∧ yX9_rumours.cls ≠ "java/lang/invoke/VarHandle" ∧ (parseMethodDescriptor yX9_rumours.desc).map (fun d => d.parameters.length) = some 2 := by decide +kernel
set_option maxRecDepth 100000 in
set_option maxHeartbeats 4000000 in
theorem c_X9_rumours (l : Launch) (G : gG) (a : Nat → Nat) (i : Nat → Int32) (x : Int32) (q : Int32) : mR l yX9_rumours wsX9_rumours ({ frames := 0, cells := 0, slots := 0, locals := 0 }) G (vW G a i) [.ref (a 0), .int x, .int q] (ruR x q) := by
  refine mR.of (cc := cX9_rumours) (maxL := 6) (ret := (some .int)) (by decide) rfl (Nat.le_of_ble_eq_true rfl) ?_
  intro zp ze zs zm zb zt zc ls C hP hK hl
  obtain ⟨hx, hb, hr, hml, hown, hts, hlk⟩ := id C
  have hl : lv_has ls 6 [(0, .ref (a 0)), (1, .int x), (2, .int q)] := hl
  have k0 := hts (.constant RX9 81 (-1000000002)) (by decide +kernel)
  have k1 := hts (.constantLong RX9 289 (1000000000)) (by decide +kernel)
  have k2 := hts (.constantLong RX9 291 (100)) (by decide +kernel)
  refine lv_iload_n hx hb dX9_rumours_0 rfl (lv_at hl 1 rfl) ?_
  refine lv_if_lt (tgt := 20) hx hb dX9_rumours_1 (by decide) (fun cq1 => ?_) (fun cq1 => ?_)
  · skip
    have hno : ¬ (inB x 0 60 ∧ inB q 0 100) := fun z => i32_nle.mpr cq1 z.1.1
    refine lv_ldc hx hb hown k0 dX9_rumours_20 ?_
    exact mR_iret C dX9_rumours_22 (by unfold ruR; rw [if_pos hno])
  · skip
    have hx1 := i32_nlt.mp cq1
    refine lv_iload_n hx hb dX9_rumours_4 rfl (lv_at hl 1 rfl) ?_
    refine lv_bipush (v := 60) hx hb dX9_rumours_5 (by decide) ?_
    refine lv_icmp_gt (tgt := 20) hx hb dX9_rumours_7 (by decide) (fun cq2 => ?_) (fun cq2 => ?_)
    · skip
      have hno : ¬ (inB x 0 60 ∧ inB q 0 100) := fun z => i32_nle.mpr cq2 z.1.2
      refine lv_ldc hx hb hown k0 dX9_rumours_20 ?_
      exact mR_iret C dX9_rumours_22 (by unfold ruR; rw [if_pos hno])
    · skip
      have hx2 := i32_nlt.mp cq2
      refine lv_iload_n hx hb dX9_rumours_10 rfl (lv_at hl 2 rfl) ?_
      refine lv_if_lt (tgt := 20) hx hb dX9_rumours_11 (by decide) (fun cq3 => ?_) (fun cq3 => ?_)
      · skip
        have hno : ¬ (inB x 0 60 ∧ inB q 0 100) := fun z => i32_nle.mpr cq3 z.2.1
        refine lv_ldc hx hb hown k0 dX9_rumours_20 ?_
        exact mR_iret C dX9_rumours_22 (by unfold ruR; rw [if_pos hno])
      · skip
        have hq1 := i32_nlt.mp cq3
        refine lv_iload_n hx hb dX9_rumours_14 rfl (lv_at hl 2 rfl) ?_
        refine lv_bipush (v := 100) hx hb dX9_rumours_15 (by decide) ?_
        refine lv_icmp_le (tgt := 23) hx hb dX9_rumours_17 (by decide) (fun cq4 => ?_) (fun cq4 => ?_)
        · skip
          have hin : inB x 0 60 ∧ inB q 0 100 := ⟨⟨hx1, hx2⟩, hq1, cq4⟩
          obtain ⟨kk, hkk1, hkk2, rfl⟩ := inB_rng (a := 0) (b := 60) rfl rfl (by decide) (by decide) (hin.1)
          have hcl_kk := cl_nI (n := kk) (by omega)
          refine lv_ldc2 hx hb hown k1 dX9_rumours_23 ?_
          refine lv_lstore_n (lv' := [(3, .long 1000000000), (0, .ref (a 0)), (1, .int (nI kk)), (2, .int q)]) hx hb dX9_rumours_26 rfl hl (by decide) rfl (fun ls hl => ?_)
          refine lv_iconst (v := 0) hx hb dX9_rumours_27 (by decide) ?_
          refine lv_istore (lv' := [(5, .int 0), (3, .long 1000000000), (0, .ref (a 0)), (1, .int (nI kk)), (2, .int q)]) hx hb dX9_rumours_28 hl (by decide) rfl (fun ls hl => ?_)
          refine wl_R (B := kk) (i0 := 0) (Inv := fun i1 ls => lv_has ls 6 [(0, .ref (a 0)), (1, .int (nI kk)), (2, .int q), (3, .long (rmL q i1)), (5, .int (nI i1))] ∧ True) (by omega) ⟨lv_sub hl [2, 3, 4, 1, 0] (rfl), trivial⟩ ?_
          rintro i1 ls hle30 ⟨hl, -⟩ ih30
          refine lv_iload hx hb dX9_rumours_30 (lv_at hl 4 rfl) ?_
          refine lv_iload_n hx hb dX9_rumours_32 rfl (lv_at hl 1 rfl) ?_
          refine n_icmp_ge (tgt := 54) hx hb dX9_rumours_33 (by decide) (u := i1) (v := kk) rfl rfl (by omega) (by omega) (fun cq5 => ?_) (fun cq5 => ?_)
          · skip
            obtain rfl : kk = i1 := by omega
            refine lv_lload_n hx hb dX9_rumours_54 rfl (lv_at hl 3 rfl) ?_
            refine lv_l2i (v := (rmL q kk).toInt32) hx hb dX9_rumours_55 rfl ?_
            exact mR_iret C dX9_rumours_56 (by unfold ruR; rw [if_neg (not_not_intro hin), hcl_kk])
          · skip
            refine lv_lload_n hx hb dX9_rumours_36 rfl (lv_at hl 3 rfl) ?_
            refine lv_bipush (v := 100) hx hb dX9_rumours_37 (by decide) ?_
            refine lv_iload_n hx hb dX9_rumours_39 rfl (lv_at hl 2 rfl) ?_
            refine lv_isub hx hb dX9_rumours_40 ?_
            refine lv_i2l (v := (100 - q).toInt64) hx hb dX9_rumours_41 rfl ?_
            refine lv_lmul hx hb dX9_rumours_42 ?_
            refine lv_ldc2 hx hb hown k2 dX9_rumours_43 ?_
            refine lv_ldiv hx hb dX9_rumours_46 (by decide) ?_
            refine lv_lstore_n (lv' := [(3, .long (((rmL q i1) * ((100 - q).toInt64)) / 100)), (0, .ref (a 0)), (1, .int (nI kk)), (2, .int q), (5, .int (nI i1))]) hx hb dX9_rumours_47 rfl hl (by decide) rfl (fun ls hl => ?_)
            refine lv_iinc (v := nI (i1 + 1)) (lv' := [(5, .int (nI (i1 + 1))), (3, .long (((rmL q i1) * ((100 - q).toInt64)) / 100)), (0, .ref (a 0)), (1, .int (nI kk)), (2, .int q)]) hx hb dX9_rumours_48 hl (k := 4) rfl (by rw [show (nI i1 : Int32) = nI i1 from rfl]; exact nI_add _ 1) (by decide) rfl (fun ls hl => ?_)
            refine lv_goto (tgt := 30) hx hb dX9_rumours_51 (by decide) ?_
            exact ih30 _ (by omega) ⟨lv_sub hl [2, 3, 4, 1, 0] (rfl), trivial⟩
        · skip
          have hno : ¬ (inB x 0 60 ∧ inB q 0 100) := fun z => cq4 z.2.2
          refine lv_ldc hx hb hown k0 dX9_rumours_20 ?_
          exact mR_iret C dX9_rumours_22 (by unfold ruR; rw [if_pos hno])
