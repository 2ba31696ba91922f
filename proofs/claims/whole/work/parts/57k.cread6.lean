def raX (tx : Nat → Int32) (sz : Nat) (rt rn : Nat → Int32) (em : Int32) : CSt :=
  if hv tx sz (sk tx sz 0) = -1 then (opW tx sz (0, 0, -1), clrT rt, clrS rn, em)
  else ccR tx sz 240 (riS tx sz (opW tx sz (0, 0, -1)), riT tx sz (opW tx sz (0, 0, -1)) (upd (clrT rt) 0 1), clrS rn, riM tx sz (opW tx sz (0, 0, -1)) em)
theorem riS_le {tx : Nat → Int32} {sz : Nat} {s : RSt} (h : s.1 ≤ sz) : (riS tx sz s).1 ≤ sz := by
  have h1 := sk_le (tx := tx) h
  unfold riS
  by_cases e : hv tx sz (sk tx sz s.1) = 105
  · rw [if_pos e]
    have hlt : sk tx sz s.1 < sz := hv_in (by rw [e]; decide)
    exact opS_le (by decide) (opN_le (opN_le (show (opI (opW tx sz s)).1 ≤ sz from hlt)))
  · rw [if_neg e, opB_1]; exact h1.2
theorem riT_o {tx : Nat → Int32} {sz k : Nat} {s : RSt} {rt : Nat → Int32} (h : k ≠ 1) (h2 : k ≠ 2) : riT tx sz s rt k = rt k := by
  unfold riT
  by_cases e : hv tx sz (sk tx sz s.1) = 105
  · rw [if_pos e, upd_ne h2, upd_ne h]
  · rw [if_neg e]
theorem ra_ok {tx rt rn : Nat → Int32} {sz : Nat} {em : Int32} : ccOK sz ((riS tx sz (opW tx sz (0, 0, -1)), riT tx sz (opW tx sz (0, 0, -1)) (upd (clrT rt) 0 1), rn, em) : CSt) := by
  refine ⟨riS_le (sk_le (Nat.zero_le _)).2, 0, 0, by omega, by omega, ?_, ?_⟩
  · exact (riT_o (by decide) (by decide)).trans rfl
  · exact (riT_o (by decide) (by decide)).trans rfl
theorem hd_X6_readAll : yX6_readAll.cls = RX6 ∧ yX6_readAll.cls ≠ "java/lang/invoke/MethodHandle" ∧ yX6_readAll.cls ≠ "java/lang/invoke/VarHandle" ∧ (parseMethodDescriptor yX6_readAll.desc).map (fun d => d.parameters.length) = some 0 := by decide +kernel
set_option maxRecDepth 100000 in
set_option maxHeartbeats 4000000 in
theorem c_X6_readAll (l : Launch) (G : gG) (l0 : Nat) (l1 : Nat) (b0 : Nat) (b1 : Nat) (b2 : Nat) (b3 : Nat) (s0 : Nat) (s1 : Nat) (s2 : Nat) (s3 : Nat) (s4 : Nat) (s : RSt) (em : Int32) (i : Nat → Int32) (tx : Nat → Int32) (rt : Nat → Int32) (rn : Nat → Int32) (sz : Nat) (hsz : i 10 = nI sz) (hs240 : sz ≤ 240) : mX l yX6_readAll wsX6_readAll ({ frames := 5, cells := 0, slots := 0, locals := 112 }) G (rdW G l0 l1 b0 b1 b2 b3 s0 s1 s2 s3 s4 s em i tx rt rn) (rdW G l0 l1 b0 b1 b2 b3 s0 s1 s2 s3 s4 ((raX tx sz rt rn em).1) ((raX tx sz rt rn em).2.2.2) (upd i 10 0) tx ((raX tx sz rt rn em).2.1) ((raX tx sz rt rn em).2.2.1)) [.ref l0] (.returned none) := by
  refine mX.of (cc := cX6_readAll) (maxL := 1) (ret := none) (by decide) rfl (Nat.le_of_ble_eq_true rfl) ?_
  intro zp ze zs zm zb zt zc ls A hAe C hP hK hD hS hl
  obtain ⟨hx, hb, hr, hml, hown, hts, hlk⟩ := id C
  have hl : lv_has ls 1 [(0, .ref l0)] := hl
  have k0 := hts (.fieldLink RX6 12 "DebtDowry$Reader" "terms" "LDebtDowry$Terms;") (by decide +kernel)
  have k1 := (fun w h => by revert w; decide +kernel : ∀ w ∈ wsX60, w ∈ wsX6_readAll)
  have k2 := hts (.fieldLink RX6 23 "DebtDowry$Reader" "state" "LDebtDowry$State;") (by decide +kernel)
  have k3 := hts (.fieldLink RX6 42 "DebtDowry$Reader" "faultKind" "I") (by decide +kernel)
  have k4 := hts (.fieldLink RX6 31 "DebtDowry$Reader" "faultAt" "I") (by decide +kernel)
  have k5 := hts (.fieldLink RX6 45 "DebtDowry$Reader" "at" "I") (by decide +kernel)
  have k6 := hts (.fieldLink RX6 35 "DebtDowry$Reader" "length" "I") (by decide +kernel)
  have k7 := hts (.fieldLink RX6 52 "DebtDowry$Terms" "there" "Z") (by decide +kernel)
  have k8 := (fun w h => by revert w; decide +kernel : ∀ w ∈ wsX80, w ∈ wsX6_readAll)
  refine lv_aload_n hx hb dX6_readAll_0 rfl (lv_at hl 0 rfl) ?_
  refine va_get (D := G.1) (ci := 6) (v := .ref b0) (C := RX6) (T := TX6) (N := 8) hx hb hts k1 hown hK hP 0 rfl rfl 0 (by decide) k0 (fun _ h9 => h9) rfl dX6_readAll_1 ?_
  refine cX_V (Cn := RX8) (n := 0) (As := []) (rest := []) (wsn := rdW G l0 l1 b0 b1 b2 b3 s0 s1 s2 s3 s4 s em i tx (clrT rt) rn) C (c_X8_clear l G b0 b1 b2 b3 rt   ) gX6_readAll_X8_clear rfl ⟨rfl, rfl⟩ hd_X8_clear ⟨(Nat.le_of_ble_eq_true rfl), (Nat.le_of_ble_eq_true rfl)⟩ hK hP hD hS [2, 3, 4, 5] (by decide) rfl (kW_f.trans kW_f.symm) rfl (rdW_f.trans rdW_f.symm) (va_recv hK hP (ci := 8) (q0 := 2) rfl rfl) rfl hl.1 rfl (Nat.le_of_ble_eq_true rfl) dX6_readAll_4 ⟨(Nat.le_of_ble_eq_true rfl), (Nat.le_of_ble_eq_true rfl)⟩ (fun H locs hP hD hS => ?_)
  refine lv_aload_n hx hb dX6_readAll_7 rfl (lv_at hl 0 rfl) ?_
  refine va_get (D := G.1) (ci := 6) (v := .ref s0) (C := RX6) (T := TX6) (N := 8) hx hb hts k1 hown hK hP 0 rfl rfl 1 (by decide) k2 (fun _ h9 => h9) rfl dX6_readAll_8 ?_
  refine cX_V (Cn := RX7) (n := 0) (As := []) (rest := []) (wsn := rdW G l0 l1 b0 b1 b2 b3 s0 s1 s2 s3 s4 s em i tx (clrT rt) (clrS rn)) C (c_X7_clear l G s0 s1 s2 s3 s4 b0 rn   ) gX6_readAll_X7_clear rfl ⟨rfl, rfl⟩ hd_X7_clear ⟨(Nat.le_of_ble_eq_true rfl), (Nat.le_of_ble_eq_true rfl)⟩ hK hP hD hS [6, 7, 8, 9, 10] (by decide) rfl (s1W_f.trans s1W_f.symm) rfl (rdW_f.trans rdW_f.symm) (va_recv hK hP (ci := 7) (q0 := 6) rfl rfl) rfl hl.1 rfl (Nat.le_of_ble_eq_true rfl) dX6_readAll_11 ⟨(Nat.le_of_ble_eq_true rfl), (Nat.le_of_ble_eq_true rfl)⟩ (fun H locs hP hD hS => ?_)
  refine lv_aload_n hx hb dX6_readAll_14 rfl (lv_at hl 0 rfl) ?_
  refine lv_iconst (v := 0) hx hb dX6_readAll_15 (by decide) ?_
  refine n_put (D := G.1) (wsn := rdW G l0 l1 b0 b1 b2 b3 s0 s1 s2 s3 s4 (s.1, 0, s.2.2) em i tx (clrT rt) (clrS rn)) (ci := 6) (v := .int 0) (ty := .int) (C := RX6) (T := TX6) (N := 8) hx hb hts k1 tyX6 tyX6_ok nmX6 hown hK hP hD hS 0 rfl rfl 4 (by decide) k3 (fun _ h9 => h9) rfl (by decide +kernel) rfl rfl (Nat.le_of_ble_eq_true rfl) rfl dX6_readAll_16 (fun H locs hP hD hS => ?_)
  refine lv_aload_n hx hb dX6_readAll_19 rfl (lv_at hl 0 rfl) ?_
  refine lv_iconst (v := (-1)) hx hb dX6_readAll_20 (by decide) ?_
  refine n_put (D := G.1) (wsn := rdW G l0 l1 b0 b1 b2 b3 s0 s1 s2 s3 s4 (s.1, 0, (-1)) em i tx (clrT rt) (clrS rn)) (ci := 6) (v := .int (-1)) (ty := .int) (C := RX6) (T := TX6) (N := 8) hx hb hts k1 tyX6 tyX6_ok nmX6 hown hK hP hD hS 0 rfl rfl 5 (by decide) k4 (fun _ h9 => h9) rfl (by decide +kernel) rfl rfl (Nat.le_of_ble_eq_true rfl) rfl dX6_readAll_21 (fun H locs hP hD hS => ?_)
  refine lv_aload_n hx hb dX6_readAll_24 rfl (lv_at hl 0 rfl) ?_
  refine lv_iconst (v := 0) hx hb dX6_readAll_25 (by decide) ?_
  refine n_put (D := G.1) (wsn := rdW G l0 l1 b0 b1 b2 b3 s0 s1 s2 s3 s4 (0, 0, (-1)) em i tx (clrT rt) (clrS rn)) (ci := 6) (v := .int 0) (ty := .int) (C := RX6) (T := TX6) (N := 8) hx hb hts k1 tyX6 tyX6_ok nmX6 hown hK hP hD hS 0 rfl rfl 6 (by decide) k5 (fun _ h9 => h9) rfl (by decide +kernel) rfl rfl (Nat.le_of_ble_eq_true rfl) rfl dX6_readAll_26 (fun H locs hP hD hS => ?_)
  have hP : va_P G.1 vwCl (rdW G l0 l1 b0 b1 b2 b3 s0 s1 s2 s3 s4 ((0, 0, -1) : RSt) em i tx (clrT rt) (clrS rn)) H := hP
  have hD : va_D A (rdW G l0 l1 b0 b1 b2 b3 s0 s1 s2 s3 s4 ((0, 0, -1) : RSt) em i tx (clrT rt) (clrS rn)) := hD
  refine lv_aload_n hx hb dX6_readAll_29 rfl (lv_at hl 0 rfl) ?_
  refine cX_V (Cn := RX6) (n := 0) (As := []) (rest := []) (wsn := rdW G l0 l1 b0 b1 b2 b3 s0 s1 s2 s3 s4 (opW tx sz ((0, 0, -1) : RSt)) em i tx (clrT rt) (clrS rn)) C (c_X6_nextSign l G l0 l1 b0 b1 b2 b3 s0 s1 s2 s3 s4 ((0, 0, -1) : RSt) em i tx (clrT rt) (clrS rn) sz  hsz hs240 (Nat.zero_le _)) gX6_readAll_X6_nextSign rfl ⟨rfl, rfl⟩ hd_X6_nextSign ⟨(Nat.le_of_ble_eq_true rfl), (Nat.le_of_ble_eq_true rfl)⟩ hK hP hD hS [0, 1, 2, 3, 4, 5, 6, 7, 8, 9, 10] (by decide) rfl (rdW_f.trans rdW_f.symm) rfl (rdW_f.trans rdW_f.symm) (va_recv hK hP (ci := 6) (q0 := 0) rfl rfl) rfl hl.1 rfl (Nat.le_of_ble_eq_true rfl) dX6_readAll_30 ⟨(Nat.le_of_ble_eq_true rfl), (Nat.le_of_ble_eq_true rfl)⟩ (fun H locs hP hD hS => ?_)
  refine lv_iconst (v := (-1)) hx hb dX6_readAll_33 (by decide) ?_
  refine lv_icmp_eq (tgt := 53) hx hb dX6_readAll_34 (by decide) (fun cq1 => ?_) (fun cq1 => ?_)
  · skip
    have hX : raX tx sz rt rn em = (opW tx sz (0, 0, -1), clrT rt, clrS rn, em) := if_pos cq1
    refine lv_aload_n hx hb dX6_readAll_53 rfl (lv_at hl 0 rfl) ?_
    refine lv_iconst (v := 0) hx hb dX6_readAll_54 (by decide) ?_
    refine n_putQ (D := G.1) (wsn := rdW G l0 l1 b0 b1 b2 b3 s0 s1 s2 s3 s4 (opW tx sz ((0, 0, -1) : RSt)) em (upd i 10 0) tx (clrT rt) (clrS rn)) (ci := 6) (v := .int 0) (ty := .int) (C := RX6) (T := TX6) (N := 8) hx hb hts k1 tyX6 tyX6_ok nmX6 hown hK hP hD hS 0 rfl rfl 3 (by decide) k6 (fun _ h9 => h9) rfl (by decide +kernel) rfl rfl (Nat.le_of_ble_eq_true rfl) rdW_p0_3 dX6_readAll_55 (fun H locs hP hD hS => ?_)
    have hP : va_P G.1 vwCl (rdW G l0 l1 b0 b1 b2 b3 s0 s1 s2 s3 s4 ((raX tx sz rt rn em).1) ((raX tx sz rt rn em).2.2.2) (upd i 10 0) tx ((raX tx sz rt rn em).2.1) ((raX tx sz rt rn em).2.2.1)) H := by rw [show ((raX tx sz rt rn em).1) = (opW tx sz ((0, 0, -1) : RSt)) from by rw [hX], show ((raX tx sz rt rn em).2.2.2) = em from by rw [hX], show ((raX tx sz rt rn em).2.1) = (clrT rt) from by rw [hX], show ((raX tx sz rt rn em).2.2.1) = (clrS rn) from by rw [hX]]; exact hP
    exact mX_vret hAe C hP hS dX6_readAll_58
  · skip
    have hX : raX tx sz rt rn em = ccR tx sz 240 (riS tx sz (opW tx sz (0, 0, -1)), riT tx sz (opW tx sz (0, 0, -1)) (upd (clrT rt) 0 1), clrS rn, riM tx sz (opW tx sz (0, 0, -1)) em) := if_neg cq1
    refine lv_aload_n hx hb dX6_readAll_37 rfl (lv_at hl 0 rfl) ?_
    refine va_get (D := G.1) (ci := 6) (v := .ref b0) (C := RX6) (T := TX6) (N := 8) hx hb hts k1 hown hK hP 0 rfl rfl 0 (by decide) k0 (fun _ h9 => h9) rfl dX6_readAll_38 ?_
    refine lv_iconst (v := 1) hx hb dX6_readAll_41 (by decide) ?_
    refine n_putQ (D := G.1) (wsn := rdW G l0 l1 b0 b1 b2 b3 s0 s1 s2 s3 s4 (opW tx sz ((0, 0, -1) : RSt)) em i tx (upd (clrT rt) 0 1) (clrS rn)) (ci := 8) (v := .int 1) (ty := .boolean) (C := RX8) (T := TX8) (N := 9) hx hb hts k8 tyX8 tyX8_ok nmX8 hown hK hP hD hS 2 rfl rfl 0 (by decide) k7 (fun _ h9 => h9) rfl (by decide +kernel) (by decide) rfl (Nat.le_of_ble_eq_true rfl) rdW_p2_0 dX6_readAll_42 (fun H locs hP hD hS => ?_)
    refine lv_aload_n hx hb dX6_readAll_45 rfl (lv_at hl 0 rfl) ?_
    refine cX_V (Cn := RX6) (n := 0) (As := []) (rest := []) (wsn := rdW G l0 l1 b0 b1 b2 b3 s0 s1 s2 s3 s4 (riS tx sz (opW tx sz ((0, 0, -1) : RSt))) (riM tx sz (opW tx sz ((0, 0, -1) : RSt)) em) i tx (riT tx sz (opW tx sz ((0, 0, -1) : RSt)) (upd (clrT rt) 0 1)) (clrS rn)) C (c_X6_readInterest l G l0 l1 b0 b1 b2 b3 s0 s1 s2 s3 s4 (opW tx sz ((0, 0, -1) : RSt)) em i tx (upd (clrT rt) 0 1) (clrS rn) sz  hsz hs240 ((sk_le (Nat.zero_le _)).2)) gX6_readAll_X6_readInterest rfl ⟨rfl, rfl⟩ hd_X6_readInterest ⟨(Nat.le_of_ble_eq_true rfl), (Nat.le_of_ble_eq_true rfl)⟩ hK hP hD hS [0, 1, 2, 3, 4, 5, 6, 7, 8, 9, 10] (by decide) rfl (rdW_f.trans rdW_f.symm) rfl (rdW_f.trans rdW_f.symm) (va_recv hK hP (ci := 6) (q0 := 0) rfl rfl) rfl hl.1 rfl (Nat.le_of_ble_eq_true rfl) dX6_readAll_46 ⟨(Nat.le_of_ble_eq_true rfl), (Nat.le_of_ble_eq_true rfl)⟩ (fun H locs hP hD hS => ?_)
    refine lv_aload_n hx hb dX6_readAll_49 rfl (lv_at hl 0 rfl) ?_
    refine cX_V (Cn := RX6) (n := 0) (As := []) (rest := []) (wsn := rdW G l0 l1 b0 b1 b2 b3 s0 s1 s2 s3 s4 ((ccR tx sz 240 (((riS tx sz (opW tx sz ((0, 0, -1) : RSt))), (riT tx sz (opW tx sz ((0, 0, -1) : RSt)) (upd (clrT rt) 0 1)), (clrS rn), (riM tx sz (opW tx sz ((0, 0, -1) : RSt)) em)) : CSt)).1) ((ccR tx sz 240 (((riS tx sz (opW tx sz ((0, 0, -1) : RSt))), (riT tx sz (opW tx sz ((0, 0, -1) : RSt)) (upd (clrT rt) 0 1)), (clrS rn), (riM tx sz (opW tx sz ((0, 0, -1) : RSt)) em)) : CSt)).2.2.2) i tx ((ccR tx sz 240 (((riS tx sz (opW tx sz ((0, 0, -1) : RSt))), (riT tx sz (opW tx sz ((0, 0, -1) : RSt)) (upd (clrT rt) 0 1)), (clrS rn), (riM tx sz (opW tx sz ((0, 0, -1) : RSt)) em)) : CSt)).2.1) ((ccR tx sz 240 (((riS tx sz (opW tx sz ((0, 0, -1) : RSt))), (riT tx sz (opW tx sz ((0, 0, -1) : RSt)) (upd (clrT rt) 0 1)), (clrS rn), (riM tx sz (opW tx sz ((0, 0, -1) : RSt)) em)) : CSt)).2.2.1)) C (c_X6_readOthers l G l0 l1 b0 b1 b2 b3 s0 s1 s2 s3 s4 (riS tx sz (opW tx sz ((0, 0, -1) : RSt))) (riM tx sz (opW tx sz ((0, 0, -1) : RSt)) em) i tx (riT tx sz (opW tx sz ((0, 0, -1) : RSt)) (upd (clrT rt) 0 1)) (clrS rn) sz  hsz hs240 ra_ok) gX6_readAll_X6_readOthers rfl ⟨rfl, rfl⟩ hd_X6_readOthers ⟨(Nat.le_of_ble_eq_true rfl), (Nat.le_of_ble_eq_true rfl)⟩ hK hP hD hS [0, 1, 2, 3, 4, 5, 6, 7, 8, 9, 10] (by decide) rfl (rdW_f.trans rdW_f.symm) rfl (rdW_f.trans rdW_f.symm) (va_recv hK hP (ci := 6) (q0 := 0) rfl rfl) rfl hl.1 rfl (Nat.le_of_ble_eq_true rfl) dX6_readAll_50 ⟨(Nat.le_of_ble_eq_true rfl), (Nat.le_of_ble_eq_true rfl)⟩ (fun H locs hP hD hS => ?_)
    refine lv_aload_n hx hb dX6_readAll_53 rfl (lv_at hl 0 rfl) ?_
    refine lv_iconst (v := 0) hx hb dX6_readAll_54 (by decide) ?_
    refine n_putQ (D := G.1) (wsn := rdW G l0 l1 b0 b1 b2 b3 s0 s1 s2 s3 s4 ((ccR tx sz 240 (((riS tx sz (opW tx sz ((0, 0, -1) : RSt))), (riT tx sz (opW tx sz ((0, 0, -1) : RSt)) (upd (clrT rt) 0 1)), (clrS rn), (riM tx sz (opW tx sz ((0, 0, -1) : RSt)) em)) : CSt)).1) ((ccR tx sz 240 (((riS tx sz (opW tx sz ((0, 0, -1) : RSt))), (riT tx sz (opW tx sz ((0, 0, -1) : RSt)) (upd (clrT rt) 0 1)), (clrS rn), (riM tx sz (opW tx sz ((0, 0, -1) : RSt)) em)) : CSt)).2.2.2) (upd i 10 0) tx ((ccR tx sz 240 (((riS tx sz (opW tx sz ((0, 0, -1) : RSt))), (riT tx sz (opW tx sz ((0, 0, -1) : RSt)) (upd (clrT rt) 0 1)), (clrS rn), (riM tx sz (opW tx sz ((0, 0, -1) : RSt)) em)) : CSt)).2.1) ((ccR tx sz 240 (((riS tx sz (opW tx sz ((0, 0, -1) : RSt))), (riT tx sz (opW tx sz ((0, 0, -1) : RSt)) (upd (clrT rt) 0 1)), (clrS rn), (riM tx sz (opW tx sz ((0, 0, -1) : RSt)) em)) : CSt)).2.2.1)) (ci := 6) (v := .int 0) (ty := .int) (C := RX6) (T := TX6) (N := 8) hx hb hts k1 tyX6 tyX6_ok nmX6 hown hK hP hD hS 0 rfl rfl 3 (by decide) k6 (fun _ h9 => h9) rfl (by decide +kernel) rfl rfl (Nat.le_of_ble_eq_true rfl) rdW_p0_3 dX6_readAll_55 (fun H locs hP hD hS => ?_)
    have hP : va_P G.1 vwCl (rdW G l0 l1 b0 b1 b2 b3 s0 s1 s2 s3 s4 ((raX tx sz rt rn em).1) ((raX tx sz rt rn em).2.2.2) (upd i 10 0) tx ((raX tx sz rt rn em).2.1) ((raX tx sz rt rn em).2.2.1)) H := by rw [show ((raX tx sz rt rn em).1) = ((ccR tx sz 240 (((riS tx sz (opW tx sz ((0, 0, -1) : RSt))), (riT tx sz (opW tx sz ((0, 0, -1) : RSt)) (upd (clrT rt) 0 1)), (clrS rn), (riM tx sz (opW tx sz ((0, 0, -1) : RSt)) em)) : CSt)).1) from by rw [hX], show ((raX tx sz rt rn em).2.2.2) = ((ccR tx sz 240 (((riS tx sz (opW tx sz ((0, 0, -1) : RSt))), (riT tx sz (opW tx sz ((0, 0, -1) : RSt)) (upd (clrT rt) 0 1)), (clrS rn), (riM tx sz (opW tx sz ((0, 0, -1) : RSt)) em)) : CSt)).2.2.2) from by rw [hX], show ((raX tx sz rt rn em).2.1) = ((ccR tx sz 240 (((riS tx sz (opW tx sz ((0, 0, -1) : RSt))), (riT tx sz (opW tx sz ((0, 0, -1) : RSt)) (upd (clrT rt) 0 1)), (clrS rn), (riM tx sz (opW tx sz ((0, 0, -1) : RSt)) em)) : CSt)).2.1) from by rw [hX], show ((raX tx sz rt rn em).2.2.1) = ((ccR tx sz 240 (((riS tx sz (opW tx sz ((0, 0, -1) : RSt))), (riT tx sz (opW tx sz ((0, 0, -1) : RSt)) (upd (clrT rt) 0 1)), (clrS rn), (riM tx sz (opW tx sz ((0, 0, -1) : RSt)) em)) : CSt)).2.2.1) from by rw [hX]]; exact hP
    exact mX_vret hAe C hP hS dX6_readAll_58
