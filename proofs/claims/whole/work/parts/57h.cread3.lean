theorem hd_X6_readInterest : yX6_readInterest.cls = RX6 ∧ yX6_readInterest.cls ≠ "java/lang/invoke/MethodHandle" ∧ yX6_readInterest.cls ≠ "java/lang/invoke/VarHandle" ∧ (parseMethodDescriptor yX6_readInterest.desc).map (fun d => d.parameters.length) = some 0 := by decide +kernel
set_option maxRecDepth 100000 in
set_option maxHeartbeats 4000000 in
theorem c_X6_readInterest (l : Launch) (G : gG) (l0 : Nat) (l1 : Nat) (b0 : Nat) (b1 : Nat) (b2 : Nat) (b3 : Nat) (s0 : Nat) (s1 : Nat) (s2 : Nat) (s3 : Nat) (s4 : Nat) (s : RSt) (em : Int32) (i : Nat → Int32) (tx : Nat → Int32) (rt : Nat → Int32) (rn : Nat → Int32) (sz : Nat) (hsz : i 10 = nI sz) (hs240 : sz ≤ 240) (ha : s.1 ≤ sz) : mX l yX6_readInterest wsX6_readInterest ({ frames := 2, cells := 0, slots := 0, locals := 46 }) G (rdW G l0 l1 b0 b1 b2 b3 s0 s1 s2 s3 s4 s em i tx rt rn) (rdW G l0 l1 b0 b1 b2 b3 s0 s1 s2 s3 s4 (riS tx sz s) (riM tx sz s em) i tx (riT tx sz s rt) rn) [.ref l0] (.returned none) := by
  refine mX.of (cc := cX6_readInterest) (maxL := 1) (ret := none) (by decide) rfl (Nat.le_of_ble_eq_true rfl) ?_
  intro zp ze zs zm zb zt zc ls A hAe C hP hK hD hS hl
  obtain ⟨hx, hb, hr, hml, hown, hts, hlk⟩ := id C
  have hl : lv_has ls 1 [(0, .ref l0)] := hl
  have k0 := hts (.fieldLink RX6 45 "DebtDowry$Reader" "at" "I") (by decide +kernel)
  have k1 := (fun w h => by revert w; decide +kernel : ∀ w ∈ wsX60, w ∈ wsX6_readInterest)
  have k2 := hts (.fieldLink RX6 12 "DebtDowry$Reader" "terms" "LDebtDowry$Terms;") (by decide +kernel)
  have k3 := hts (.fieldLink RX6 70 "DebtDowry$Terms" "interest" "I") (by decide +kernel)
  have k4 := (fun w h => by revert w; decide +kernel : ∀ w ∈ wsX80, w ∈ wsX6_readInterest)
  have k5 := hts (.fieldLink RX6 73 "DebtDowry$Terms" "mildness" "I") (by decide +kernel)
  refine lv_aload_n hx hb dX6_readInterest_0 rfl (lv_at hl 0 rfl) ?_
  refine cX_V (Cn := RX6) (n := 0) (As := []) (rest := []) (wsn := rdW G l0 l1 b0 b1 b2 b3 s0 s1 s2 s3 s4 (opW tx sz s) em i tx rt rn) C (c_X6_nextSign l G l0 l1 b0 b1 b2 b3 s0 s1 s2 s3 s4 s em i tx rt rn sz  hsz hs240 (by omega)) gX6_readInterest_X6_nextSign rfl ⟨rfl, rfl⟩ hd_X6_nextSign ⟨(Nat.le_of_ble_eq_true rfl), (Nat.le_of_ble_eq_true rfl)⟩ hK hP hD hS [0, 1, 2, 3, 4, 5, 6, 7, 8, 9, 10] (by decide) rfl (rdW_f.trans rdW_f.symm) rfl (rdW_f.trans rdW_f.symm) (va_recv hK hP (ci := 6) (q0 := 0) rfl rfl) rfl hl.1 rfl (Nat.le_of_ble_eq_true rfl) dX6_readInterest_1 ⟨(Nat.le_of_ble_eq_true rfl), (Nat.le_of_ble_eq_true rfl)⟩ (fun H locs hP hD hS => ?_)
  refine lv_bipush (v := 105) hx hb dX6_readInterest_4 (by decide) ?_
  refine lv_icmp_eq (tgt := 19) hx hb dX6_readInterest_6 (by decide) (fun cq1 => ?_) (fun cq1 => ?_)
  · skip
    have hw := cq1
    have hlt : sk tx sz s.1 < sz := hv_in (by rw [hw]; decide)
    have hle1 : (opI (opW tx sz s)).1 ≤ sz := hlt
    refine lv_aload_n hx hb dX6_readInterest_19 rfl (lv_at hl 0 rfl) ?_
    refine lv_dup hx hb dX6_readInterest_20 rfl ?_
    refine va_get (D := G.1) (ci := 6) (v := .int (nI ((opW tx sz s).1))) (C := RX6) (T := TX6) (N := 8) hx hb hts k1 hown hK hP 0 rfl rfl 6 (by decide) k0 (fun _ h9 => h9) rfl dX6_readInterest_21 ?_
    refine lv_iconst (v := 1) hx hb dX6_readInterest_24 (by decide) ?_
    refine n_iadd hx hb dX6_readInterest_25 (u := (opW tx sz s).1) (v := 1) rfl rfl (j := ((opW tx sz s).1) + 1) (by omega) ?_
    refine n_put (D := G.1) (wsn := rdW G l0 l1 b0 b1 b2 b3 s0 s1 s2 s3 s4 (((opW tx sz s).1) + 1, (opW tx sz s).2.1, (opW tx sz s).2.2) em i tx rt rn) (ci := 6) (v := .int (nI (((opW tx sz s).1) + 1))) (ty := .int) (C := RX6) (T := TX6) (N := 8) hx hb hts k1 tyX6 tyX6_ok nmX6 hown hK hP hD hS 0 rfl rfl 6 (by decide) k0 (fun _ h9 => h9) rfl (by decide +kernel) rfl rfl (Nat.le_of_ble_eq_true rfl) rfl dX6_readInterest_26 (fun H locs hP hD hS => ?_)
    have hP : va_P G.1 vwCl (rdW G l0 l1 b0 b1 b2 b3 s0 s1 s2 s3 s4 (opI (opW tx sz s)) em i tx rt rn) H := hP
    have hD : va_D A (rdW G l0 l1 b0 b1 b2 b3 s0 s1 s2 s3 s4 (opI (opW tx sz s)) em i tx rt rn) := hD
    refine lv_aload_n hx hb dX6_readInterest_29 rfl (lv_at hl 0 rfl) ?_
    refine va_get (D := G.1) (ci := 6) (v := .ref b0) (C := RX6) (T := TX6) (N := 8) hx hb hts k1 hown hK hP 0 rfl rfl 0 (by decide) k2 (fun _ h9 => h9) rfl dX6_readInterest_30 ?_
    refine lv_aload_n hx hb dX6_readInterest_33 rfl (lv_at hl 0 rfl) ?_
    refine lv_iconst (v := 0) hx hb dX6_readInterest_34 (by decide) ?_
    refine lv_bipush (v := 30) hx hb dX6_readInterest_35 (by decide) ?_
    refine cX_V (Cn := RX6) (n := 2) (As := [.int 0, .int 30]) (rest := [.ref b0]) (wsn := rdW G l0 l1 b0 b1 b2 b3 s0 s1 s2 s3 s4 (opN tx sz 0 30 (opI (opW tx sz s))) (nI (sk tx sz (opI (opW tx sz s)).1)) i tx rt rn) C (c_X6_readNumber l G l0 l1 b0 b1 b2 b3 s0 s1 s2 s3 s4 (opI (opW tx sz s)) em i tx rt rn sz 0 30 hsz hs240 hle1) gX6_readInterest_X6_readNumber rfl ⟨rfl, rfl⟩ hd_X6_readNumber ⟨(Nat.le_of_ble_eq_true rfl), (Nat.le_of_ble_eq_true rfl)⟩ hK hP hD hS [0, 1, 2, 3, 4, 5, 6, 7, 8, 9, 10] (by decide) rfl (rdW_f.trans rdW_f.symm) rfl (rdW_f.trans rdW_f.symm) (va_recv hK hP (ci := 6) (q0 := 0) rfl rfl) rfl hl.1 rfl (Nat.le_of_ble_eq_true rfl) dX6_readInterest_37 ⟨(Nat.le_of_ble_eq_true rfl), (Nat.le_of_ble_eq_true rfl)⟩ (fun H locs hP hD hS => ?_)
    refine n_putQ (D := G.1) (wsn := rdW G l0 l1 b0 b1 b2 b3 s0 s1 s2 s3 s4 (opN tx sz 0 30 (opI (opW tx sz s))) (nI (sk tx sz (opI (opW tx sz s)).1)) i tx (upd rt 1 (stV tx sz (opI (opW tx sz s)).1)) rn) (ci := 8) (v := .int (stV tx sz (opI (opW tx sz s)).1)) (ty := .int) (C := RX8) (T := TX8) (N := 9) hx hb hts k4 tyX8 tyX8_ok nmX8 hown hK hP hD hS 2 rfl rfl 1 (by decide) k3 (fun _ h9 => h9) rfl (by decide +kernel) rfl rfl (Nat.le_of_ble_eq_true rfl) rdW_p2_1 dX6_readInterest_40 (fun H locs hP hD hS => ?_)
    refine lv_aload_n hx hb dX6_readInterest_43 rfl (lv_at hl 0 rfl) ?_
    refine va_get (D := G.1) (ci := 6) (v := .ref b0) (C := RX6) (T := TX6) (N := 8) hx hb hts k1 hown hK hP 0 rfl rfl 0 (by decide) k2 (fun _ h9 => h9) rfl dX6_readInterest_44 ?_
    refine lv_aload_n hx hb dX6_readInterest_47 rfl (lv_at hl 0 rfl) ?_
    refine lv_iconst (v := 0) hx hb dX6_readInterest_48 (by decide) ?_
    refine lv_bipush (v := 100) hx hb dX6_readInterest_49 (by decide) ?_
    refine cX_V (Cn := RX6) (n := 2) (As := [.int 0, .int 100]) (rest := [.ref b0]) (wsn := rdW G l0 l1 b0 b1 b2 b3 s0 s1 s2 s3 s4 (opN tx sz 0 100 (opN tx sz 0 30 (opI (opW tx sz s)))) (nI (sk tx sz (opN tx sz 0 30 (opI (opW tx sz s))).1)) i tx (upd rt 1 (stV tx sz (opI (opW tx sz s)).1)) rn) C (c_X6_readNumber l G l0 l1 b0 b1 b2 b3 s0 s1 s2 s3 s4 (opN tx sz 0 30 (opI (opW tx sz s))) (nI (sk tx sz (opI (opW tx sz s)).1)) i tx (upd rt 1 (stV tx sz (opI (opW tx sz s)).1)) rn sz 0 100 hsz hs240 (opN_le hle1)) gX6_readInterest_X6_readNumber rfl ⟨rfl, rfl⟩ hd_X6_readNumber ⟨(Nat.le_of_ble_eq_true rfl), (Nat.le_of_ble_eq_true rfl)⟩ hK hP hD hS [0, 1, 2, 3, 4, 5, 6, 7, 8, 9, 10] (by decide) rfl (rdW_f.trans rdW_f.symm) rfl (rdW_f.trans rdW_f.symm) (va_recv hK hP (ci := 6) (q0 := 0) rfl rfl) rfl hl.1 rfl (Nat.le_of_ble_eq_true rfl) dX6_readInterest_51 ⟨(Nat.le_of_ble_eq_true rfl), (Nat.le_of_ble_eq_true rfl)⟩ (fun H locs hP hD hS => ?_)
    refine n_putQ (D := G.1) (wsn := rdW G l0 l1 b0 b1 b2 b3 s0 s1 s2 s3 s4 (opN tx sz 0 100 (opN tx sz 0 30 (opI (opW tx sz s)))) (nI (sk tx sz (opN tx sz 0 30 (opI (opW tx sz s))).1)) i tx (upd (upd rt 1 (stV tx sz (opI (opW tx sz s)).1)) 2 (stV tx sz (opN tx sz 0 30 (opI (opW tx sz s))).1)) rn) (ci := 8) (v := .int (stV tx sz (opN tx sz 0 30 (opI (opW tx sz s))).1)) (ty := .int) (C := RX8) (T := TX8) (N := 9) hx hb hts k4 tyX8 tyX8_ok nmX8 hown hK hP hD hS 2 rfl rfl 2 (by decide) k5 (fun _ h9 => h9) rfl (by decide +kernel) rfl rfl (Nat.le_of_ble_eq_true rfl) rdW_p2_2 dX6_readInterest_54 (fun H locs hP hD hS => ?_)
    refine lv_aload_n hx hb dX6_readInterest_57 rfl (lv_at hl 0 rfl) ?_
    refine lv_bipush (v := 59) hx hb dX6_readInterest_58 (by decide) ?_
    refine cX_V (Cn := RX6) (n := 1) (As := [.int 59]) (rest := []) (wsn := rdW G l0 l1 b0 b1 b2 b3 s0 s1 s2 s3 s4 (opS tx sz 59 (opN tx sz 0 100 (opN tx sz 0 30 (opI (opW tx sz s))))) (nI (sk tx sz (opN tx sz 0 30 (opI (opW tx sz s))).1)) i tx (upd (upd rt 1 (stV tx sz (opI (opW tx sz s)).1)) 2 (stV tx sz (opN tx sz 0 30 (opI (opW tx sz s))).1)) rn) C (c_X6_readSign l G l0 l1 b0 b1 b2 b3 s0 s1 s2 s3 s4 (opN tx sz 0 100 (opN tx sz 0 30 (opI (opW tx sz s)))) (nI (sk tx sz (opN tx sz 0 30 (opI (opW tx sz s))).1)) i tx (upd (upd rt 1 (stV tx sz (opI (opW tx sz s)).1)) 2 (stV tx sz (opN tx sz 0 30 (opI (opW tx sz s))).1)) rn sz 59 hsz hs240 (opN_le (opN_le hle1))) gX6_readInterest_X6_readSign rfl ⟨rfl, rfl⟩ hd_X6_readSign ⟨(Nat.le_of_ble_eq_true rfl), (Nat.le_of_ble_eq_true rfl)⟩ hK hP hD hS [0, 1, 2, 3, 4, 5, 6, 7, 8, 9, 10] (by decide) rfl (rdW_f.trans rdW_f.symm) rfl (rdW_f.trans rdW_f.symm) (va_recv hK hP (ci := 6) (q0 := 0) rfl rfl) rfl hl.1 rfl (Nat.le_of_ble_eq_true rfl) dX6_readInterest_60 ⟨(Nat.le_of_ble_eq_true rfl), (Nat.le_of_ble_eq_true rfl)⟩ (fun H locs hP hD hS => ?_)
    have hP : va_P G.1 vwCl (rdW G l0 l1 b0 b1 b2 b3 s0 s1 s2 s3 s4 (riS tx sz s) (riM tx sz s em) i tx (riT tx sz s rt) rn) H := by rw [show (riS tx sz s) = (opS tx sz 59 (opN tx sz 0 100 (opN tx sz 0 30 (opI (opW tx sz s))))) from (if_pos hw), show (riM tx sz s em) = (nI (sk tx sz (opN tx sz 0 30 (opI (opW tx sz s))).1)) from (if_pos hw), show (riT tx sz s rt) = (upd (upd rt 1 (stV tx sz (opI (opW tx sz s)).1)) 2 (stV tx sz (opN tx sz 0 30 (opI (opW tx sz s))).1)) from (if_pos hw)]; exact hP
    exact mX_vret hAe C hP hS dX6_readInterest_63
  · skip
    have hw := cq1
    refine lv_aload_n hx hb dX6_readInterest_9 rfl (lv_at hl 0 rfl) ?_
    refine lv_iconst (v := 1) hx hb dX6_readInterest_10 (by decide) ?_
    refine lv_aload_n hx hb dX6_readInterest_11 rfl (lv_at hl 0 rfl) ?_
    refine va_get (D := G.1) (ci := 6) (v := .int (nI ((opW tx sz s).1))) (C := RX6) (T := TX6) (N := 8) hx hb hts k1 hown hK hP 0 rfl rfl 6 (by decide) k0 (fun _ h9 => h9) rfl dX6_readInterest_12 ?_
    refine cX_V (Cn := RX6) (n := 2) (As := [.int 1, .int (nI ((opW tx sz s).1))]) (rest := []) (wsn := rdW G l0 l1 b0 b1 b2 b3 s0 s1 s2 s3 s4 (opB 1 (nI ((opW tx sz s).1)) (opW tx sz s)) em i tx rt rn) C (c_X6_blame l G l0 l1 b0 b1 b2 b3 s0 s1 s2 s3 s4 (opW tx sz s) em i tx rt rn  1 (nI ((opW tx sz s).1)) (by decide)) gX6_readInterest_X6_blame rfl ⟨rfl, rfl⟩ hd_X6_blame ⟨(Nat.le_of_ble_eq_true rfl), (Nat.le_of_ble_eq_true rfl)⟩ hK hP hD hS [0, 1, 2, 3, 4, 5, 6, 7, 8, 9, 10] (by decide) rfl (rdW_f.trans rdW_f.symm) rfl (rdW_f.trans rdW_f.symm) (va_recv hK hP (ci := 6) (q0 := 0) rfl rfl) rfl hl.1 rfl (Nat.le_of_ble_eq_true rfl) dX6_readInterest_15 ⟨(Nat.le_of_ble_eq_true rfl), (Nat.le_of_ble_eq_true rfl)⟩ (fun H locs hP hD hS => ?_)
    have hP : va_P G.1 vwCl (rdW G l0 l1 b0 b1 b2 b3 s0 s1 s2 s3 s4 (riS tx sz s) (riM tx sz s em) i tx (riT tx sz s rt) rn) H := by rw [show (riS tx sz s) = (opB 1 (nI ((opW tx sz s).1)) (opW tx sz s)) from (if_neg hw), show (riM tx sz s em) = em from (if_neg hw), show (riT tx sz s rt) = rt from (if_neg hw)]; exact hP
    exact mX_vret hAe C hP hS dX6_readInterest_18
theorem hd_X6_readCreditor : yX6_readCreditor.cls = RX6 ∧ yX6_readCreditor.cls ≠ "java/lang/invoke/MethodHandle" ∧ yX6_readCreditor.cls ≠ "java/lang/invoke/VarHandle" ∧ (parseMethodDescriptor yX6_readCreditor.desc).map (fun d => d.parameters.length) = some 0 := by decide +kernel
set_option maxRecDepth 100000 in
set_option maxHeartbeats 4000000 in
theorem c_X6_readCreditor (l : Launch) (G : gG) (l0 : Nat) (l1 : Nat) (b0 : Nat) (b1 : Nat) (b2 : Nat) (b3 : Nat) (s0 : Nat) (s1 : Nat) (s2 : Nat) (s3 : Nat) (s4 : Nat) (s : RSt) (em : Int32) (i : Nat → Int32) (tx : Nat → Int32) (rt : Nat → Int32) (rn : Nat → Int32) (sz : Nat) (cn : Nat) (pn : Nat) (hsz : i 10 = nI sz) (hs240 : sz ≤ 240) (hlt : s.1 < sz) (hcn : rt 3 = nI cn) (hcn4 : cn ≤ 4) (hpn : rt 4 = nI pn) (hpn8 : pn ≤ 8) : mX l yX6_readCreditor wsX6_readCreditor ({ frames := 2, cells := 0, slots := 0, locals := 46 }) G (rdW G l0 l1 b0 b1 b2 b3 s0 s1 s2 s3 s4 s em i tx rt rn) (rdW G l0 l1 b0 b1 b2 b3 s0 s1 s2 s3 s4 (rcS tx sz s cn rt) (rcM tx sz s cn rt em) i tx (rcT tx sz s cn rt) (rcN tx sz s cn rt rn)) [.ref l0] (.returned none) := by
  refine mX.of (cc := cX6_readCreditor) (maxL := 2) (ret := none) (by decide) rfl (Nat.le_of_ble_eq_true rfl) ?_
  intro zp ze zs zm zb zt zc ls A hAe C hP hK hD hS hl
  obtain ⟨hx, hb, hr, hml, hown, hts, hlk⟩ := id C
  have hl : lv_has ls 2 [(0, .ref l0)] := hl
  have hrl := rc_le (tx := tx) (s := s) hlt
  obtain ⟨hr1, hr2, hr3, hr4, hr5, hr6⟩ := hrl
  have k0 := hts (.fieldLink RX6 12 "DebtDowry$Reader" "terms" "LDebtDowry$Terms;") (by decide +kernel)
  have k1 := (fun w h => by revert w; decide +kernel : ∀ w ∈ wsX60, w ∈ wsX6_readCreditor)
  have k2 := hts (.fieldLink RX6 90 "DebtDowry$Terms" "creditors" "I") (by decide +kernel)
  have k3 := (fun w h => by revert w; decide +kernel : ∀ w ∈ wsX80, w ∈ wsX6_readCreditor)
  have k4 := hts (.fieldLink RX6 45 "DebtDowry$Reader" "at" "I") (by decide +kernel)
  have k5 := hts (.fieldLink RX6 93 "DebtDowry$Terms" "persons" "I") (by decide +kernel)
  have k6 := hts (.fieldLink RX6 23 "DebtDowry$Reader" "state" "LDebtDowry$State;") (by decide +kernel)
  have k7 := hts (.fieldLink RX6 96 "DebtDowry$State" "purse" "[I") (by decide +kernel)
  have k8 := (fun w h => by revert w; decide +kernel : ∀ w ∈ wsX70, w ∈ wsX6_readCreditor)
  have k9 := hts (.fieldLink RX6 99 "DebtDowry$Terms" "low" "[I") (by decide +kernel)
  have k10 := hts (.fieldLink RX6 102 "DebtDowry$Terms" "high" "[I") (by decide +kernel)
  have k11 := hts (.fieldLink RX6 108 "DebtDowry$Terms" "great" "[I") (by decide +kernel)
  have k12 := hts (.fieldLink RX6 105 "DebtDowry$Reader" "numberAt" "I") (by decide +kernel)
  refine lv_aload_n hx hb dX6_readCreditor_0 rfl (lv_at hl 0 rfl) ?_
  refine va_get (D := G.1) (ci := 6) (v := .ref b0) (C := RX6) (T := TX6) (N := 8) hx hb hts k1 hown hK hP 0 rfl rfl 0 (by decide) k0 (fun _ h9 => h9) rfl dX6_readCreditor_1 ?_
  refine va_get (D := G.1) (ci := 8) (v := .int (rt 3)) (C := RX8) (T := TX8) (N := 9) hx hb hts k3 hown hK hP 2 rfl rfl 3 (by decide) k2 (fun _ h9 => h9) rfl dX6_readCreditor_4 ?_
  refine lv_istore_n (lv' := [(1, .int (rt 3)), (0, .ref l0)]) hx hb dX6_readCreditor_7 rfl hl (by decide) rfl (fun ls hl => ?_)
  refine lv_iload_n hx hb dX6_readCreditor_8 rfl (lv_at hl 0 rfl) ?_
  refine lv_iconst (v := 4) hx hb dX6_readCreditor_9 (by decide) ?_
  refine n_icmp_ge (tgt := 23) hx hb dX6_readCreditor_10 (by decide) (u := cn) (v := 4) hcn rfl (by omega) (by omega) (fun cq1 => ?_) (fun cq1 => ?_)
  · skip
    have hno : ¬ cdOK cn rt := fun q => by have := q.1; omega
    refine lv_aload_n hx hb dX6_readCreditor_23 rfl (lv_at hl 1 rfl) ?_
    refine lv_iconst (v := 3) hx hb dX6_readCreditor_24 (by decide) ?_
    refine lv_aload_n hx hb dX6_readCreditor_25 rfl (lv_at hl 1 rfl) ?_
    refine va_get (D := G.1) (ci := 6) (v := .int (nI s.1)) (C := RX6) (T := TX6) (N := 8) hx hb hts k1 hown hK hP 0 rfl rfl 6 (by decide) k4 (fun _ h9 => h9) rfl dX6_readCreditor_26 ?_
    refine cX_V (Cn := RX6) (n := 2) (As := [.int 3, .int (nI s.1)]) (rest := []) (wsn := rdW G l0 l1 b0 b1 b2 b3 s0 s1 s2 s3 s4 (opB 3 (nI s.1) s) em i tx rt rn) C (c_X6_blame l G l0 l1 b0 b1 b2 b3 s0 s1 s2 s3 s4 s em i tx rt rn  3 (nI s.1) (by decide)) gX6_readCreditor_X6_blame rfl ⟨rfl, rfl⟩ hd_X6_blame ⟨(Nat.le_of_ble_eq_true rfl), (Nat.le_of_ble_eq_true rfl)⟩ hK hP hD hS [0, 1, 2, 3, 4, 5, 6, 7, 8, 9, 10] (by decide) rfl (rdW_f.trans rdW_f.symm) rfl (rdW_f.trans rdW_f.symm) (va_recv hK hP (ci := 6) (q0 := 0) rfl rfl) rfl hl.1 rfl (Nat.le_of_ble_eq_true rfl) dX6_readCreditor_29 ⟨(Nat.le_of_ble_eq_true rfl), (Nat.le_of_ble_eq_true rfl)⟩ (fun H locs hP hD hS => ?_)
    have hP : va_P G.1 vwCl (rdW G l0 l1 b0 b1 b2 b3 s0 s1 s2 s3 s4 (rcS tx sz s cn rt) (rcM tx sz s cn rt em) i tx (rcT tx sz s cn rt) (rcN tx sz s cn rt rn)) H := by rw [show (rcS tx sz s cn rt) = (opB 3 (nI s.1) s) from (if_neg hno), show (rcM tx sz s cn rt em) = em from (if_neg hno), show (rcT tx sz s cn rt) = rt from (if_neg hno), show (rcN tx sz s cn rt rn) = rn from (if_neg hno)]; exact hP
    exact mX_vret hAe C hP hS dX6_readCreditor_32
  · skip
    have h10 := cq1
    refine lv_aload_n hx hb dX6_readCreditor_13 rfl (lv_at hl 1 rfl) ?_
    refine va_get (D := G.1) (ci := 6) (v := .ref b0) (C := RX6) (T := TX6) (N := 8) hx hb hts k1 hown hK hP 0 rfl rfl 0 (by decide) k0 (fun _ h9 => h9) rfl dX6_readCreditor_14 ?_
    refine va_get (D := G.1) (ci := 8) (v := .int (rt 4)) (C := RX8) (T := TX8) (N := 9) hx hb hts k3 hown hK hP 2 rfl rfl 4 (by decide) k5 (fun _ h9 => h9) rfl dX6_readCreditor_17 ?_
    refine lv_if_le (tgt := 33) hx hb dX6_readCreditor_20 (by decide) (fun cq2 => ?_) (fun cq2 => ?_)
    · skip
      have hok : cdOK cn rt := ⟨h10, cq2⟩
      refine lv_aload_n hx hb dX6_readCreditor_33 rfl (lv_at hl 1 rfl) ?_
      refine lv_dup hx hb dX6_readCreditor_34 rfl ?_
      refine va_get (D := G.1) (ci := 6) (v := .int (nI s.1)) (C := RX6) (T := TX6) (N := 8) hx hb hts k1 hown hK hP 0 rfl rfl 6 (by decide) k4 (fun _ h9 => h9) rfl dX6_readCreditor_35 ?_
      refine lv_iconst (v := 1) hx hb dX6_readCreditor_38 (by decide) ?_
      refine n_iadd hx hb dX6_readCreditor_39 (u := s.1) (v := 1) rfl rfl (j := s.1 + 1) (by omega) ?_
      refine n_put (D := G.1) (wsn := rdW G l0 l1 b0 b1 b2 b3 s0 s1 s2 s3 s4 (s.1 + 1, s.2.1, s.2.2) em i tx rt rn) (ci := 6) (v := .int (nI (s.1 + 1))) (ty := .int) (C := RX6) (T := TX6) (N := 8) hx hb hts k1 tyX6 tyX6_ok nmX6 hown hK hP hD hS 0 rfl rfl 6 (by decide) k4 (fun _ h9 => h9) rfl (by decide +kernel) rfl rfl (Nat.le_of_ble_eq_true rfl) rfl dX6_readCreditor_40 (fun H locs hP hD hS => ?_)
      have hP : va_P G.1 vwCl (rdW G l0 l1 b0 b1 b2 b3 s0 s1 s2 s3 s4 (rc1 s) em i tx rt rn) H := hP
      have hD : va_D A (rdW G l0 l1 b0 b1 b2 b3 s0 s1 s2 s3 s4 (rc1 s) em i tx rt rn) := hD
      refine lv_aload_n hx hb dX6_readCreditor_43 rfl (lv_at hl 1 rfl) ?_
      refine va_get (D := G.1) (ci := 6) (v := .ref s0) (C := RX6) (T := TX6) (N := 8) hx hb hts k1 hown hK hP 0 rfl rfl 1 (by decide) k6 (fun _ h9 => h9) rfl dX6_readCreditor_44 ?_
      refine va_get (D := G.1) (ci := 7) (v := .ref s2) (C := RX7) (T := TX7) (N := 7) hx hb hts k8 hown hK hP 6 rfl rfl 2 (by decide) k7 (fun _ h9 => h9) rfl dX6_readCreditor_47 ?_
      refine lv_iload_n hx hb dX6_readCreditor_50 rfl (lv_at hl 0 rfl) ?_
      refine lv_aload_n hx hb dX6_readCreditor_51 rfl (lv_at hl 1 rfl) ?_
      refine lv_iconst (v := 0) hx hb dX6_readCreditor_52 (by decide) ?_
      refine lv_sipush (v := 999) hx hb dX6_readCreditor_53 (by decide) ?_
      refine cX_V (Cn := RX6) (n := 2) (As := [.int 0, .int 999]) (rest := [.int (rt 3), .ref s2]) (wsn := rdW G l0 l1 b0 b1 b2 b3 s0 s1 s2 s3 s4 (opN tx sz 0 999 (rc1 s)) (nI (sk tx sz (rc1 s).1)) i tx rt rn) C (c_X6_readNumber l G l0 l1 b0 b1 b2 b3 s0 s1 s2 s3 s4 (rc1 s) em i tx rt rn sz 0 999 hsz hs240 hr1) gX6_readCreditor_X6_readNumber rfl ⟨rfl, rfl⟩ hd_X6_readNumber ⟨(Nat.le_of_ble_eq_true rfl), (Nat.le_of_ble_eq_true rfl)⟩ hK hP hD hS [0, 1, 2, 3, 4, 5, 6, 7, 8, 9, 10] (by decide) rfl (rdW_f.trans rdW_f.symm) rfl (rdW_f.trans rdW_f.symm) (va_recv hK hP (ci := 6) (q0 := 0) rfl rfl) rfl hl.1 rfl (Nat.le_of_ble_eq_true rfl) dX6_readCreditor_56 ⟨(Nat.le_of_ble_eq_true rfl), (Nat.le_of_ble_eq_true rfl)⟩ (fun H locs hP hD hS => ?_)
      refine n_iastQ hx hb hK hP hD hS 8 0 rfl rfl (x := (stV tx sz (rc1 s).1)) (j := cn) hcn (by omega) (by decide) dX6_readCreditor_59 (wsn := rdW G l0 l1 b0 b1 b2 b3 s0 s1 s2 s3 s4 (opN tx sz 0 999 (rc1 s)) (nI (sk tx sz (rc1 s).1)) i tx rt (upd rn (32 + cn) (stV tx sz (rc1 s).1))) (rdW_r8 (by omega)) (fun H locs hP hD hS => ?_)
      have hP : va_P G.1 vwCl (rdW G l0 l1 b0 b1 b2 b3 s0 s1 s2 s3 s4 (rc2 tx sz s) (nI (sk tx sz (rc1 s).1)) i tx rt (upd rn (32 + cn) (stV tx sz (rc1 s).1))) H := hP
      have hD : va_D A (rdW G l0 l1 b0 b1 b2 b3 s0 s1 s2 s3 s4 (rc2 tx sz s) (nI (sk tx sz (rc1 s).1)) i tx rt (upd rn (32 + cn) (stV tx sz (rc1 s).1))) := hD
      refine lv_aload_n hx hb dX6_readCreditor_60 rfl (lv_at hl 1 rfl) ?_
      refine va_get (D := G.1) (ci := 6) (v := .ref b0) (C := RX6) (T := TX6) (N := 8) hx hb hts k1 hown hK hP 0 rfl rfl 0 (by decide) k0 (fun _ h9 => h9) rfl dX6_readCreditor_61 ?_
      refine va_get (D := G.1) (ci := 8) (v := .ref b1) (C := RX8) (T := TX8) (N := 9) hx hb hts k3 hown hK hP 2 rfl rfl 6 (by decide) k9 (fun _ h9 => h9) rfl dX6_readCreditor_64 ?_
      refine lv_iload_n hx hb dX6_readCreditor_67 rfl (lv_at hl 0 rfl) ?_
      refine lv_aload_n hx hb dX6_readCreditor_68 rfl (lv_at hl 1 rfl) ?_
      refine lv_iconst (v := 1) hx hb dX6_readCreditor_69 (by decide) ?_
      refine lv_sipush (v := 999) hx hb dX6_readCreditor_70 (by decide) ?_
      refine cX_V (Cn := RX6) (n := 2) (As := [.int 1, .int 999]) (rest := [.int (rt 3), .ref b1]) (wsn := rdW G l0 l1 b0 b1 b2 b3 s0 s1 s2 s3 s4 (opN tx sz 1 999 (rc2 tx sz s)) (nI (sk tx sz (rc2 tx sz s).1)) i tx rt (upd rn (32 + cn) (stV tx sz (rc1 s).1))) C (c_X6_readNumber l G l0 l1 b0 b1 b2 b3 s0 s1 s2 s3 s4 (rc2 tx sz s) (nI (sk tx sz (rc1 s).1)) i tx rt (upd rn (32 + cn) (stV tx sz (rc1 s).1)) sz 1 999 hsz hs240 hr2) gX6_readCreditor_X6_readNumber rfl ⟨rfl, rfl⟩ hd_X6_readNumber ⟨(Nat.le_of_ble_eq_true rfl), (Nat.le_of_ble_eq_true rfl)⟩ hK hP hD hS [0, 1, 2, 3, 4, 5, 6, 7, 8, 9, 10] (by decide) rfl (rdW_f.trans rdW_f.symm) rfl (rdW_f.trans rdW_f.symm) (va_recv hK hP (ci := 6) (q0 := 0) rfl rfl) rfl hl.1 rfl (Nat.le_of_ble_eq_true rfl) dX6_readCreditor_73 ⟨(Nat.le_of_ble_eq_true rfl), (Nat.le_of_ble_eq_true rfl)⟩ (fun H locs hP hD hS => ?_)
      refine n_iastQ hx hb hK hP hD hS 3 0 rfl rfl (x := (stV tx sz (rc2 tx sz s).1)) (j := cn) hcn (by omega) (by decide) dX6_readCreditor_76 (wsn := rdW G l0 l1 b0 b1 b2 b3 s0 s1 s2 s3 s4 (opN tx sz 1 999 (rc2 tx sz s)) (nI (sk tx sz (rc2 tx sz s).1)) i tx (upd rt (9 + cn) (stV tx sz (rc2 tx sz s).1)) (upd rn (32 + cn) (stV tx sz (rc1 s).1))) (rdW_r3 (by omega)) (fun H locs hP hD hS => ?_)
      have hP : va_P G.1 vwCl (rdW G l0 l1 b0 b1 b2 b3 s0 s1 s2 s3 s4 (rc3 tx sz s) (nI (sk tx sz (rc2 tx sz s).1)) i tx (upd rt (9 + cn) (stV tx sz (rc2 tx sz s).1)) (upd rn (32 + cn) (stV tx sz (rc1 s).1))) H := hP
      have hD : va_D A (rdW G l0 l1 b0 b1 b2 b3 s0 s1 s2 s3 s4 (rc3 tx sz s) (nI (sk tx sz (rc2 tx sz s).1)) i tx (upd rt (9 + cn) (stV tx sz (rc2 tx sz s).1)) (upd rn (32 + cn) (stV tx sz (rc1 s).1))) := hD
      refine lv_aload_n hx hb dX6_readCreditor_77 rfl (lv_at hl 1 rfl) ?_
      refine va_get (D := G.1) (ci := 6) (v := .ref b0) (C := RX6) (T := TX6) (N := 8) hx hb hts k1 hown hK hP 0 rfl rfl 0 (by decide) k0 (fun _ h9 => h9) rfl dX6_readCreditor_78 ?_
      refine va_get (D := G.1) (ci := 8) (v := .ref b2) (C := RX8) (T := TX8) (N := 9) hx hb hts k3 hown hK hP 2 rfl rfl 7 (by decide) k10 (fun _ h9 => h9) rfl dX6_readCreditor_81 ?_
      refine lv_iload_n hx hb dX6_readCreditor_84 rfl (lv_at hl 0 rfl) ?_
      refine lv_aload_n hx hb dX6_readCreditor_85 rfl (lv_at hl 1 rfl) ?_
      refine lv_iconst (v := 1) hx hb dX6_readCreditor_86 (by decide) ?_
      refine lv_sipush (v := 999) hx hb dX6_readCreditor_87 (by decide) ?_
      refine cX_V (Cn := RX6) (n := 2) (As := [.int 1, .int 999]) (rest := [.int (rt 3), .ref b2]) (wsn := rdW G l0 l1 b0 b1 b2 b3 s0 s1 s2 s3 s4 (opN tx sz 1 999 (rc3 tx sz s)) (nI (sk tx sz (rc3 tx sz s).1)) i tx (upd rt (9 + cn) (stV tx sz (rc2 tx sz s).1)) (upd rn (32 + cn) (stV tx sz (rc1 s).1))) C (c_X6_readNumber l G l0 l1 b0 b1 b2 b3 s0 s1 s2 s3 s4 (rc3 tx sz s) (nI (sk tx sz (rc2 tx sz s).1)) i tx (upd rt (9 + cn) (stV tx sz (rc2 tx sz s).1)) (upd rn (32 + cn) (stV tx sz (rc1 s).1)) sz 1 999 hsz hs240 hr3) gX6_readCreditor_X6_readNumber rfl ⟨rfl, rfl⟩ hd_X6_readNumber ⟨(Nat.le_of_ble_eq_true rfl), (Nat.le_of_ble_eq_true rfl)⟩ hK hP hD hS [0, 1, 2, 3, 4, 5, 6, 7, 8, 9, 10] (by decide) rfl (rdW_f.trans rdW_f.symm) rfl (rdW_f.trans rdW_f.symm) (va_recv hK hP (ci := 6) (q0 := 0) rfl rfl) rfl hl.1 rfl (Nat.le_of_ble_eq_true rfl) dX6_readCreditor_90 ⟨(Nat.le_of_ble_eq_true rfl), (Nat.le_of_ble_eq_true rfl)⟩ (fun H locs hP hD hS => ?_)
      refine n_iastQ hx hb hK hP hD hS 4 0 rfl rfl (x := (stV tx sz (rc3 tx sz s).1)) (j := cn) hcn (by omega) (by decide) dX6_readCreditor_93 (wsn := rdW G l0 l1 b0 b1 b2 b3 s0 s1 s2 s3 s4 (opN tx sz 1 999 (rc3 tx sz s)) (nI (sk tx sz (rc3 tx sz s).1)) i tx (upd (upd rt (9 + cn) (stV tx sz (rc2 tx sz s).1)) (13 + cn) (stV tx sz (rc3 tx sz s).1)) (upd rn (32 + cn) (stV tx sz (rc1 s).1))) (rdW_r4 (by omega)) (fun H locs hP hD hS => ?_)
      have hP : va_P G.1 vwCl (rdW G l0 l1 b0 b1 b2 b3 s0 s1 s2 s3 s4 (rc4 tx sz s) (nI (sk tx sz (rc3 tx sz s).1)) i tx (upd (upd rt (9 + cn) (stV tx sz (rc2 tx sz s).1)) (13 + cn) (stV tx sz (rc3 tx sz s).1)) (upd rn (32 + cn) (stV tx sz (rc1 s).1))) H := hP
      have hD : va_D A (rdW G l0 l1 b0 b1 b2 b3 s0 s1 s2 s3 s4 (rc4 tx sz s) (nI (sk tx sz (rc3 tx sz s).1)) i tx (upd (upd rt (9 + cn) (stV tx sz (rc2 tx sz s).1)) (13 + cn) (stV tx sz (rc3 tx sz s).1)) (upd rn (32 + cn) (stV tx sz (rc1 s).1))) := hD
      refine lv_aload_n hx hb dX6_readCreditor_94 rfl (lv_at hl 1 rfl) ?_
      refine va_get (D := G.1) (ci := 6) (v := .ref b0) (C := RX6) (T := TX6) (N := 8) hx hb hts k1 hown hK hP 0 rfl rfl 0 (by decide) k0 (fun _ h9 => h9) rfl dX6_readCreditor_95 ?_
      refine va_get (D := G.1) (ci := 8) (v := .ref b2) (C := RX8) (T := TX8) (N := 9) hx hb hts k3 hown hK hP 2 rfl rfl 7 (by decide) k10 (fun _ h9 => h9) rfl dX6_readCreditor_98 ?_
      refine lv_iload_n hx hb dX6_readCreditor_101 rfl (lv_at hl 0 rfl) ?_
      refine n_iald hx hb hK hP 4 0 rfl rfl (j := cn) hcn (by omega) (by decide) dX6_readCreditor_102 ?_
      refine lv_aload_n hx hb dX6_readCreditor_103 rfl (lv_at hl 1 rfl) ?_
      refine va_get (D := G.1) (ci := 6) (v := .ref b0) (C := RX6) (T := TX6) (N := 8) hx hb hts k1 hown hK hP 0 rfl rfl 0 (by decide) k0 (fun _ h9 => h9) rfl dX6_readCreditor_104 ?_
      refine va_get (D := G.1) (ci := 8) (v := .ref b1) (C := RX8) (T := TX8) (N := 9) hx hb hts k3 hown hK hP 2 rfl rfl 6 (by decide) k9 (fun _ h9 => h9) rfl dX6_readCreditor_107 ?_
      refine lv_iload_n hx hb dX6_readCreditor_110 rfl (lv_at hl 0 rfl) ?_
      refine n_iald hx hb hK hP 3 0 rfl rfl (j := cn) hcn (by omega) (by decide) dX6_readCreditor_111 ?_
      refine lv_icmp_ge (tgt := 124) hx hb dX6_readCreditor_112 (by decide) (fun cq3 => ?_) (fun cq3 => ?_)
      · skip
        rw [show (upd (upd rt (9 + cn) (stV tx sz (rc2 tx sz s).1)) (13 + cn) (stV tx sz (rc3 tx sz s).1)) (9 + cn) = stV tx sz (rc2 tx sz s).1 by rw [upd_ne (by omega), upd_at]] at cq3
        rw [show (upd (upd rt (9 + cn) (stV tx sz (rc2 tx sz s).1)) (13 + cn) (stV tx sz (rc3 tx sz s).1)) (13 + cn) = stV tx sz (rc3 tx sz s).1 from upd_at _ _ _] at cq3
        have hrc5 : rc5 tx sz s = rc4 tx sz s := if_neg (i32_nlt.mpr cq3)
        have hP : va_P G.1 vwCl (rdW G l0 l1 b0 b1 b2 b3 s0 s1 s2 s3 s4 (rc5 tx sz s) (nI (sk tx sz (rc3 tx sz s).1)) i tx (upd (upd rt (9 + cn) (stV tx sz (rc2 tx sz s).1)) (13 + cn) (stV tx sz (rc3 tx sz s).1)) (upd rn (32 + cn) (stV tx sz (rc1 s).1))) H := by rw [hrc5]; exact hP
        have hD : va_D A (rdW G l0 l1 b0 b1 b2 b3 s0 s1 s2 s3 s4 (rc5 tx sz s) (nI (sk tx sz (rc3 tx sz s).1)) i tx (upd (upd rt (9 + cn) (stV tx sz (rc2 tx sz s).1)) (13 + cn) (stV tx sz (rc3 tx sz s).1)) (upd rn (32 + cn) (stV tx sz (rc1 s).1))) := by rw [hrc5]; exact hD
        refine lv_aload_n hx hb dX6_readCreditor_124 rfl (lv_at hl 1 rfl) ?_
        refine va_get (D := G.1) (ci := 6) (v := .ref b0) (C := RX6) (T := TX6) (N := 8) hx hb hts k1 hown hK hP 0 rfl rfl 0 (by decide) k0 (fun _ h9 => h9) rfl dX6_readCreditor_125 ?_
        refine va_get (D := G.1) (ci := 8) (v := .ref b3) (C := RX8) (T := TX8) (N := 9) hx hb hts k3 hown hK hP 2 rfl rfl 8 (by decide) k11 (fun _ h9 => h9) rfl dX6_readCreditor_128 ?_
        refine lv_iload_n hx hb dX6_readCreditor_131 rfl (lv_at hl 0 rfl) ?_
        refine lv_aload_n hx hb dX6_readCreditor_132 rfl (lv_at hl 1 rfl) ?_
        refine lv_iconst (v := 1) hx hb dX6_readCreditor_133 (by decide) ?_
        refine lv_bipush (v := 9) hx hb dX6_readCreditor_134 (by decide) ?_
        refine cX_V (Cn := RX6) (n := 2) (As := [.int 1, .int 9]) (rest := [.int (rt 3), .ref b3]) (wsn := rdW G l0 l1 b0 b1 b2 b3 s0 s1 s2 s3 s4 (opN tx sz 1 9 (rc5 tx sz s)) (nI (sk tx sz (rc5 tx sz s).1)) i tx (upd (upd rt (9 + cn) (stV tx sz (rc2 tx sz s).1)) (13 + cn) (stV tx sz (rc3 tx sz s).1)) (upd rn (32 + cn) (stV tx sz (rc1 s).1))) C (c_X6_readNumber l G l0 l1 b0 b1 b2 b3 s0 s1 s2 s3 s4 (rc5 tx sz s) (nI (sk tx sz (rc3 tx sz s).1)) i tx (upd (upd rt (9 + cn) (stV tx sz (rc2 tx sz s).1)) (13 + cn) (stV tx sz (rc3 tx sz s).1)) (upd rn (32 + cn) (stV tx sz (rc1 s).1)) sz 1 9 hsz hs240 hr5) gX6_readCreditor_X6_readNumber rfl ⟨rfl, rfl⟩ hd_X6_readNumber ⟨(Nat.le_of_ble_eq_true rfl), (Nat.le_of_ble_eq_true rfl)⟩ hK hP hD hS [0, 1, 2, 3, 4, 5, 6, 7, 8, 9, 10] (by decide) rfl (rdW_f.trans rdW_f.symm) rfl (rdW_f.trans rdW_f.symm) (va_recv hK hP (ci := 6) (q0 := 0) rfl rfl) rfl hl.1 rfl (Nat.le_of_ble_eq_true rfl) dX6_readCreditor_136 ⟨(Nat.le_of_ble_eq_true rfl), (Nat.le_of_ble_eq_true rfl)⟩ (fun H locs hP hD hS => ?_)
        refine n_iastQ hx hb hK hP hD hS 5 0 rfl rfl (x := (stV tx sz (rc5 tx sz s).1)) (j := cn) hcn (by omega) (by decide) dX6_readCreditor_139 (wsn := rdW G l0 l1 b0 b1 b2 b3 s0 s1 s2 s3 s4 (opN tx sz 1 9 (rc5 tx sz s)) (nI (sk tx sz (rc5 tx sz s).1)) i tx (upd (upd (upd rt (9 + cn) (stV tx sz (rc2 tx sz s).1)) (13 + cn) (stV tx sz (rc3 tx sz s).1)) (17 + cn) (stV tx sz (rc5 tx sz s).1)) (upd rn (32 + cn) (stV tx sz (rc1 s).1))) (rdW_r5 (by omega)) (fun H locs hP hD hS => ?_)
        have hP : va_P G.1 vwCl (rdW G l0 l1 b0 b1 b2 b3 s0 s1 s2 s3 s4 (rc6 tx sz s) (nI (sk tx sz (rc5 tx sz s).1)) i tx (upd (upd (upd rt (9 + cn) (stV tx sz (rc2 tx sz s).1)) (13 + cn) (stV tx sz (rc3 tx sz s).1)) (17 + cn) (stV tx sz (rc5 tx sz s).1)) (upd rn (32 + cn) (stV tx sz (rc1 s).1))) H := hP
        have hD : va_D A (rdW G l0 l1 b0 b1 b2 b3 s0 s1 s2 s3 s4 (rc6 tx sz s) (nI (sk tx sz (rc5 tx sz s).1)) i tx (upd (upd (upd rt (9 + cn) (stV tx sz (rc2 tx sz s).1)) (13 + cn) (stV tx sz (rc3 tx sz s).1)) (17 + cn) (stV tx sz (rc5 tx sz s).1)) (upd rn (32 + cn) (stV tx sz (rc1 s).1))) := hD
        refine lv_aload_n hx hb dX6_readCreditor_140 rfl (lv_at hl 1 rfl) ?_
        refine lv_bipush (v := 59) hx hb dX6_readCreditor_141 (by decide) ?_
        refine cX_V (Cn := RX6) (n := 1) (As := [.int 59]) (rest := []) (wsn := rdW G l0 l1 b0 b1 b2 b3 s0 s1 s2 s3 s4 (opS tx sz 59 (rc6 tx sz s)) (nI (sk tx sz (rc5 tx sz s).1)) i tx (upd (upd (upd rt (9 + cn) (stV tx sz (rc2 tx sz s).1)) (13 + cn) (stV tx sz (rc3 tx sz s).1)) (17 + cn) (stV tx sz (rc5 tx sz s).1)) (upd rn (32 + cn) (stV tx sz (rc1 s).1))) C (c_X6_readSign l G l0 l1 b0 b1 b2 b3 s0 s1 s2 s3 s4 (rc6 tx sz s) (nI (sk tx sz (rc5 tx sz s).1)) i tx (upd (upd (upd rt (9 + cn) (stV tx sz (rc2 tx sz s).1)) (13 + cn) (stV tx sz (rc3 tx sz s).1)) (17 + cn) (stV tx sz (rc5 tx sz s).1)) (upd rn (32 + cn) (stV tx sz (rc1 s).1)) sz 59 hsz hs240 hr6) gX6_readCreditor_X6_readSign rfl ⟨rfl, rfl⟩ hd_X6_readSign ⟨(Nat.le_of_ble_eq_true rfl), (Nat.le_of_ble_eq_true rfl)⟩ hK hP hD hS [0, 1, 2, 3, 4, 5, 6, 7, 8, 9, 10] (by decide) rfl (rdW_f.trans rdW_f.symm) rfl (rdW_f.trans rdW_f.symm) (va_recv hK hP (ci := 6) (q0 := 0) rfl rfl) rfl hl.1 rfl (Nat.le_of_ble_eq_true rfl) dX6_readCreditor_143 ⟨(Nat.le_of_ble_eq_true rfl), (Nat.le_of_ble_eq_true rfl)⟩ (fun H locs hP hD hS => ?_)
        have h3e : (upd (upd (upd rt (9 + cn) (stV tx sz (rc2 tx sz s).1)) (13 + cn) (stV tx sz (rc3 tx sz s).1)) (17 + cn) (stV tx sz (rc5 tx sz s).1)) 3 = nI cn := by rw [upd_ne (by omega), upd_ne (by omega), upd_ne (by omega)]; exact hcn
        refine lv_aload_n hx hb dX6_readCreditor_146 rfl (lv_at hl 1 rfl) ?_
        refine va_get (D := G.1) (ci := 6) (v := .ref b0) (C := RX6) (T := TX6) (N := 8) hx hb hts k1 hown hK hP 0 rfl rfl 0 (by decide) k0 (fun _ h9 => h9) rfl dX6_readCreditor_147 ?_
        refine lv_dup hx hb dX6_readCreditor_150 rfl ?_
        refine va_get (D := G.1) (ci := 8) (v := .int ((upd (upd (upd rt (9 + cn) (stV tx sz (rc2 tx sz s).1)) (13 + cn) (stV tx sz (rc3 tx sz s).1)) (17 + cn) (stV tx sz (rc5 tx sz s).1)) 3)) (C := RX8) (T := TX8) (N := 9) hx hb hts k3 hown hK hP 2 rfl rfl 3 (by decide) k2 (fun _ h9 => h9) rfl dX6_readCreditor_151 ?_
        refine lv_iconst (v := 1) hx hb dX6_readCreditor_154 (by decide) ?_
        refine n_iadd hx hb dX6_readCreditor_155 (u := cn) (v := 1) h3e rfl (j := cn + 1) (by omega) ?_
        refine n_putQ (D := G.1) (wsn := rdW G l0 l1 b0 b1 b2 b3 s0 s1 s2 s3 s4 (opS tx sz 59 (rc6 tx sz s)) (nI (sk tx sz (rc5 tx sz s).1)) i tx (upd (upd (upd (upd rt (9 + cn) (stV tx sz (rc2 tx sz s).1)) (13 + cn) (stV tx sz (rc3 tx sz s).1)) (17 + cn) (stV tx sz (rc5 tx sz s).1)) 3 (nI (cn + 1))) (upd rn (32 + cn) (stV tx sz (rc1 s).1))) (ci := 8) (v := .int (nI (cn + 1))) (ty := .int) (C := RX8) (T := TX8) (N := 9) hx hb hts k3 tyX8 tyX8_ok nmX8 hown hK hP hD hS 2 rfl rfl 3 (by decide) k2 (fun _ h9 => h9) rfl (by decide +kernel) rfl rfl (Nat.le_of_ble_eq_true rfl) rdW_p2_3 dX6_readCreditor_156 (fun H locs hP hD hS => ?_)
        have hP : va_P G.1 vwCl (rdW G l0 l1 b0 b1 b2 b3 s0 s1 s2 s3 s4 (rcS tx sz s cn rt) (rcM tx sz s cn rt em) i tx (rcT tx sz s cn rt) (rcN tx sz s cn rt rn)) H := by rw [show (rcS tx sz s cn rt) = (opS tx sz 59 (rc6 tx sz s)) from (if_pos hok), show (rcM tx sz s cn rt em) = (nI (sk tx sz (rc5 tx sz s).1)) from (if_pos hok), show (rcT tx sz s cn rt) = (upd (upd (upd (upd rt (9 + cn) (stV tx sz (rc2 tx sz s).1)) (13 + cn) (stV tx sz (rc3 tx sz s).1)) (17 + cn) (stV tx sz (rc5 tx sz s).1)) 3 (nI (cn + 1))) from (if_pos hok), show (rcN tx sz s cn rt rn) = (upd rn (32 + cn) (stV tx sz (rc1 s).1)) from (if_pos hok)]; exact hP
        exact mX_vret hAe C hP hS dX6_readCreditor_159
      · skip
        rw [show (upd (upd rt (9 + cn) (stV tx sz (rc2 tx sz s).1)) (13 + cn) (stV tx sz (rc3 tx sz s).1)) (9 + cn) = stV tx sz (rc2 tx sz s).1 by rw [upd_ne (by omega), upd_at]] at cq3
        rw [show (upd (upd rt (9 + cn) (stV tx sz (rc2 tx sz s).1)) (13 + cn) (stV tx sz (rc3 tx sz s).1)) (13 + cn) = stV tx sz (rc3 tx sz s).1 from upd_at _ _ _] at cq3
        have hrc5 : rc5 tx sz s = opB 4 (nI (sk tx sz (rc3 tx sz s).1)) (rc4 tx sz s) := if_pos (i32_nle.mp cq3)
        refine lv_aload_n hx hb dX6_readCreditor_115 rfl (lv_at hl 1 rfl) ?_
        refine lv_iconst (v := 4) hx hb dX6_readCreditor_116 (by decide) ?_
        refine lv_aload_n hx hb dX6_readCreditor_117 rfl (lv_at hl 1 rfl) ?_
        refine va_get (D := G.1) (ci := 6) (v := .int (nI (sk tx sz (rc3 tx sz s).1))) (C := RX6) (T := TX6) (N := 8) hx hb hts k1 hown hK hP 0 rfl rfl 7 (by decide) k12 (fun _ h9 => h9) rfl dX6_readCreditor_118 ?_
        refine cX_V (Cn := RX6) (n := 2) (As := [.int 4, .int (nI (sk tx sz (rc3 tx sz s).1))]) (rest := []) (wsn := rdW G l0 l1 b0 b1 b2 b3 s0 s1 s2 s3 s4 (opB 4 (nI (sk tx sz (rc3 tx sz s).1)) (rc4 tx sz s)) (nI (sk tx sz (rc3 tx sz s).1)) i tx (upd (upd rt (9 + cn) (stV tx sz (rc2 tx sz s).1)) (13 + cn) (stV tx sz (rc3 tx sz s).1)) (upd rn (32 + cn) (stV tx sz (rc1 s).1))) C (c_X6_blame l G l0 l1 b0 b1 b2 b3 s0 s1 s2 s3 s4 (rc4 tx sz s) (nI (sk tx sz (rc3 tx sz s).1)) i tx (upd (upd rt (9 + cn) (stV tx sz (rc2 tx sz s).1)) (13 + cn) (stV tx sz (rc3 tx sz s).1)) (upd rn (32 + cn) (stV tx sz (rc1 s).1))  4 (nI (sk tx sz (rc3 tx sz s).1)) (by decide)) gX6_readCreditor_X6_blame rfl ⟨rfl, rfl⟩ hd_X6_blame ⟨(Nat.le_of_ble_eq_true rfl), (Nat.le_of_ble_eq_true rfl)⟩ hK hP hD hS [0, 1, 2, 3, 4, 5, 6, 7, 8, 9, 10] (by decide) rfl (rdW_f.trans rdW_f.symm) rfl (rdW_f.trans rdW_f.symm) (va_recv hK hP (ci := 6) (q0 := 0) rfl rfl) rfl hl.1 rfl (Nat.le_of_ble_eq_true rfl) dX6_readCreditor_121 ⟨(Nat.le_of_ble_eq_true rfl), (Nat.le_of_ble_eq_true rfl)⟩ (fun H locs hP hD hS => ?_)
        have hP : va_P G.1 vwCl (rdW G l0 l1 b0 b1 b2 b3 s0 s1 s2 s3 s4 (rc5 tx sz s) (nI (sk tx sz (rc3 tx sz s).1)) i tx (upd (upd rt (9 + cn) (stV tx sz (rc2 tx sz s).1)) (13 + cn) (stV tx sz (rc3 tx sz s).1)) (upd rn (32 + cn) (stV tx sz (rc1 s).1))) H := by rw [hrc5]; exact hP
        have hD : va_D A (rdW G l0 l1 b0 b1 b2 b3 s0 s1 s2 s3 s4 (rc5 tx sz s) (nI (sk tx sz (rc3 tx sz s).1)) i tx (upd (upd rt (9 + cn) (stV tx sz (rc2 tx sz s).1)) (13 + cn) (stV tx sz (rc3 tx sz s).1)) (upd rn (32 + cn) (stV tx sz (rc1 s).1))) := by rw [hrc5]; exact hD
        refine lv_aload_n hx hb dX6_readCreditor_124 rfl (lv_at hl 1 rfl) ?_
        refine va_get (D := G.1) (ci := 6) (v := .ref b0) (C := RX6) (T := TX6) (N := 8) hx hb hts k1 hown hK hP 0 rfl rfl 0 (by decide) k0 (fun _ h9 => h9) rfl dX6_readCreditor_125 ?_
        refine va_get (D := G.1) (ci := 8) (v := .ref b3) (C := RX8) (T := TX8) (N := 9) hx hb hts k3 hown hK hP 2 rfl rfl 8 (by decide) k11 (fun _ h9 => h9) rfl dX6_readCreditor_128 ?_
        refine lv_iload_n hx hb dX6_readCreditor_131 rfl (lv_at hl 0 rfl) ?_
        refine lv_aload_n hx hb dX6_readCreditor_132 rfl (lv_at hl 1 rfl) ?_
        refine lv_iconst (v := 1) hx hb dX6_readCreditor_133 (by decide) ?_
        refine lv_bipush (v := 9) hx hb dX6_readCreditor_134 (by decide) ?_
        refine cX_V (Cn := RX6) (n := 2) (As := [.int 1, .int 9]) (rest := [.int (rt 3), .ref b3]) (wsn := rdW G l0 l1 b0 b1 b2 b3 s0 s1 s2 s3 s4 (opN tx sz 1 9 (rc5 tx sz s)) (nI (sk tx sz (rc5 tx sz s).1)) i tx (upd (upd rt (9 + cn) (stV tx sz (rc2 tx sz s).1)) (13 + cn) (stV tx sz (rc3 tx sz s).1)) (upd rn (32 + cn) (stV tx sz (rc1 s).1))) C (c_X6_readNumber l G l0 l1 b0 b1 b2 b3 s0 s1 s2 s3 s4 (rc5 tx sz s) (nI (sk tx sz (rc3 tx sz s).1)) i tx (upd (upd rt (9 + cn) (stV tx sz (rc2 tx sz s).1)) (13 + cn) (stV tx sz (rc3 tx sz s).1)) (upd rn (32 + cn) (stV tx sz (rc1 s).1)) sz 1 9 hsz hs240 hr5) gX6_readCreditor_X6_readNumber rfl ⟨rfl, rfl⟩ hd_X6_readNumber ⟨(Nat.le_of_ble_eq_true rfl), (Nat.le_of_ble_eq_true rfl)⟩ hK hP hD hS [0, 1, 2, 3, 4, 5, 6, 7, 8, 9, 10] (by decide) rfl (rdW_f.trans rdW_f.symm) rfl (rdW_f.trans rdW_f.symm) (va_recv hK hP (ci := 6) (q0 := 0) rfl rfl) rfl hl.1 rfl (Nat.le_of_ble_eq_true rfl) dX6_readCreditor_136 ⟨(Nat.le_of_ble_eq_true rfl), (Nat.le_of_ble_eq_true rfl)⟩ (fun H locs hP hD hS => ?_)
        refine n_iastQ hx hb hK hP hD hS 5 0 rfl rfl (x := (stV tx sz (rc5 tx sz s).1)) (j := cn) hcn (by omega) (by decide) dX6_readCreditor_139 (wsn := rdW G l0 l1 b0 b1 b2 b3 s0 s1 s2 s3 s4 (opN tx sz 1 9 (rc5 tx sz s)) (nI (sk tx sz (rc5 tx sz s).1)) i tx (upd (upd (upd rt (9 + cn) (stV tx sz (rc2 tx sz s).1)) (13 + cn) (stV tx sz (rc3 tx sz s).1)) (17 + cn) (stV tx sz (rc5 tx sz s).1)) (upd rn (32 + cn) (stV tx sz (rc1 s).1))) (rdW_r5 (by omega)) (fun H locs hP hD hS => ?_)
        have hP : va_P G.1 vwCl (rdW G l0 l1 b0 b1 b2 b3 s0 s1 s2 s3 s4 (rc6 tx sz s) (nI (sk tx sz (rc5 tx sz s).1)) i tx (upd (upd (upd rt (9 + cn) (stV tx sz (rc2 tx sz s).1)) (13 + cn) (stV tx sz (rc3 tx sz s).1)) (17 + cn) (stV tx sz (rc5 tx sz s).1)) (upd rn (32 + cn) (stV tx sz (rc1 s).1))) H := hP
        have hD : va_D A (rdW G l0 l1 b0 b1 b2 b3 s0 s1 s2 s3 s4 (rc6 tx sz s) (nI (sk tx sz (rc5 tx sz s).1)) i tx (upd (upd (upd rt (9 + cn) (stV tx sz (rc2 tx sz s).1)) (13 + cn) (stV tx sz (rc3 tx sz s).1)) (17 + cn) (stV tx sz (rc5 tx sz s).1)) (upd rn (32 + cn) (stV tx sz (rc1 s).1))) := hD
        refine lv_aload_n hx hb dX6_readCreditor_140 rfl (lv_at hl 1 rfl) ?_
        refine lv_bipush (v := 59) hx hb dX6_readCreditor_141 (by decide) ?_
        refine cX_V (Cn := RX6) (n := 1) (As := [.int 59]) (rest := []) (wsn := rdW G l0 l1 b0 b1 b2 b3 s0 s1 s2 s3 s4 (opS tx sz 59 (rc6 tx sz s)) (nI (sk tx sz (rc5 tx sz s).1)) i tx (upd (upd (upd rt (9 + cn) (stV tx sz (rc2 tx sz s).1)) (13 + cn) (stV tx sz (rc3 tx sz s).1)) (17 + cn) (stV tx sz (rc5 tx sz s).1)) (upd rn (32 + cn) (stV tx sz (rc1 s).1))) C (c_X6_readSign l G l0 l1 b0 b1 b2 b3 s0 s1 s2 s3 s4 (rc6 tx sz s) (nI (sk tx sz (rc5 tx sz s).1)) i tx (upd (upd (upd rt (9 + cn) (stV tx sz (rc2 tx sz s).1)) (13 + cn) (stV tx sz (rc3 tx sz s).1)) (17 + cn) (stV tx sz (rc5 tx sz s).1)) (upd rn (32 + cn) (stV tx sz (rc1 s).1)) sz 59 hsz hs240 hr6) gX6_readCreditor_X6_readSign rfl ⟨rfl, rfl⟩ hd_X6_readSign ⟨(Nat.le_of_ble_eq_true rfl), (Nat.le_of_ble_eq_true rfl)⟩ hK hP hD hS [0, 1, 2, 3, 4, 5, 6, 7, 8, 9, 10] (by decide) rfl (rdW_f.trans rdW_f.symm) rfl (rdW_f.trans rdW_f.symm) (va_recv hK hP (ci := 6) (q0 := 0) rfl rfl) rfl hl.1 rfl (Nat.le_of_ble_eq_true rfl) dX6_readCreditor_143 ⟨(Nat.le_of_ble_eq_true rfl), (Nat.le_of_ble_eq_true rfl)⟩ (fun H locs hP hD hS => ?_)
        have h3e : (upd (upd (upd rt (9 + cn) (stV tx sz (rc2 tx sz s).1)) (13 + cn) (stV tx sz (rc3 tx sz s).1)) (17 + cn) (stV tx sz (rc5 tx sz s).1)) 3 = nI cn := by rw [upd_ne (by omega), upd_ne (by omega), upd_ne (by omega)]; exact hcn
        refine lv_aload_n hx hb dX6_readCreditor_146 rfl (lv_at hl 1 rfl) ?_
        refine va_get (D := G.1) (ci := 6) (v := .ref b0) (C := RX6) (T := TX6) (N := 8) hx hb hts k1 hown hK hP 0 rfl rfl 0 (by decide) k0 (fun _ h9 => h9) rfl dX6_readCreditor_147 ?_
        refine lv_dup hx hb dX6_readCreditor_150 rfl ?_
        refine va_get (D := G.1) (ci := 8) (v := .int ((upd (upd (upd rt (9 + cn) (stV tx sz (rc2 tx sz s).1)) (13 + cn) (stV tx sz (rc3 tx sz s).1)) (17 + cn) (stV tx sz (rc5 tx sz s).1)) 3)) (C := RX8) (T := TX8) (N := 9) hx hb hts k3 hown hK hP 2 rfl rfl 3 (by decide) k2 (fun _ h9 => h9) rfl dX6_readCreditor_151 ?_
        refine lv_iconst (v := 1) hx hb dX6_readCreditor_154 (by decide) ?_
        refine n_iadd hx hb dX6_readCreditor_155 (u := cn) (v := 1) h3e rfl (j := cn + 1) (by omega) ?_
        refine n_putQ (D := G.1) (wsn := rdW G l0 l1 b0 b1 b2 b3 s0 s1 s2 s3 s4 (opS tx sz 59 (rc6 tx sz s)) (nI (sk tx sz (rc5 tx sz s).1)) i tx (upd (upd (upd (upd rt (9 + cn) (stV tx sz (rc2 tx sz s).1)) (13 + cn) (stV tx sz (rc3 tx sz s).1)) (17 + cn) (stV tx sz (rc5 tx sz s).1)) 3 (nI (cn + 1))) (upd rn (32 + cn) (stV tx sz (rc1 s).1))) (ci := 8) (v := .int (nI (cn + 1))) (ty := .int) (C := RX8) (T := TX8) (N := 9) hx hb hts k3 tyX8 tyX8_ok nmX8 hown hK hP hD hS 2 rfl rfl 3 (by decide) k2 (fun _ h9 => h9) rfl (by decide +kernel) rfl rfl (Nat.le_of_ble_eq_true rfl) rdW_p2_3 dX6_readCreditor_156 (fun H locs hP hD hS => ?_)
        have hP : va_P G.1 vwCl (rdW G l0 l1 b0 b1 b2 b3 s0 s1 s2 s3 s4 (rcS tx sz s cn rt) (rcM tx sz s cn rt em) i tx (rcT tx sz s cn rt) (rcN tx sz s cn rt rn)) H := by rw [show (rcS tx sz s cn rt) = (opS tx sz 59 (rc6 tx sz s)) from (if_pos hok), show (rcM tx sz s cn rt em) = (nI (sk tx sz (rc5 tx sz s).1)) from (if_pos hok), show (rcT tx sz s cn rt) = (upd (upd (upd (upd rt (9 + cn) (stV tx sz (rc2 tx sz s).1)) (13 + cn) (stV tx sz (rc3 tx sz s).1)) (17 + cn) (stV tx sz (rc5 tx sz s).1)) 3 (nI (cn + 1))) from (if_pos hok), show (rcN tx sz s cn rt rn) = (upd rn (32 + cn) (stV tx sz (rc1 s).1)) from (if_pos hok)]; exact hP
        exact mX_vret hAe C hP hS dX6_readCreditor_159
    · skip
      have hno : ¬ cdOK cn rt := fun q => cq2 q.2
      refine lv_aload_n hx hb dX6_readCreditor_23 rfl (lv_at hl 1 rfl) ?_
      refine lv_iconst (v := 3) hx hb dX6_readCreditor_24 (by decide) ?_
      refine lv_aload_n hx hb dX6_readCreditor_25 rfl (lv_at hl 1 rfl) ?_
      refine va_get (D := G.1) (ci := 6) (v := .int (nI s.1)) (C := RX6) (T := TX6) (N := 8) hx hb hts k1 hown hK hP 0 rfl rfl 6 (by decide) k4 (fun _ h9 => h9) rfl dX6_readCreditor_26 ?_
      refine cX_V (Cn := RX6) (n := 2) (As := [.int 3, .int (nI s.1)]) (rest := []) (wsn := rdW G l0 l1 b0 b1 b2 b3 s0 s1 s2 s3 s4 (opB 3 (nI s.1) s) em i tx rt rn) C (c_X6_blame l G l0 l1 b0 b1 b2 b3 s0 s1 s2 s3 s4 s em i tx rt rn  3 (nI s.1) (by decide)) gX6_readCreditor_X6_blame rfl ⟨rfl, rfl⟩ hd_X6_blame ⟨(Nat.le_of_ble_eq_true rfl), (Nat.le_of_ble_eq_true rfl)⟩ hK hP hD hS [0, 1, 2, 3, 4, 5, 6, 7, 8, 9, 10] (by decide) rfl (rdW_f.trans rdW_f.symm) rfl (rdW_f.trans rdW_f.symm) (va_recv hK hP (ci := 6) (q0 := 0) rfl rfl) rfl hl.1 rfl (Nat.le_of_ble_eq_true rfl) dX6_readCreditor_29 ⟨(Nat.le_of_ble_eq_true rfl), (Nat.le_of_ble_eq_true rfl)⟩ (fun H locs hP hD hS => ?_)
      have hP : va_P G.1 vwCl (rdW G l0 l1 b0 b1 b2 b3 s0 s1 s2 s3 s4 (rcS tx sz s cn rt) (rcM tx sz s cn rt em) i tx (rcT tx sz s cn rt) (rcN tx sz s cn rt rn)) H := by rw [show (rcS tx sz s cn rt) = (opB 3 (nI s.1) s) from (if_neg hno), show (rcM tx sz s cn rt em) = em from (if_neg hno), show (rcT tx sz s cn rt) = rt from (if_neg hno), show (rcN tx sz s cn rt rn) = rn from (if_neg hno)]; exact hP
      exact mX_vret hAe C hP hS dX6_readCreditor_32
theorem hd_X6_readPerson : yX6_readPerson.cls = RX6 ∧ yX6_readPerson.cls ≠ "java/lang/invoke/MethodHandle" ∧ yX6_readPerson.cls ≠ "java/lang/invoke/VarHandle" ∧ (parseMethodDescriptor yX6_readPerson.desc).map (fun d => d.parameters.length) = some 1 := by decide +kernel
set_option maxRecDepth 100000 in
set_option maxHeartbeats 4000000 in
theorem c_X6_readPerson (l : Launch) (G : gG) (l0 : Nat) (l1 : Nat) (b0 : Nat) (b1 : Nat) (b2 : Nat) (b3 : Nat) (s0 : Nat) (s1 : Nat) (s2 : Nat) (s3 : Nat) (s4 : Nat) (s : RSt) (em : Int32) (i : Nat → Int32) (tx : Nat → Int32) (rt : Nat → Int32) (rn : Nat → Int32) (sz : Nat) (cn : Nat) (pn : Nat) (g : Prop) [Decidable g] (hsz : i 10 = nI sz) (hs240 : sz ≤ 240) (hlt : s.1 < sz) (hcn : rt 3 = nI cn) (hcn4 : cn ≤ 4) (hpn : rt 4 = nI pn) (hpn8 : pn ≤ 8) : mX l yX6_readPerson wsX6_readPerson ({ frames := 2, cells := 0, slots := 0, locals := 46 }) G (rdW G l0 l1 b0 b1 b2 b3 s0 s1 s2 s3 s4 s em i tx rt rn) (rdW G l0 l1 b0 b1 b2 b3 s0 s1 s2 s3 s4 (rpS tx sz s cn pn) (rpM tx sz s cn pn em) i tx (rpT g cn pn rt) (rpN tx sz s cn pn rn)) [.ref l0, .int (bI (g))] (.returned none) := by
  refine mX.of (cc := cX6_readPerson) (maxL := 4) (ret := none) (by decide) rfl (Nat.le_of_ble_eq_true rfl) ?_
  intro zp ze zs zm zb zt zc ls A hAe C hP hK hD hS hl
  obtain ⟨hx, hb, hr, hml, hown, hts, hlk⟩ := id C
  have hl : lv_has ls 4 [(0, .ref l0), (1, .int (bI (g)))] := hl
  have k0 := hts (.fieldLink RX6 12 "DebtDowry$Reader" "terms" "LDebtDowry$Terms;") (by decide +kernel)
  have k1 := (fun w h => by revert w; decide +kernel : ∀ w ∈ wsX60, w ∈ wsX6_readPerson)
  have k2 := hts (.fieldLink RX6 93 "DebtDowry$Terms" "persons" "I") (by decide +kernel)
  have k3 := (fun w h => by revert w; decide +kernel : ∀ w ∈ wsX80, w ∈ wsX6_readPerson)
  have k4 := hts (.fieldLink RX6 45 "DebtDowry$Reader" "at" "I") (by decide +kernel)
  have k5 := hts (.fieldLink RX6 90 "DebtDowry$Terms" "creditors" "I") (by decide +kernel)
  have k6 := hts (.fieldLink RX6 115 "DebtDowry$Terms" "girls" "I") (by decide +kernel)
  have k7 := hts (.fieldLink RX6 23 "DebtDowry$Reader" "state" "LDebtDowry$State;") (by decide +kernel)
  refine lv_aload_n hx hb dX6_readPerson_0 rfl (lv_at hl 0 rfl) ?_
  refine va_get (D := G.1) (ci := 6) (v := .ref b0) (C := RX6) (T := TX6) (N := 8) hx hb hts k1 hown hK hP 0 rfl rfl 0 (by decide) k0 (fun _ h9 => h9) rfl dX6_readPerson_1 ?_
  refine va_get (D := G.1) (ci := 8) (v := .int (rt 4)) (C := RX8) (T := TX8) (N := 9) hx hb hts k3 hown hK hP 2 rfl rfl 4 (by decide) k2 (fun _ h9 => h9) rfl dX6_readPerson_4 ?_
  refine lv_istore_n (lv' := [(2, .int (rt 4)), (0, .ref l0), (1, .int (bI (g)))]) hx hb dX6_readPerson_7 rfl hl (by decide) rfl (fun ls hl => ?_)
  refine lv_iload_n hx hb dX6_readPerson_8 rfl (lv_at hl 0 rfl) ?_
  refine lv_bipush (v := 8) hx hb dX6_readPerson_9 (by decide) ?_
  refine n_icmp_ge (tgt := 24) hx hb dX6_readPerson_11 (by decide) (u := pn) (v := 8) hpn rfl (by omega) (by omega) (fun cq1 => ?_) (fun cq1 => ?_)
  · skip
    have hno : ¬ psOK cn pn := fun q => by have := q.1; omega
    refine lv_aload_n hx hb dX6_readPerson_24 rfl (lv_at hl 1 rfl) ?_
    refine lv_iconst (v := 3) hx hb dX6_readPerson_25 (by decide) ?_
    refine lv_aload_n hx hb dX6_readPerson_26 rfl (lv_at hl 1 rfl) ?_
    refine va_get (D := G.1) (ci := 6) (v := .int (nI s.1)) (C := RX6) (T := TX6) (N := 8) hx hb hts k1 hown hK hP 0 rfl rfl 6 (by decide) k4 (fun _ h9 => h9) rfl dX6_readPerson_27 ?_
    refine cX_V (Cn := RX6) (n := 2) (As := [.int 3, .int (nI s.1)]) (rest := []) (wsn := rdW G l0 l1 b0 b1 b2 b3 s0 s1 s2 s3 s4 (opB 3 (nI s.1) s) em i tx rt rn) C (c_X6_blame l G l0 l1 b0 b1 b2 b3 s0 s1 s2 s3 s4 s em i tx rt rn  3 (nI s.1) (by decide)) gX6_readPerson_X6_blame rfl ⟨rfl, rfl⟩ hd_X6_blame ⟨(Nat.le_of_ble_eq_true rfl), (Nat.le_of_ble_eq_true rfl)⟩ hK hP hD hS [0, 1, 2, 3, 4, 5, 6, 7, 8, 9, 10] (by decide) rfl (rdW_f.trans rdW_f.symm) rfl (rdW_f.trans rdW_f.symm) (va_recv hK hP (ci := 6) (q0 := 0) rfl rfl) rfl hl.1 rfl (Nat.le_of_ble_eq_true rfl) dX6_readPerson_30 ⟨(Nat.le_of_ble_eq_true rfl), (Nat.le_of_ble_eq_true rfl)⟩ (fun H locs hP hD hS => ?_)
    have hP : va_P G.1 vwCl (rdW G l0 l1 b0 b1 b2 b3 s0 s1 s2 s3 s4 (rpS tx sz s cn pn) (rpM tx sz s cn pn em) i tx (rpT g cn pn rt) (rpN tx sz s cn pn rn)) H := by rw [show (rpS tx sz s cn pn) = (opB 3 (nI s.1) s) from (if_neg hno), show (rpM tx sz s cn pn em) = em from (if_neg hno), show (rpT g cn pn rt) = rt from (if_neg hno), show (rpN tx sz s cn pn rn) = rn from (if_neg hno)]; exact hP
    exact mX_vret hAe C hP hS dX6_readPerson_33
  · skip
    have h11 := cq1
    refine lv_aload_n hx hb dX6_readPerson_14 rfl (lv_at hl 1 rfl) ?_
    refine va_get (D := G.1) (ci := 6) (v := .ref b0) (C := RX6) (T := TX6) (N := 8) hx hb hts k1 hown hK hP 0 rfl rfl 0 (by decide) k0 (fun _ h9 => h9) rfl dX6_readPerson_15 ?_
    refine va_get (D := G.1) (ci := 8) (v := .int (rt 3)) (C := RX8) (T := TX8) (N := 9) hx hb hts k3 hown hK hP 2 rfl rfl 3 (by decide) k5 (fun _ h9 => h9) rfl dX6_readPerson_18 ?_
    refine lv_if_ne (tgt := 34) hx hb dX6_readPerson_21 (by decide) (fun cq2 => ?_) (fun cq2 => ?_)
    · skip
      have hok : psOK cn pn := ⟨h11, fun q => cq2 (by rw [hcn, q]; rfl)⟩
      refine lv_aload_n hx hb dX6_readPerson_34 rfl (lv_at hl 1 rfl) ?_
      refine lv_dup hx hb dX6_readPerson_35 rfl ?_
      refine va_get (D := G.1) (ci := 6) (v := .int (nI s.1)) (C := RX6) (T := TX6) (N := 8) hx hb hts k1 hown hK hP 0 rfl rfl 6 (by decide) k4 (fun _ h9 => h9) rfl dX6_readPerson_36 ?_
      refine lv_iconst (v := 1) hx hb dX6_readPerson_39 (by decide) ?_
      refine n_iadd hx hb dX6_readPerson_40 (u := s.1) (v := 1) rfl rfl (j := s.1 + 1) (by omega) ?_
      refine n_put (D := G.1) (wsn := rdW G l0 l1 b0 b1 b2 b3 s0 s1 s2 s3 s4 (s.1 + 1, s.2.1, s.2.2) em i tx rt rn) (ci := 6) (v := .int (nI (s.1 + 1))) (ty := .int) (C := RX6) (T := TX6) (N := 8) hx hb hts k1 tyX6 tyX6_ok nmX6 hown hK hP hD hS 0 rfl rfl 6 (by decide) k4 (fun _ h9 => h9) rfl (by decide +kernel) rfl rfl (Nat.le_of_ble_eq_true rfl) rfl dX6_readPerson_41 (fun H locs hP hD hS => ?_)
      refine lv_iconst (v := 0) hx hb dX6_readPerson_44 (by decide) ?_
      refine lv_istore_n (lv' := [(3, .int 0), (2, .int (rt 4)), (0, .ref l0), (1, .int (bI (g)))]) hx hb dX6_readPerson_45 rfl hl (by decide) rfl (fun ls hl => ?_)
      refine wl_X (B := cn) (i0 := 0) (Inv := fun i1 H locs ls => va_P G.1 vwCl (rdW G l0 l1 b0 b1 b2 b3 s0 s1 s2 s3 s4 (psS tx sz s i1) (psM tx sz s em i1) i tx rt (psN tx sz s pn rn i1)) H ∧ va_D A (rdW G l0 l1 b0 b1 b2 b3 s0 s1 s2 s3 s4 (psS tx sz s i1) (psM tx sz s em i1) i tx rt (psN tx sz s pn rn i1)) ∧ va_S A zs.heap H locs ∧ lv_has ls 4 [(0, .ref l0), (1, .int (bI (g))), (2, .int (rt 4)), (3, .int (nI i1))] ∧ True) (by omega) ⟨hP, hD, hS, lv_sub hl [2, 3, 1, 0] (rfl), trivial⟩ ?_
      rintro i1 H locs ls hle46 ⟨hP, hD, hS, hl, -⟩ ih46
      refine lv_iload_n hx hb dX6_readPerson_46 rfl (lv_at hl 3 rfl) ?_
      refine lv_aload_n hx hb dX6_readPerson_47 rfl (lv_at hl 0 rfl) ?_
      refine va_get (D := G.1) (ci := 6) (v := .ref b0) (C := RX6) (T := TX6) (N := 8) hx hb hts k1 hown hK hP 0 rfl rfl 0 (by decide) k0 (fun _ h9 => h9) rfl dX6_readPerson_48 ?_
      refine va_get (D := G.1) (ci := 8) (v := .int (rt 3)) (C := RX8) (T := TX8) (N := 9) hx hb hts k3 hown hK hP 2 rfl rfl 3 (by decide) k5 (fun _ h9 => h9) rfl dX6_readPerson_51 ?_
      refine n_icmp_ge (tgt := 90) hx hb dX6_readPerson_54 (by decide) (u := i1) (v := cn) rfl hcn (by omega) (by omega) (fun cq3 => ?_) (fun cq3 => ?_)
      · skip
        obtain rfl : cn = i1 := by omega
        refine lv_aload_n hx hb dX6_readPerson_90 rfl (lv_at hl 0 rfl) ?_
        refine lv_bipush (v := 59) hx hb dX6_readPerson_91 (by decide) ?_
        refine cX_V (Cn := RX6) (n := 1) (As := [.int 59]) (rest := []) (wsn := rdW G l0 l1 b0 b1 b2 b3 s0 s1 s2 s3 s4 (opS tx sz 59 (psS tx sz s cn)) (psM tx sz s em cn) i tx rt (psN tx sz s pn rn cn)) C (c_X6_readSign l G l0 l1 b0 b1 b2 b3 s0 s1 s2 s3 s4 (psS tx sz s cn) (psM tx sz s em cn) i tx rt (psN tx sz s pn rn cn) sz 59 hsz hs240 (psS_le hlt cn)) gX6_readPerson_X6_readSign rfl ⟨rfl, rfl⟩ hd_X6_readSign ⟨(Nat.le_of_ble_eq_true rfl), (Nat.le_of_ble_eq_true rfl)⟩ hK hP hD hS [0, 1, 2, 3, 4, 5, 6, 7, 8, 9, 10] (by decide) rfl (rdW_f.trans rdW_f.symm) rfl (rdW_f.trans rdW_f.symm) (va_recv hK hP (ci := 6) (q0 := 0) rfl rfl) rfl hl.1 rfl (Nat.le_of_ble_eq_true rfl) dX6_readPerson_93 ⟨(Nat.le_of_ble_eq_true rfl), (Nat.le_of_ble_eq_true rfl)⟩ (fun H locs hP hD hS => ?_)
        refine lv_iload_n hx hb dX6_readPerson_96 rfl (lv_at hl 1 rfl) ?_
        refine b_if_eq (tgt := 115) hx hb dX6_readPerson_97 (by decide) (fun cq4 => ?_) (fun cq4 => ?_)
        · skip
          have hg := cq4
          have h4e : rt 4 = nI pn := by first | exact hpn | (rw [upd_ne (by decide)]; exact hpn)
          refine lv_aload_n hx hb dX6_readPerson_115 rfl (lv_at hl 0 rfl) ?_
          refine va_get (D := G.1) (ci := 6) (v := .ref b0) (C := RX6) (T := TX6) (N := 8) hx hb hts k1 hown hK hP 0 rfl rfl 0 (by decide) k0 (fun _ h9 => h9) rfl dX6_readPerson_116 ?_
          refine lv_dup hx hb dX6_readPerson_119 rfl ?_
          refine va_get (D := G.1) (ci := 8) (v := .int (rt 4)) (C := RX8) (T := TX8) (N := 9) hx hb hts k3 hown hK hP 2 rfl rfl 4 (by decide) k2 (fun _ h9 => h9) rfl dX6_readPerson_120 ?_
          refine lv_iconst (v := 1) hx hb dX6_readPerson_123 (by decide) ?_
          refine n_iadd hx hb dX6_readPerson_124 (u := pn) (v := 1) h4e rfl (j := pn + 1) (by omega) ?_
          refine n_putQ (D := G.1) (wsn := rdW G l0 l1 b0 b1 b2 b3 s0 s1 s2 s3 s4 (opS tx sz 59 (psS tx sz s cn)) (psM tx sz s em cn) i tx (upd rt 4 (nI (pn + 1))) (psN tx sz s pn rn cn)) (ci := 8) (v := .int (nI (pn + 1))) (ty := .int) (C := RX8) (T := TX8) (N := 9) hx hb hts k3 tyX8 tyX8_ok nmX8 hown hK hP hD hS 2 rfl rfl 4 (by decide) k2 (fun _ h9 => h9) rfl (by decide +kernel) rfl rfl (Nat.le_of_ble_eq_true rfl) rdW_p2_4 dX6_readPerson_125 (fun H locs hP hD hS => ?_)
          have hP : va_P G.1 vwCl (rdW G l0 l1 b0 b1 b2 b3 s0 s1 s2 s3 s4 (rpS tx sz s cn pn) (rpM tx sz s cn pn em) i tx (rpT g cn pn rt) (rpN tx sz s cn pn rn)) H := by rw [show (rpS tx sz s cn pn) = (opS tx sz 59 (psS tx sz s cn)) from (if_pos hok), show (rpM tx sz s cn pn em) = (psM tx sz s em cn) from (if_pos hok), show (rpT g cn pn rt) = (upd rt 4 (nI (pn + 1))) from by unfold rpT; rw [if_pos hok]; first | (rw [if_pos hg, hpn]; done) | (rw [if_neg hg]; done), show (rpN tx sz s cn pn rn) = (psN tx sz s pn rn cn) from (if_pos hok)]; exact hP
          exact mX_vret hAe C hP hS dX6_readPerson_128
        · skip
          have hg := cq4
          refine lv_aload_n hx hb dX6_readPerson_100 rfl (lv_at hl 0 rfl) ?_
          refine va_get (D := G.1) (ci := 6) (v := .ref b0) (C := RX6) (T := TX6) (N := 8) hx hb hts k1 hown hK hP 0 rfl rfl 0 (by decide) k0 (fun _ h9 => h9) rfl dX6_readPerson_101 ?_
          refine lv_dup hx hb dX6_readPerson_104 rfl ?_
          refine va_get (D := G.1) (ci := 8) (v := .int (rt 21)) (C := RX8) (T := TX8) (N := 9) hx hb hts k3 hown hK hP 2 rfl rfl 5 (by decide) k6 (fun _ h9 => h9) rfl dX6_readPerson_105 ?_
          refine lv_iconst (v := 1) hx hb dX6_readPerson_108 (by decide) ?_
          refine lv_iload_n hx hb dX6_readPerson_109 rfl (lv_at hl 2 rfl) ?_
          refine lv_ishl hx hb dX6_readPerson_110 ?_
          refine lv_ior hx hb dX6_readPerson_111 ?_
          refine n_putQ (D := G.1) (wsn := rdW G l0 l1 b0 b1 b2 b3 s0 s1 s2 s3 s4 (opS tx sz 59 (psS tx sz s cn)) (psM tx sz s em cn) i tx (upd rt 21 ((rt 21) ||| (1 <<< ((rt 4) &&& 31)))) (psN tx sz s pn rn cn)) (ci := 8) (v := .int ((rt 21) ||| (1 <<< ((rt 4) &&& 31)))) (ty := .int) (C := RX8) (T := TX8) (N := 9) hx hb hts k3 tyX8 tyX8_ok nmX8 hown hK hP hD hS 2 rfl rfl 5 (by decide) k6 (fun _ h9 => h9) rfl (by decide +kernel) rfl rfl (Nat.le_of_ble_eq_true rfl) rdW_p2_5 dX6_readPerson_112 (fun H locs hP hD hS => ?_)
          have h4e : rt 4 = nI pn := by first | exact hpn | (rw [upd_ne (by decide)]; exact hpn)
          refine lv_aload_n hx hb dX6_readPerson_115 rfl (lv_at hl 0 rfl) ?_
          refine va_get (D := G.1) (ci := 6) (v := .ref b0) (C := RX6) (T := TX6) (N := 8) hx hb hts k1 hown hK hP 0 rfl rfl 0 (by decide) k0 (fun _ h9 => h9) rfl dX6_readPerson_116 ?_
          refine lv_dup hx hb dX6_readPerson_119 rfl ?_
          refine va_get (D := G.1) (ci := 8) (v := .int (rt 4)) (C := RX8) (T := TX8) (N := 9) hx hb hts k3 hown hK hP 2 rfl rfl 4 (by decide) k2 (fun _ h9 => h9) rfl dX6_readPerson_120 ?_
          refine lv_iconst (v := 1) hx hb dX6_readPerson_123 (by decide) ?_
          refine n_iadd hx hb dX6_readPerson_124 (u := pn) (v := 1) h4e rfl (j := pn + 1) (by omega) ?_
          refine n_putQ (D := G.1) (wsn := rdW G l0 l1 b0 b1 b2 b3 s0 s1 s2 s3 s4 (opS tx sz 59 (psS tx sz s cn)) (psM tx sz s em cn) i tx (upd (upd rt 21 ((rt 21) ||| (1 <<< ((rt 4) &&& 31)))) 4 (nI (pn + 1))) (psN tx sz s pn rn cn)) (ci := 8) (v := .int (nI (pn + 1))) (ty := .int) (C := RX8) (T := TX8) (N := 9) hx hb hts k3 tyX8 tyX8_ok nmX8 hown hK hP hD hS 2 rfl rfl 4 (by decide) k2 (fun _ h9 => h9) rfl (by decide +kernel) rfl rfl (Nat.le_of_ble_eq_true rfl) rdW_p2_4 dX6_readPerson_125 (fun H locs hP hD hS => ?_)
          have hP : va_P G.1 vwCl (rdW G l0 l1 b0 b1 b2 b3 s0 s1 s2 s3 s4 (rpS tx sz s cn pn) (rpM tx sz s cn pn em) i tx (rpT g cn pn rt) (rpN tx sz s cn pn rn)) H := by rw [show (rpS tx sz s cn pn) = (opS tx sz 59 (psS tx sz s cn)) from (if_pos hok), show (rpM tx sz s cn pn em) = (psM tx sz s em cn) from (if_pos hok), show (rpT g cn pn rt) = (upd (upd rt 21 ((rt 21) ||| (1 <<< ((rt 4) &&& 31)))) 4 (nI (pn + 1))) from by unfold rpT; rw [if_pos hok]; first | (rw [if_pos hg, hpn]; done) | (rw [if_neg hg]; done), show (rpN tx sz s cn pn rn) = (psN tx sz s pn rn cn) from (if_pos hok)]; exact hP
          exact mX_vret hAe C hP hS dX6_readPerson_128
      · skip
        refine lv_iload_n hx hb dX6_readPerson_57 rfl (lv_at hl 3 rfl) ?_
        refine lv_if_le (tgt := 67) hx hb dX6_readPerson_58 (by decide) (fun cq5 => ?_) (fun cq5 => ?_)
        · skip
          have hi0 : i1 = 0 := np_0 rfl (by omega) cq5
          have hq0 : psQ0 tx sz i1 (psS tx sz s i1) = psS tx sz s i1 := if_pos hi0
          have hP : va_P G.1 vwCl (rdW G l0 l1 b0 b1 b2 b3 s0 s1 s2 s3 s4 (psQ0 tx sz i1 (psS tx sz s i1)) (psM tx sz s em i1) i tx rt (psN tx sz s pn rn i1)) H := by rw [hq0]; exact hP
          have hD : va_D A (rdW G l0 l1 b0 b1 b2 b3 s0 s1 s2 s3 s4 (psQ0 tx sz i1 (psS tx sz s i1)) (psM tx sz s em i1) i tx rt (psN tx sz s pn rn i1)) := by rw [hq0]; exact hD
          have hq0l : (psQ0 tx sz i1 (psS tx sz s i1)).1 ≤ sz := psQ0_le (psS_le hlt i1)
          refine lv_aload_n hx hb dX6_readPerson_67 rfl (lv_at hl 0 rfl) ?_
          refine va_get (D := G.1) (ci := 6) (v := .ref s0) (C := RX6) (T := TX6) (N := 8) hx hb hts k1 hown hK hP 0 rfl rfl 1 (by decide) k7 (fun _ h9 => h9) rfl dX6_readPerson_68 ?_
          refine lv_iload_n hx hb dX6_readPerson_71 rfl (lv_at hl 2 rfl) ?_
          refine lv_iload_n hx hb dX6_readPerson_72 rfl (lv_at hl 3 rfl) ?_
          refine lv_aload_n hx hb dX6_readPerson_73 rfl (lv_at hl 0 rfl) ?_
          refine lv_iconst (v := 0) hx hb dX6_readPerson_74 (by decide) ?_
          refine lv_sipush (v := 999) hx hb dX6_readPerson_75 (by decide) ?_
          refine cX_V (Cn := RX6) (n := 2) (As := [.int 0, .int 999]) (rest := [.int (nI i1), .int (rt 4), .ref s0]) (wsn := rdW G l0 l1 b0 b1 b2 b3 s0 s1 s2 s3 s4 (opN tx sz 0 999 (psQ0 tx sz i1 (psS tx sz s i1))) (nI (sk tx sz (psQ0 tx sz i1 (psS tx sz s i1)).1)) i tx rt (psN tx sz s pn rn i1)) C (c_X6_readNumber l G l0 l1 b0 b1 b2 b3 s0 s1 s2 s3 s4 (psQ0 tx sz i1 (psS tx sz s i1)) (psM tx sz s em i1) i tx rt (psN tx sz s pn rn i1) sz 0 999 hsz hs240 hq0l) gX6_readPerson_X6_readNumber rfl ⟨rfl, rfl⟩ hd_X6_readNumber ⟨(Nat.le_of_ble_eq_true rfl), (Nat.le_of_ble_eq_true rfl)⟩ hK hP hD hS [0, 1, 2, 3, 4, 5, 6, 7, 8, 9, 10] (by decide) rfl (rdW_f.trans rdW_f.symm) rfl (rdW_f.trans rdW_f.symm) (va_recv hK hP (ci := 6) (q0 := 0) rfl rfl) rfl hl.1 rfl (Nat.le_of_ble_eq_true rfl) dX6_readPerson_78 ⟨(Nat.le_of_ble_eq_true rfl), (Nat.le_of_ble_eq_true rfl)⟩ (fun H locs hP hD hS => ?_)
          refine cX_V (Cn := RX7) (n := 3) (As := [.int (nI pn), .int (nI i1), .int (stV tx sz (psQ0 tx sz i1 (psS tx sz s i1)).1)]) (rest := []) (wsn := rdW G l0 l1 b0 b1 b2 b3 s0 s1 s2 s3 s4 (opN tx sz 0 999 (psQ0 tx sz i1 (psS tx sz s i1))) (nI (sk tx sz (psQ0 tx sz i1 (psS tx sz s i1)).1)) i tx rt (upd (psN tx sz s pn rn i1) (4 * pn + i1) (lessI (stV tx sz (psQ0 tx sz i1 (psS tx sz s i1)).1) 9999))) C (c_X7_setOwed l G s0 s1 s2 s3 s4 b0 b1 b2 b3 rt (psN tx sz s pn rn i1)  pn i1 (stV tx sz (psQ0 tx sz i1 (psS tx sz s i1)).1) (by omega) (by omega)) gX6_readPerson_X7_setOwed rfl ⟨rfl, rfl⟩ hd_X7_setOwed ⟨(Nat.le_of_ble_eq_true rfl), (Nat.le_of_ble_eq_true rfl)⟩ hK hP hD hS [6, 7, 8, 9, 10, 2, 3, 4, 5] (by decide) rfl (sW_f.trans sW_f.symm) rfl (rdW_f.trans rdW_f.symm) (va_recv hK hP (ci := 7) (q0 := 6) rfl rfl) rfl hl.1 (by rw [show (rt 4 : Int32) = nI pn from hpn]; rfl) (Nat.le_of_ble_eq_true rfl) dX6_readPerson_81 ⟨(Nat.le_of_ble_eq_true rfl), (Nat.le_of_ble_eq_true rfl)⟩ (fun H locs hP hD hS => ?_)
          refine lv_iinc (v := nI (i1 + 1)) (lv' := [(3, .int (nI (i1 + 1))), (0, .ref l0), (1, .int (bI (g))), (2, .int (rt 4))]) hx hb dX6_readPerson_84 hl (k := 3) rfl (by rw [show (nI i1 : Int32) = nI i1 from rfl]; exact nI_add _ 1) (by decide) rfl (fun ls hl => ?_)
          refine lv_goto (tgt := 46) hx hb dX6_readPerson_87 (by decide) ?_
          have e6 : opN tx sz 0 999 (psQ0 tx sz i1 (psS tx sz s i1)) = psS tx sz s (i1 + 1) := rfl
          have e7 : upd (psN tx sz s pn rn i1) (4 * pn + i1) (lessI (stV tx sz (psQ0 tx sz i1 (psS tx sz s i1)).1) 9999) = psN tx sz s pn rn (i1 + 1) := rfl
          have e8 : nI (sk tx sz (psQ0 tx sz i1 (psS tx sz s i1)).1) = psM tx sz s em (i1 + 1) := rfl
          rw [e6, e7, e8] at hP hD
          exact ih46 _ _ _ (by omega) ⟨hP, hD, hS, lv_sub hl [1, 2, 3, 0] (rfl), trivial⟩
        · skip
          have hi0 : ¬ i1 = 0 := Nat.ne_of_gt (np_1 rfl cq5)
          have hq0 : psQ0 tx sz i1 (psS tx sz s i1) = opS tx sz 44 (psS tx sz s i1) := if_neg hi0
          refine lv_aload_n hx hb dX6_readPerson_61 rfl (lv_at hl 0 rfl) ?_
          refine lv_bipush (v := 44) hx hb dX6_readPerson_62 (by decide) ?_
          refine cX_V (Cn := RX6) (n := 1) (As := [.int 44]) (rest := []) (wsn := rdW G l0 l1 b0 b1 b2 b3 s0 s1 s2 s3 s4 (opS tx sz 44 (psS tx sz s i1)) (psM tx sz s em i1) i tx rt (psN tx sz s pn rn i1)) C (c_X6_readSign l G l0 l1 b0 b1 b2 b3 s0 s1 s2 s3 s4 (psS tx sz s i1) (psM tx sz s em i1) i tx rt (psN tx sz s pn rn i1) sz 44 hsz hs240 (psS_le hlt i1)) gX6_readPerson_X6_readSign rfl ⟨rfl, rfl⟩ hd_X6_readSign ⟨(Nat.le_of_ble_eq_true rfl), (Nat.le_of_ble_eq_true rfl)⟩ hK hP hD hS [0, 1, 2, 3, 4, 5, 6, 7, 8, 9, 10] (by decide) rfl (rdW_f.trans rdW_f.symm) rfl (rdW_f.trans rdW_f.symm) (va_recv hK hP (ci := 6) (q0 := 0) rfl rfl) rfl hl.1 rfl (Nat.le_of_ble_eq_true rfl) dX6_readPerson_64 ⟨(Nat.le_of_ble_eq_true rfl), (Nat.le_of_ble_eq_true rfl)⟩ (fun H locs hP hD hS => ?_)
          have hP : va_P G.1 vwCl (rdW G l0 l1 b0 b1 b2 b3 s0 s1 s2 s3 s4 (psQ0 tx sz i1 (psS tx sz s i1)) (psM tx sz s em i1) i tx rt (psN tx sz s pn rn i1)) H := by rw [hq0]; exact hP
          have hD : va_D A (rdW G l0 l1 b0 b1 b2 b3 s0 s1 s2 s3 s4 (psQ0 tx sz i1 (psS tx sz s i1)) (psM tx sz s em i1) i tx rt (psN tx sz s pn rn i1)) := by rw [hq0]; exact hD
          have hq0l : (psQ0 tx sz i1 (psS tx sz s i1)).1 ≤ sz := psQ0_le (psS_le hlt i1)
          refine lv_aload_n hx hb dX6_readPerson_67 rfl (lv_at hl 0 rfl) ?_
          refine va_get (D := G.1) (ci := 6) (v := .ref s0) (C := RX6) (T := TX6) (N := 8) hx hb hts k1 hown hK hP 0 rfl rfl 1 (by decide) k7 (fun _ h9 => h9) rfl dX6_readPerson_68 ?_
          refine lv_iload_n hx hb dX6_readPerson_71 rfl (lv_at hl 2 rfl) ?_
          refine lv_iload_n hx hb dX6_readPerson_72 rfl (lv_at hl 3 rfl) ?_
          refine lv_aload_n hx hb dX6_readPerson_73 rfl (lv_at hl 0 rfl) ?_
          refine lv_iconst (v := 0) hx hb dX6_readPerson_74 (by decide) ?_
          refine lv_sipush (v := 999) hx hb dX6_readPerson_75 (by decide) ?_
          refine cX_V (Cn := RX6) (n := 2) (As := [.int 0, .int 999]) (rest := [.int (nI i1), .int (rt 4), .ref s0]) (wsn := rdW G l0 l1 b0 b1 b2 b3 s0 s1 s2 s3 s4 (opN tx sz 0 999 (psQ0 tx sz i1 (psS tx sz s i1))) (nI (sk tx sz (psQ0 tx sz i1 (psS tx sz s i1)).1)) i tx rt (psN tx sz s pn rn i1)) C (c_X6_readNumber l G l0 l1 b0 b1 b2 b3 s0 s1 s2 s3 s4 (psQ0 tx sz i1 (psS tx sz s i1)) (psM tx sz s em i1) i tx rt (psN tx sz s pn rn i1) sz 0 999 hsz hs240 hq0l) gX6_readPerson_X6_readNumber rfl ⟨rfl, rfl⟩ hd_X6_readNumber ⟨(Nat.le_of_ble_eq_true rfl), (Nat.le_of_ble_eq_true rfl)⟩ hK hP hD hS [0, 1, 2, 3, 4, 5, 6, 7, 8, 9, 10] (by decide) rfl (rdW_f.trans rdW_f.symm) rfl (rdW_f.trans rdW_f.symm) (va_recv hK hP (ci := 6) (q0 := 0) rfl rfl) rfl hl.1 rfl (Nat.le_of_ble_eq_true rfl) dX6_readPerson_78 ⟨(Nat.le_of_ble_eq_true rfl), (Nat.le_of_ble_eq_true rfl)⟩ (fun H locs hP hD hS => ?_)
          refine cX_V (Cn := RX7) (n := 3) (As := [.int (nI pn), .int (nI i1), .int (stV tx sz (psQ0 tx sz i1 (psS tx sz s i1)).1)]) (rest := []) (wsn := rdW G l0 l1 b0 b1 b2 b3 s0 s1 s2 s3 s4 (opN tx sz 0 999 (psQ0 tx sz i1 (psS tx sz s i1))) (nI (sk tx sz (psQ0 tx sz i1 (psS tx sz s i1)).1)) i tx rt (upd (psN tx sz s pn rn i1) (4 * pn + i1) (lessI (stV tx sz (psQ0 tx sz i1 (psS tx sz s i1)).1) 9999))) C (c_X7_setOwed l G s0 s1 s2 s3 s4 b0 b1 b2 b3 rt (psN tx sz s pn rn i1)  pn i1 (stV tx sz (psQ0 tx sz i1 (psS tx sz s i1)).1) (by omega) (by omega)) gX6_readPerson_X7_setOwed rfl ⟨rfl, rfl⟩ hd_X7_setOwed ⟨(Nat.le_of_ble_eq_true rfl), (Nat.le_of_ble_eq_true rfl)⟩ hK hP hD hS [6, 7, 8, 9, 10, 2, 3, 4, 5] (by decide) rfl (sW_f.trans sW_f.symm) rfl (rdW_f.trans rdW_f.symm) (va_recv hK hP (ci := 7) (q0 := 6) rfl rfl) rfl hl.1 (by rw [show (rt 4 : Int32) = nI pn from hpn]; rfl) (Nat.le_of_ble_eq_true rfl) dX6_readPerson_81 ⟨(Nat.le_of_ble_eq_true rfl), (Nat.le_of_ble_eq_true rfl)⟩ (fun H locs hP hD hS => ?_)
          refine lv_iinc (v := nI (i1 + 1)) (lv' := [(3, .int (nI (i1 + 1))), (0, .ref l0), (1, .int (bI (g))), (2, .int (rt 4))]) hx hb dX6_readPerson_84 hl (k := 3) rfl (by rw [show (nI i1 : Int32) = nI i1 from rfl]; exact nI_add _ 1) (by decide) rfl (fun ls hl => ?_)
          refine lv_goto (tgt := 46) hx hb dX6_readPerson_87 (by decide) ?_
          have e9 : opN tx sz 0 999 (psQ0 tx sz i1 (psS tx sz s i1)) = psS tx sz s (i1 + 1) := rfl
          have e10 : upd (psN tx sz s pn rn i1) (4 * pn + i1) (lessI (stV tx sz (psQ0 tx sz i1 (psS tx sz s i1)).1) 9999) = psN tx sz s pn rn (i1 + 1) := rfl
          have e11 : nI (sk tx sz (psQ0 tx sz i1 (psS tx sz s i1)).1) = psM tx sz s em (i1 + 1) := rfl
          rw [e9, e10, e11] at hP hD
          exact ih46 _ _ _ (by omega) ⟨hP, hD, hS, lv_sub hl [1, 2, 3, 0] (rfl), trivial⟩
    · skip
      have hno : ¬ psOK cn pn := fun q => q.2 (by have z : nI cn = nI 0 := hcn.symm.trans cq2; exact (nI_eq (by omega) (by decide)).mp z)
      refine lv_aload_n hx hb dX6_readPerson_24 rfl (lv_at hl 1 rfl) ?_
      refine lv_iconst (v := 3) hx hb dX6_readPerson_25 (by decide) ?_
      refine lv_aload_n hx hb dX6_readPerson_26 rfl (lv_at hl 1 rfl) ?_
      refine va_get (D := G.1) (ci := 6) (v := .int (nI s.1)) (C := RX6) (T := TX6) (N := 8) hx hb hts k1 hown hK hP 0 rfl rfl 6 (by decide) k4 (fun _ h9 => h9) rfl dX6_readPerson_27 ?_
      refine cX_V (Cn := RX6) (n := 2) (As := [.int 3, .int (nI s.1)]) (rest := []) (wsn := rdW G l0 l1 b0 b1 b2 b3 s0 s1 s2 s3 s4 (opB 3 (nI s.1) s) em i tx rt rn) C (c_X6_blame l G l0 l1 b0 b1 b2 b3 s0 s1 s2 s3 s4 s em i tx rt rn  3 (nI s.1) (by decide)) gX6_readPerson_X6_blame rfl ⟨rfl, rfl⟩ hd_X6_blame ⟨(Nat.le_of_ble_eq_true rfl), (Nat.le_of_ble_eq_true rfl)⟩ hK hP hD hS [0, 1, 2, 3, 4, 5, 6, 7, 8, 9, 10] (by decide) rfl (rdW_f.trans rdW_f.symm) rfl (rdW_f.trans rdW_f.symm) (va_recv hK hP (ci := 6) (q0 := 0) rfl rfl) rfl hl.1 rfl (Nat.le_of_ble_eq_true rfl) dX6_readPerson_30 ⟨(Nat.le_of_ble_eq_true rfl), (Nat.le_of_ble_eq_true rfl)⟩ (fun H locs hP hD hS => ?_)
      have hP : va_P G.1 vwCl (rdW G l0 l1 b0 b1 b2 b3 s0 s1 s2 s3 s4 (rpS tx sz s cn pn) (rpM tx sz s cn pn em) i tx (rpT g cn pn rt) (rpN tx sz s cn pn rn)) H := by rw [show (rpS tx sz s cn pn) = (opB 3 (nI s.1) s) from (if_neg hno), show (rpM tx sz s cn pn em) = em from (if_neg hno), show (rpT g cn pn rt) = rt from (if_neg hno), show (rpN tx sz s cn pn rn) = rn from (if_neg hno)]; exact hP
      exact mX_vret hAe C hP hS dX6_readPerson_33
