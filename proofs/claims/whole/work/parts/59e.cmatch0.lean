theorem nobody {t : Nat → Int32} {x : Int32} (h : t 4 = nI 0) : ¬ inB x 0 (t 4 - 1) := fun q => by
  rw [h] at q
  exact absurd (Int32.le_trans q.1 q.2) (by decide)
set_option maxRecDepth 100000 in
set_option maxHeartbeats 4000000 in
theorem c_X9_matches_z (l : Launch) (G : gG) (a : Nat → Nat) (ra : Nat → Nat → Nat) (s : RSt) (em : Int32) (i : Nat → Int32) (eo : Nat → Int32) (es : Nat → Int32) (t : Nat → Int32) (n : Nat → Int32) (d : Nat → Int32) (tx : Nat → Int32) (rt : Nat → Int32) (rn : Nat → Int32) (cd : Nat → Int32) (su : Nat → Int32) (bk : Nat → Int32) (co : Nat → Int32) (mo : Nat → Int32) (m0 : Nat → Int32) (m1 : Nat → Int32) (kp : Nat → Int32) (nc : Nat) (np : Nat) (x : Int32) (hTT : okT t nc np) (h0 : np = 0) : mE l yX9_matches wsX9_matches ({ frames := 6, cells := 0, slots := 0, locals := 143 }) G (dW G a ra s em i eo es t n d tx rt rn cd su bk co mo m0 m1 kp) (fun u : (Nat → Int32) => dW G a ra s em i eo es t n d tx rt rn cd su bk co u m0 m1 kp) [.ref (a 0), .int x] (.returned (some (.int (if x = -1 then 0 else cUNK)))) := by
  refine mE.of (cc := cX9_matches) (maxL := 3) (ret := (some .int)) (by decide) rfl (Nat.le_of_ble_eq_true rfl) ?_
  intro zp ze zs zm zb zt zc ls A hAe C hP hK hD hS hl
  obtain ⟨hx, hb, hr, hml, hown, hts, hlk⟩ := id C
  have hl : lv_has ls 3 [(0, .ref (a 0)), (1, .int x)] := hl
  have hT := hTT.1
  have hT2 := hT.2.2
  have hG := okT_G hTT
  have hLH := okT_L hTT
  have k0 := hts (.fieldLink RX9 45 "DebtDowry" "matcher" "LDebtDowry$Matcher;") (by decide +kernel)
  have k1 := (fun w h => by revert w; decide +kernel : ∀ w ∈ wsX90, w ∈ wsX9_matches)
  have k2 := hts (.fieldLink RX9 28 "DebtDowry" "now" "LDebtDowry$State;") (by decide +kernel)
  have k3 := hts (.fieldLink RX9 19 "DebtDowry" "terms" "LDebtDowry$Terms;") (by decide +kernel)
  have k4 := hts (.constant RX9 155 (-1000000001)) (by decide +kernel)
  refine lv_iload_n hx hb dX9_matches_0 rfl (lv_at hl 1 rfl) ?_
  refine lv_iconst (v := (-1)) hx hb dX9_matches_1 (by decide) ?_
  refine lv_icmp_eq (tgt := 19) hx hb dX9_matches_2 (by decide) (fun cq1 => ?_) (fun cq1 => ?_)
  · skip
    have h2 : x = -1 := cq1
    refine lv_aload_n hx hb dX9_matches_19 rfl (lv_at hl 0 rfl) ?_
    refine va_get (D := G.1) (ci := 9) (v := .ref (a 28)) (C := RX9) (T := TX9) (N := 11) hx hb hts k1 hown hK hP 0 rfl rfl 5 (by decide) k0 (fun _ h9 => h9) rfl dX9_matches_20 ?_
    refine lv_aload_n hx hb dX9_matches_23 rfl (lv_at hl 0 rfl) ?_
    refine va_get (D := G.1) (ci := 9) (v := .ref (a 5)) (C := RX9) (T := TX9) (N := 11) hx hb hts k1 hown hK hP 0 rfl rfl 2 (by decide) k2 (fun _ h9 => h9) rfl dX9_matches_24 ?_
    refine cX_V (Cn := RX4) (n := 1) (As := [.ref (a 5)]) (rest := []) (wsn := dW G a ra s em i eo es t n d tx rt rn cd su bk co (upto mo (fun _ => -1) 8) m0 m1 kp) C (c_X4_pairAll_z l G (a 28) (a 29) (a 5) (a 6) (a 7) (a 8) (a 9) (a 1) (a 2) (a 3) (a 4) mo t n nc np  hT hG h0) gX9_matches_X4_pairAll rfl ⟨rfl, rfl⟩ hd_X4_pairAll ⟨(Nat.le_of_ble_eq_true rfl), (Nat.le_of_ble_eq_true rfl)⟩ hK hP hD hS [28, 29, 5, 6, 7, 8, 9, 1, 2, 3, 4] (by decide) rfl (msW_f.trans msW_f.symm) rfl (dW_f.trans dW_f.symm) (va_recv hK hP (ci := 4) (q0 := 28) rfl rfl) rfl hl.1 rfl (Nat.le_of_ble_eq_true rfl) dX9_matches_27 ⟨(Nat.le_of_ble_eq_true rfl), (Nat.le_of_ble_eq_true rfl)⟩ (fun H locs hP hD hS => ?_)
    refine lv_istore_n (lv' := [(2, .int 0), (0, .ref (a 0)), (1, .int x)]) hx hb dX9_matches_30 rfl hl (by decide) rfl (fun ls hl => ?_)
    refine lv_iload_n hx hb dX9_matches_31 rfl (lv_at hl 2 rfl) ?_
    refine lv_iconst (v := (-1)) hx hb dX9_matches_32 (by decide) ?_
    refine lv_icmp_ne (tgt := 40) hx hb dX9_matches_33 (by decide) (fun cq2 => ?_) (fun cq2 => ?_)
    · exact absurd h2 cq2
    · skip
      refine lv_iload_n hx hb dX9_matches_36 rfl (lv_at hl 0 rfl) ?_
      refine lv_goto (tgt := 49) hx hb dX9_matches_37 (by decide) ?_
      exact mE_iret hAe C (u := upto mo (fun _ => -1) 8) hP hS dX9_matches_49 (by rw [if_pos h2])
  · skip
    have h2 := cq1
    refine lv_aload_n hx hb dX9_matches_5 rfl (lv_at hl 0 rfl) ?_
    refine va_get (D := G.1) (ci := 9) (v := .ref (a 1)) (C := RX9) (T := TX9) (N := 11) hx hb hts k1 hown hK hP 0 rfl rfl 1 (by decide) k3 (fun _ h9 => h9) rfl dX9_matches_6 ?_
    refine lv_iload_n hx hb dX9_matches_9 rfl (lv_at hl 1 rfl) ?_
    refine cR_V (Cn := RX8) (n := 1) (As := [.int x]) (rest := []) C (c_X8_isGirl l G (a 1) (a 2) (a 3) (a 4) t nc np x hT) gX9_matches_X8_isGirl rfl ⟨rfl, rfl⟩ hd_X8_isGirl ⟨(Nat.le_of_ble_eq_true rfl), (Nat.le_of_ble_eq_true rfl)⟩ hK (hP.sub [1, 2, 3, 4] rfl) (va_recv hK hP (ci := 8) (q0 := 1) rfl rfl) rfl hl.1 rfl (Nat.le_of_ble_eq_true rfl) dX9_matches_10 ⟨(Nat.le_of_ble_eq_true rfl), (Nat.le_of_ble_eq_true rfl)⟩ ?_
    refine b_if_ne (tgt := 19) hx hb dX9_matches_13 (by decide) (fun cq3 => ?_) (fun cq3 => ?_)
    · exact absurd (And.left cq3) (nobody (by rw [hTT.1.2.1, h0]))
    · skip
      refine lv_ldc hx hb hown k4 dX9_matches_16 ?_
      exact mE_iret hAe C (u := mo) hP hS dX9_matches_18 (by rw [if_neg h2])
