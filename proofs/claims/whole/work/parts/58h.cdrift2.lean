set_option maxRecDepth 100000 in
set_option maxHeartbeats 4000000 in
theorem c_X9_borrowByDraws_o (l : Launch) (G : gG) (a : Nat → Nat) (i : Nat → Int32) (t : Nat → Int32) (n : Nat → Int32) (nc : Nat) (np : Nat) (sd : Nat) (n2 : Nat → Int32) (s3 : Nat) (hTT : okT t nc np) (hO : okS t n nc np) (hsd : i 8 = nI sd) (hs : sd < 2147483648) (hn2 : n2 = dfN t nc np n sd) (hs3 : s3 = dfS np sd) : mX l yX9_borrowByDraws wsX9_borrowByDraws ({ frames := 4, cells := 0, slots := 0, locals := 86 }) G (uW G a i t n) (uW G a (upd i 8 (nI s3)) t n2) [.ref (a 0)] (.returned none) := by
  rw [hn2, hs3]; exact c_X9_borrowByDraws l G a i t n nc np sd hTT hO hsd hs
theorem hd_X9_drift : yX9_drift.cls = RX9 ∧ yX9_drift.cls ≠ "java/lang/invoke/MethodHandle" ∧ yX9_drift.cls ≠ "java/lang/invoke/VarHandle" ∧ (parseMethodDescriptor yX9_drift.desc).map (fun d => d.parameters.length) = some 1 := by decide +kernel
set_option maxRecDepth 100000 in
set_option maxHeartbeats 4000000 in
theorem c_X9_drift (l : Launch) (G : gG) (a : Nat → Nat) (ra : Nat → Nat → Nat) (nR : Nat) (s : RSt) (em : Int32) (i : Nat → Int32) (eo : Nat → Int32) (es : Nat → Int32) (t : Nat → Int32) (n : Nat → Int32) (d : Nat → Int32) (tx : Nat → Int32) (rt : Nat → Int32) (rn : Nat → Int32) (cd : Nat → Int32) (su : Nat → Int32) (bk : Nat → Int32) (co : Nat → Int32) (mo : Nat → Int32) (m0 : Nat → Int32) (m1 : Nat → Int32) (kp : Nat → Int32) (rg : Nat → Nat → Int32) (nc : Nat) (np : Nat) (un : Nat) (od : Nat) (sd : Nat) (x : Int32) (hTT : okT t nc np) (hO : okS t n nc np) (hun : i 5 = nI un) (hul : un ≤ 30) (hod : eo 0 = nI od) (hol : od < 30) (hnR : nR = 30) (hsd : i 8 = nI sd) (hs : sd < 2147483648) : mX l yX9_drift wsX9_drift ({ frames := 5, cells := 0, slots := 0, locals := 111 }) G (dR G a ra nR s em i eo es t n d tx rt rn cd su bk co mo m0 m1 kp rg) (dR G a ra nR s em (if rfR t n x = 0 then upd (upd i 5 (nI (unQ un (cl x)))) 8 (nI (sD np sd (cl x))) else i) (if rfR t n x = 0 then upd eo 0 (nI (odQ od un (cl x))) else eo) es t (if rfR t n x = 0 then nD t nc np n sd (cl x) else n) d tx rt rn cd su bk co mo m0 m1 kp (if rfR t n x = 0 then rgD t nc np n rg sd od un (cl x) else rg)) [.ref (a 0), .int x] (.returned (some (.int (drR t n nc np sd x)))) := by
  refine mX.of (cc := cX9_drift) (maxL := 4) (ret := (some .int)) (by decide) rfl (Nat.le_of_ble_eq_true rfl) ?_
  intro zp ze zs zm zb zt zc ls A hAe C hP hK hD hS hl
  obtain ⟨hx, hb, hr, hml, hown, hts, hlk⟩ := id C
  have hl : lv_has ls 4 [(0, .ref (a 0)), (1, .int x)] := hl
  have hT := hTT.1
  have hT2 := hT.2.2
  have hG := okT_G hTT
  have hLH := okT_L hTT
  have k0 := hts (.fieldLink RX9 28 "DebtDowry" "now" "LDebtDowry$State;") (by decide +kernel)
  have k1 := (fun w h => by revert w; decide +kernel : ∀ w ∈ wsX90, w ∈ wsX9_drift)
  have k2 := hts (.fieldLink RX9 38 "DebtDowry" "history" "LDebtDowry$History;") (by decide +kernel)
  refine lv_aload_n hx hb dX9_drift_0 rfl (lv_at hl 0 rfl) ?_
  refine lv_iload_n hx hb dX9_drift_1 rfl (lv_at hl 1 rfl) ?_
  refine cR_V (Cn := RX9) (n := 1) (As := [.int x]) (rest := []) C (c_X9_refusalOfQuarters l G a i t n  x ) gX9_drift_X9_refusalOfQuarters rfl ⟨rfl, rfl⟩ hd_X9_refusalOfQuarters ⟨(Nat.le_of_ble_eq_true rfl), (Nat.le_of_ble_eq_true rfl)⟩ hK (hP.sub [0, 1, 2, 3, 4, 5, 6, 7, 8, 9] rfl) (va_recv hK hP (ci := 9) (q0 := 0) rfl rfl) rfl hl.1 rfl (Nat.le_of_ble_eq_true rfl) dX9_drift_2 ⟨(Nat.le_of_ble_eq_true rfl), (Nat.le_of_ble_eq_true rfl)⟩ ?_
  refine lv_istore_n (lv' := [(2, .int (rfR t n x)), (0, .ref (a 0)), (1, .int x)]) hx hb dX9_drift_5 rfl hl (by decide) rfl (fun ls hl => ?_)
  refine lv_iload_n hx hb dX9_drift_6 rfl (lv_at hl 0 rfl) ?_
  refine lv_if_eq (tgt := 12) hx hb dX9_drift_7 (by decide) (fun cq1 => ?_) (fun cq1 => ?_)
  · skip
    have hrf := cq1
    obtain ⟨kk, hkk1, hkk2, rfl⟩ := inB_rng (a := 1) (b := 20) rfl rfl (by decide) (by decide) (rfR_0 cq1)
    have hcl_kk := cl_nI (n := kk) (by omega)
    refine lv_iconst (v := 0) hx hb dX9_drift_12 (by decide) ?_
    refine lv_istore_n (lv' := [(3, .int 0), (2, .int (rfR t n (nI kk))), (0, .ref (a 0)), (1, .int (nI kk))]) hx hb dX9_drift_13 rfl hl (by decide) rfl (fun ls hl => ?_)
    have he0 : upd eo 0 (nI (odQ od un 0)) = eo := upd_self hod
    have hi0 : upd (upd i 5 (nI (unQ un 0))) 8 (nI (sD np sd 0)) = i := by rw [show upd i 5 (nI (unQ un 0)) = i from upd_self hun]; exact upd_self hsd
    refine wl_X (B := kk) (i0 := 0) (Inv := fun i1 H locs ls => va_P G.1 vwCl (dR G a ra nR s em (upd (upd i 5 (nI (unQ un i1))) 8 (nI (sD np sd i1))) (upd eo 0 (nI (odQ od un i1))) es t (nD t nc np n sd i1) d tx rt rn cd su bk co mo m0 m1 kp (rgD t nc np n rg sd od un i1)) H ∧ va_D A (dR G a ra nR s em (upd (upd i 5 (nI (unQ un i1))) 8 (nI (sD np sd i1))) (upd eo 0 (nI (odQ od un i1))) es t (nD t nc np n sd i1) d tx rt rn cd su bk co mo m0 m1 kp (rgD t nc np n rg sd od un i1)) ∧ va_S A zs.heap H locs ∧ lv_has ls 4 [(0, .ref (a 0)), (1, .int (nI kk)), (3, .int (nI i1))] ∧ True) (by omega) ⟨by rw [he0, hi0]; exact hP, by rw [he0, hi0]; exact hD, hS, lv_sub hl [2, 3, 0] (rfl), trivial⟩ ?_
    rintro i1 H locs ls hle14 ⟨hP, hD, hS, hl, -⟩ ih14
    refine lv_iload_n hx hb dX9_drift_14 rfl (lv_at hl 2 rfl) ?_
    refine lv_iload_n hx hb dX9_drift_15 rfl (lv_at hl 1 rfl) ?_
    refine n_icmp_ge (tgt := 48) hx hb dX9_drift_16 (by decide) (u := i1) (v := kk) rfl rfl (by omega) (by omega) (fun cq2 => ?_) (fun cq2 => ?_)
    · skip
      obtain rfl : kk = i1 := by omega
      refine lv_aload_n hx hb dX9_drift_48 rfl (lv_at hl 0 rfl) ?_
      refine va_get (D := G.1) (ci := 9) (v := .ref (a 5)) (C := RX9) (T := TX9) (N := 11) hx hb hts k1 hown hK hP 0 rfl rfl 2 (by decide) k0 (fun _ h9 => h9) rfl dX9_drift_49 ?_
      refine cR_V (Cn := RX7) (n := 0) (As := []) (rest := []) C (c_X7_owedInAll l G (a 5) (a 6) (a 7) (a 8) (a 9) (a 1) (a 2) (a 3) (a 4) t (nD t nc np n sd kk) nc np  hT) gX9_drift_X7_owedInAll rfl ⟨rfl, rfl⟩ hd_X7_owedInAll ⟨(Nat.le_of_ble_eq_true rfl), (Nat.le_of_ble_eq_true rfl)⟩ hK (hP.sub [5, 6, 7, 8, 9, 1, 2, 3, 4] rfl) (va_recv hK hP (ci := 7) (q0 := 5) rfl rfl) rfl hl.1 rfl (Nat.le_of_ble_eq_true rfl) dX9_drift_52 ⟨(Nat.le_of_ble_eq_true rfl), (Nat.le_of_ble_eq_true rfl)⟩ ?_
      have hP : va_P G.1 vwCl (dR G a ra nR s em (if rfR t n (nI kk) = 0 then upd (upd i 5 (nI (unQ un (cl (nI kk))))) 8 (nI (sD np sd (cl (nI kk)))) else i) (if rfR t n (nI kk) = 0 then upd eo 0 (nI (odQ od un (cl (nI kk)))) else eo) es t (if rfR t n (nI kk) = 0 then nD t nc np n sd (cl (nI kk)) else n) d tx rt rn cd su bk co mo m0 m1 kp (if rfR t n (nI kk) = 0 then rgD t nc np n rg sd od un (cl (nI kk)) else rg)) H := by rw [show (if rfR t n (nI kk) = 0 then upd (upd i 5 (nI (unQ un (cl (nI kk))))) 8 (nI (sD np sd (cl (nI kk)))) else i) = (upd (upd i 5 (nI (unQ un kk))) 8 (nI (sD np sd kk))) from by rw [if_pos hrf, hcl_kk], show (if rfR t n (nI kk) = 0 then upd eo 0 (nI (odQ od un (cl (nI kk)))) else eo) = (upd eo 0 (nI (odQ od un kk))) from by rw [if_pos hrf, hcl_kk], show (if rfR t n (nI kk) = 0 then nD t nc np n sd (cl (nI kk)) else n) = (nD t nc np n sd kk) from by rw [if_pos hrf, hcl_kk], show (if rfR t n (nI kk) = 0 then rgD t nc np n rg sd od un (cl (nI kk)) else rg) = (rgD t nc np n rg sd od un kk) from by rw [if_pos hrf, hcl_kk]]; exact hP
      exact mX_iret hAe C hP hS dX9_drift_55 (by unfold drR; rw [if_neg (not_not_intro hrf), hcl_kk, allU_8 (okS_nD hTT hO kk) hT2.1 hT2.2])
    · skip
      obtain ⟨s0, hs0⟩ : ∃ z, hid (z = sD np sd i1) := ⟨_, rfl⟩
      obtain ⟨n0, hn0⟩ : ∃ z, hid (z = nD t nc np n sd i1) := ⟨_, rfl⟩
      rw [← show s0 = sD np sd i1 from hs0, ← show n0 = nD t nc np n sd i1 from hn0] at hP hD
      have hO0 : okS t n0 nc np := by rw [show n0 = nD t nc np n sd i1 from hn0]; exact okS_nD hTT hO i1
      have hs0l : s0 < 2147483648 := by rw [show s0 = sD np sd i1 from hs0]; exact sD_lt hs i1
      obtain ⟨n2, hn2⟩ : ∃ z, hid (z = dfN t nc np n0 s0) := ⟨_, rfl⟩
      obtain ⟨s3, hs3⟩ : ∃ z, hid (z = dfS np s0) := ⟨_, rfl⟩
      have hO2 : okS t n2 nc np := by rw [show n2 = dfN t nc np n0 s0 from hn2]; exact okS_df hTT hO0
      refine lv_aload_n hx hb dX9_drift_19 rfl (lv_at hl 0 rfl) ?_
      refine va_get (D := G.1) (ci := 9) (v := .ref (a 26)) (C := RX9) (T := TX9) (N := 11) hx hb hts k1 hown hK hP 0 rfl rfl 4 (by decide) k2 (fun _ h9 => h9) rfl dX9_drift_20 ?_
      refine lv_aload_n hx hb dX9_drift_23 rfl (lv_at hl 0 rfl) ?_
      refine va_get (D := G.1) (ci := 9) (v := .ref (a 5)) (C := RX9) (T := TX9) (N := 11) hx hb hts k1 hown hK hP 0 rfl rfl 2 (by decide) k0 (fun _ h9 => h9) rfl dX9_drift_24 ?_
      refine cX_VI (Cn := RX2) (n := 1) (As := [.ref (a 5)]) (rest := []) (wsn := dR G a ra nR s em (rmI (upd (upd i 5 (nI (unQ un i1))) 8 (nI s0)) (unQ un i1)) (upd (upd eo 0 (nI (odQ od un i1))) 0 (nI (odN (odQ od un i1) (unQ un i1)))) es t n0 d tx rt rn cd su bk co mo m0 m1 kp (rgN (rgD t nc np n rg sd od un i1) (odQ od un i1) (unQ un i1) n0)) C (c_X2_note_b l G a ra nR s em (upd (upd i 5 (nI (unQ un i1))) 8 (nI s0)) (upd eo 0 (nI (odQ od un i1))) es t n0 d tx rt rn cd su bk co mo m0 m1 kp (rgD t nc np n rg sd od un i1) (unQ un i1) (odQ od un i1)  ((upd_ne (by decide)).trans (upd_at _ _ _)) (unQ_le hul i1) (upd_at _ _ _) (odQ_lt hol i1) hnR) gX9_drift_X2_note rfl ⟨rfl, rfl⟩ hd_X2_note ⟨(Nat.le_of_ble_eq_true rfl), (Nat.le_of_ble_eq_true rfl)⟩ hK hP hD hS (dR_f.trans dR_f.symm) (va_recv hK hP (ci := 2) (q0 := 26) rfl rfl) rfl hl.1 rfl (Nat.le_of_ble_eq_true rfl) dX9_drift_27 ⟨(Nat.le_of_ble_eq_true rfl), (Nat.le_of_ble_eq_true rfl)⟩ (fun H locs hP hD hS => ?_)
      refine lv_aload_n hx hb dX9_drift_30 rfl (lv_at hl 0 rfl) ?_
      refine cX_V (Cn := RX9) (n := 0) (As := []) (rest := []) (wsn := dR G a ra nR s em (upd (rmI (upd (upd i 5 (nI (unQ un i1))) 8 (nI s0)) (unQ un i1)) 8 (nI s3)) (upd (upd eo 0 (nI (odQ od un i1))) 0 (nI (odN (odQ od un i1) (unQ un i1)))) es t n2 d tx rt rn cd su bk co mo m0 m1 kp (rgN (rgD t nc np n rg sd od un i1) (odQ od un i1) (unQ un i1) n0)) C (c_X9_borrowByDraws_o l G a (rmI (upd (upd i 5 (nI (unQ un i1))) 8 (nI s0)) (unQ un i1)) t n0 nc np s0 n2 s3  hTT hO0 (ri8 _ _ _ _) hs0l hn2 hs3) gX9_drift_X9_borrowByDraws rfl ⟨rfl, rfl⟩ hd_X9_borrowByDraws ⟨(Nat.le_of_ble_eq_true rfl), (Nat.le_of_ble_eq_true rfl)⟩ hK hP hD hS [0, 1, 2, 3, 4, 5, 6, 7, 8, 9] (by decide) rfl (uW_f.trans uW_f.symm) rfl (dR_f.trans dR_f.symm) (va_recv hK hP (ci := 9) (q0 := 0) rfl rfl) rfl hl.1 rfl (Nat.le_of_ble_eq_true rfl) dX9_drift_31 ⟨(Nat.le_of_ble_eq_true rfl), (Nat.le_of_ble_eq_true rfl)⟩ (fun H locs hP hD hS => ?_)
      refine lv_aload_n hx hb dX9_drift_34 rfl (lv_at hl 0 rfl) ?_
      refine va_get (D := G.1) (ci := 9) (v := .ref (a 5)) (C := RX9) (T := TX9) (N := 11) hx hb hts k1 hown hK hP 0 rfl rfl 2 (by decide) k0 (fun _ h9 => h9) rfl dX9_drift_35 ?_
      refine cX_V (Cn := RX7) (n := 0) (As := []) (rest := []) (wsn := dR G a ra nR s em (upd (rmI (upd (upd i 5 (nI (unQ un i1))) 8 (nI s0)) (unQ un i1)) 8 (nI s3)) (upd (upd eo 0 (nI (odQ od un i1))) 0 (nI (odN (odQ od un i1) (unQ un i1)))) es t (qgF t n2 nc np) d tx rt rn cd su bk co mo m0 m1 kp (rgN (rgD t nc np n rg sd od un i1) (odQ od un i1) (unQ un i1) n0)) C (c_X7_passQuarter l G (a 5) (a 6) (a 7) (a 8) (a 9) (a 1) (a 2) (a 3) (a 4) t n2 nc np  hT hO2) gX9_drift_X7_passQuarter rfl ⟨rfl, rfl⟩ hd_X7_passQuarter ⟨(Nat.le_of_ble_eq_true rfl), (Nat.le_of_ble_eq_true rfl)⟩ hK hP hD hS [5, 6, 7, 8, 9, 1, 2, 3, 4] (by decide) rfl (sW_f.trans sW_f.symm) rfl (dR_f.trans dR_f.symm) (va_recv hK hP (ci := 7) (q0 := 5) rfl rfl) rfl hl.1 rfl (Nat.le_of_ble_eq_true rfl) dX9_drift_38 ⟨(Nat.le_of_ble_eq_true rfl), (Nat.le_of_ble_eq_true rfl)⟩ (fun H locs hP hD hS => ?_)
      refine lv_pop hx hb dX9_drift_41 rfl ?_
      refine lv_iinc (v := nI (i1 + 1)) (lv' := [(3, .int (nI (i1 + 1))), (0, .ref (a 0)), (1, .int (nI kk))]) hx hb dX9_drift_42 hl (k := 2) rfl (by rw [show (nI i1 : Int32) = nI i1 from rfl]; exact nI_add _ 1) (by decide) rfl (fun ls hl => ?_)
      refine lv_goto (tgt := 14) hx hb dX9_drift_45 (by decide) ?_
      have e3 : qgF t n2 nc np = nD t nc np n sd (i1 + 1) := by rw [show n2 = dfN t nc np n0 s0 from hn2, show n0 = nD t nc np n sd i1 from hn0, show s0 = sD np sd i1 from hs0]; exact nD_s2 _ _ _ _ _ _
      have e4 : rgN (rgD t nc np n rg sd od un i1) (odQ od un i1) (unQ un i1) n0 = rgD t nc np n rg sd od un (i1 + 1) := by rw [show n0 = nD t nc np n sd i1 from hn0]; exact rgD_s _ _ _ _ _ _ _ _ _
      have e5 : upd (upd eo 0 (nI (odQ od un i1))) 0 (nI (odN (odQ od un i1) (unQ un i1))) = upd eo 0 (nI (odQ od un (i1 + 1))) := upd_upd _ _ _ _
      have e6 : upd (rmI (upd (upd i 5 (nI (unQ un i1))) 8 (nI s0)) (unQ un i1)) 8 (nI s3) = upd (upd i 5 (nI (unQ un (i1 + 1)))) 8 (nI (sD np sd (i1 + 1))) := by rw [show s3 = dfS np s0 from hs3, show s0 = sD np sd i1 from hs0]; exact drI_c _ _ _ _ _
      rw [e3, e4, e5, e6] at hP hD
      exact ih14 _ _ _ (by omega) ⟨hP, hD, hS, lv_sub hl [1, 2, 0] (rfl), trivial⟩
  · skip
    have hrf := cq1
    refine lv_iload_n hx hb dX9_drift_10 rfl (lv_at hl 0 rfl) ?_
    have hP : va_P G.1 vwCl (dR G a ra nR s em (if rfR t n x = 0 then upd (upd i 5 (nI (unQ un (cl x)))) 8 (nI (sD np sd (cl x))) else i) (if rfR t n x = 0 then upd eo 0 (nI (odQ od un (cl x))) else eo) es t (if rfR t n x = 0 then nD t nc np n sd (cl x) else n) d tx rt rn cd su bk co mo m0 m1 kp (if rfR t n x = 0 then rgD t nc np n rg sd od un (cl x) else rg)) zs.heap := by rw [show (if rfR t n x = 0 then upd (upd i 5 (nI (unQ un (cl x)))) 8 (nI (sD np sd (cl x))) else i) = i from (if_neg hrf), show (if rfR t n x = 0 then upd eo 0 (nI (odQ od un (cl x))) else eo) = eo from (if_neg hrf), show (if rfR t n x = 0 then nD t nc np n sd (cl x) else n) = n from (if_neg hrf), show (if rfR t n x = 0 then rgD t nc np n rg sd od un (cl x) else rg) = rg from (if_neg hrf)]; exact hP
    exact mX_iret hAe C hP hS dX9_drift_11 ((if_pos hrf).symm)
theorem hd_X9_undo : yX9_undo.cls = RX9 ∧ yX9_undo.cls ≠ "java/lang/invoke/MethodHandle" ∧ yX9_undo.cls ≠ "java/lang/invoke/VarHandle" ∧ (parseMethodDescriptor yX9_undo.desc).map (fun d => d.parameters.length) = some 1 := by decide +kernel
set_option maxRecDepth 100000 in
set_option maxHeartbeats 4000000 in
theorem c_X9_undo (l : Launch) (G : gG) (a : Nat → Nat) (ra : Nat → Nat → Nat) (nR : Nat) (s : RSt) (em : Int32) (i : Nat → Int32) (eo : Nat → Int32) (es : Nat → Int32) (t : Nat → Int32) (n : Nat → Int32) (d : Nat → Int32) (tx : Nat → Int32) (rt : Nat → Int32) (rn : Nat → Int32) (cd : Nat → Int32) (su : Nat → Int32) (bk : Nat → Int32) (co : Nat → Int32) (mo : Nat → Int32) (m0 : Nat → Int32) (m1 : Nat → Int32) (kp : Nat → Int32) (rg : Nat → Nat → Int32) (un : Nat) (od : Nat) (ps : Nat → Int32) (x : Int32) (hun : i 5 = nI un) (hul : un ≤ 30) (hod : eo 0 = nI od) (hol : od < 30) (hnR : nR = 30) (hRG : RING rg ps od un) : mX l yX9_undo wsX9_undo ({ frames := 3, cells := 0, slots := 0, locals := 64 }) G (dR G a ra nR s em i eo es t n d tx rt rn cd su bk co mo m0 m1 kp rg) (dR G a ra nR s em (if okUn un x then upd i 5 (nI (un - cl x)) else i) eo es t (if okUn un x then va_cpy ps n (54 * (un - cl x)) 0 54 else n) d tx rt rn cd su bk co mo m0 m1 kp rg) [.ref (a 0), .int x] (.returned (some (.int (unR n ps un x)))) := by
  refine mX.of (cc := cX9_undo) (maxL := 2) (ret := (some .int)) (by decide) rfl (Nat.le_of_ble_eq_true rfl) ?_
  intro zp ze zs zm zb zt zc ls A hAe C hP hK hD hS hl
  obtain ⟨hx, hb, hr, hml, hown, hts, hlk⟩ := id C
  have hl : lv_has ls 2 [(0, .ref (a 0)), (1, .int x)] := hl
  have k0 := hts (.constant RX9 81 (-1000000002)) (by decide +kernel)
  have k1 := hts (.fieldLink RX9 38 "DebtDowry" "history" "LDebtDowry$History;") (by decide +kernel)
  have k2 := (fun w h => by revert w; decide +kernel : ∀ w ∈ wsX90, w ∈ wsX9_undo)
  have k3 := hts (.fieldLink RX9 151 "DebtDowry$History" "count" "I") (by decide +kernel)
  have k4 := (fun w h => by revert w; decide +kernel : ∀ w ∈ wsX20, w ∈ wsX9_undo)
  have k5 := hts (.fieldLink RX9 28 "DebtDowry" "now" "LDebtDowry$State;") (by decide +kernel)
  have k6 := hts (.fieldLink RX9 135 "DebtDowry$State" "quarters" "I") (by decide +kernel)
  have k7 := (fun w h => by revert w; decide +kernel : ∀ w ∈ wsX70, w ∈ wsX9_undo)
  have k8 := hts (.constant RX9 206 (-1000000003)) (by decide +kernel)
  refine lv_iload_n hx hb dX9_undo_0 rfl (lv_at hl 1 rfl) ?_
  refine lv_iconst (v := 1) hx hb dX9_undo_1 (by decide) ?_
  refine lv_icmp_lt (tgt := 11) hx hb dX9_undo_2 (by decide) (fun cq1 => ?_) (fun cq1 => ?_)
  · skip
    have hin : ¬ inB x 1 30 := fun q => i32_nle.mpr cq1 q.1
    have hno : ¬ okUn un x := fun q => hin q.1
    refine lv_ldc hx hb hown k0 dX9_undo_11 ?_
    have hP : va_P G.1 vwCl (dR G a ra nR s em (if okUn un x then upd i 5 (nI (un - cl x)) else i) eo es t (if okUn un x then va_cpy ps n (54 * (un - cl x)) 0 54 else n) d tx rt rn cd su bk co mo m0 m1 kp rg) zs.heap := by rw [show (if okUn un x then upd i 5 (nI (un - cl x)) else i) = i from (if_neg hno), show (if okUn un x then va_cpy ps n (54 * (un - cl x)) 0 54 else n) = n from (if_neg hno)]; exact hP
    exact mX_iret hAe C hP hS dX9_undo_13 (by unfold unR; rw [if_pos hin])
  · skip
    have hinl := i32_nlt.mp cq1
    refine lv_iload_n hx hb dX9_undo_5 rfl (lv_at hl 1 rfl) ?_
    refine lv_bipush (v := 30) hx hb dX9_undo_6 (by decide) ?_
    refine lv_icmp_le (tgt := 14) hx hb dX9_undo_8 (by decide) (fun cq2 => ?_) (fun cq2 => ?_)
    · skip
      have hin : inB x 1 30 := ⟨hinl, cq2⟩
      obtain ⟨kk, hkk1, hkk2, rfl⟩ := inB_rng (a := 1) (b := 30) rfl rfl (by decide) (by decide) (hin)
      have hcl_kk := cl_nI (n := kk) (by omega)
      refine lv_iload_n hx hb dX9_undo_14 rfl (lv_at hl 1 rfl) ?_
      refine lv_aload_n hx hb dX9_undo_15 rfl (lv_at hl 0 rfl) ?_
      refine va_get (D := G.1) (ci := 9) (v := .ref (a 26)) (C := RX9) (T := TX9) (N := 11) hx hb hts k2 hown hK hP 0 rfl rfl 4 (by decide) k1 (fun _ h9 => h9) rfl dX9_undo_16 ?_
      refine va_get (D := G.1) (ci := 2) (v := .int (i 5)) (C := RX2) (T := TX2) (N := 3) hx hb hts k4 hown hK hP 26 rfl rfl 2 (by decide) k3 (fun _ h9 => h9) rfl dX9_undo_19 ?_
      refine n_icmp_le (tgt := 28) hx hb dX9_undo_22 (by decide) (u := kk) (v := un) rfl hun (by omega) (by omega) (fun cq3 => ?_) (fun cq3 => ?_)
      · skip
        have hok : okUn un (nI kk) := ⟨hin, by rw [hcl_kk]; exact cq3⟩
        refine lv_aload_n hx hb dX9_undo_28 rfl (lv_at hl 0 rfl) ?_
        refine va_get (D := G.1) (ci := 9) (v := .ref (a 26)) (C := RX9) (T := TX9) (N := 11) hx hb hts k2 hown hK hP 0 rfl rfl 4 (by decide) k1 (fun _ h9 => h9) rfl dX9_undo_29 ?_
        refine lv_aload_n hx hb dX9_undo_32 rfl (lv_at hl 0 rfl) ?_
        refine va_get (D := G.1) (ci := 9) (v := .ref (a 5)) (C := RX9) (T := TX9) (N := 11) hx hb hts k2 hown hK hP 0 rfl rfl 2 (by decide) k5 (fun _ h9 => h9) rfl dX9_undo_33 ?_
        refine lv_iload_n hx hb dX9_undo_36 rfl (lv_at hl 1 rfl) ?_
        refine cX_VI (Cn := RX2) (n := 2) (As := [.ref (a 5), .int (nI kk)]) (rest := []) (wsn := dR G a ra nR s em (upd i 5 (nI (un - kk))) eo es t (rg ((od + (un - kk)) % 30)) d tx rt rn cd su bk co mo m0 m1 kp rg) C (c_X2_restore_b l G a ra nR s em i eo es t n d tx rt rn cd su bk co mo m0 m1 kp rg un od kk hun hul hod hol hnR (by omega) (by omega)) gX9_undo_X2_restore rfl ⟨rfl, rfl⟩ hd_X2_restore ⟨(Nat.le_of_ble_eq_true rfl), (Nat.le_of_ble_eq_true rfl)⟩ hK hP hD hS (dR_f.trans dR_f.symm) (va_recv hK hP (ci := 2) (q0 := 26) rfl rfl) rfl hl.1 rfl (Nat.le_of_ble_eq_true rfl) dX9_undo_37 ⟨(Nat.le_of_ble_eq_true rfl), (Nat.le_of_ble_eq_true rfl)⟩ (fun H locs hP hD hS => ?_)
        have hP : va_P G.1 vwCl (dR G a ra nR s em (upd i 5 (nI (un - kk))) eo es t (va_cpy ps n (54 * (un - kk)) 0 54) d tx rt rn cd su bk co mo m0 m1 kp rg) H := hP.wq (dR_en (ring_back hRG (by omega) (by omega)))
        have hD : va_D A (dR G a ra nR s em (upd i 5 (nI (un - kk))) eo es t (va_cpy ps n (54 * (un - kk)) 0 54) d tx rt rn cd su bk co mo m0 m1 kp rg) := hD.wq (dR_en (ring_back hRG (by omega) (by omega)))
        refine lv_aload_n hx hb dX9_undo_40 rfl (lv_at hl 0 rfl) ?_
        refine va_get (D := G.1) (ci := 9) (v := .ref (a 5)) (C := RX9) (T := TX9) (N := 11) hx hb hts k2 hown hK hP 0 rfl rfl 2 (by decide) k5 (fun _ h9 => h9) rfl dX9_undo_41 ?_
        refine va_get (D := G.1) (ci := 7) (v := .int ((va_cpy ps n (54 * (un - kk)) 0 54) 53)) (C := RX7) (T := TX7) (N := 7) hx hb hts k7 hown hK hP 5 rfl rfl 6 (by decide) k6 (fun _ h9 => h9) rfl dX9_undo_44 ?_
        have hP : va_P G.1 vwCl (dR G a ra nR s em (if okUn un (nI kk) then upd i 5 (nI (un - cl (nI kk))) else i) eo es t (if okUn un (nI kk) then va_cpy ps n (54 * (un - cl (nI kk))) 0 54 else n) d tx rt rn cd su bk co mo m0 m1 kp rg) H := by rw [show (if okUn un (nI kk) then upd i 5 (nI (un - cl (nI kk))) else i) = (upd i 5 (nI (un - kk))) from by rw [if_pos hok]; first | done | rfl | (rw [hcl_kk]; done), show (if okUn un (nI kk) then va_cpy ps n (54 * (un - cl (nI kk))) 0 54 else n) = (va_cpy ps n (54 * (un - kk)) 0 54) from by rw [if_pos hok]; first | done | rfl | (rw [hcl_kk]; done)]; exact hP
        exact mX_iret hAe C hP hS dX9_undo_47 (by unfold unR; rw [if_neg (not_not_intro hin), hcl_kk, if_neg (by omega)])
      · skip
        have hno : ¬ okUn un (nI kk) := fun q => absurd q.2 (by rw [hcl_kk]; omega)
        refine lv_ldc hx hb hown k8 dX9_undo_25 ?_
        have hP : va_P G.1 vwCl (dR G a ra nR s em (if okUn un (nI kk) then upd i 5 (nI (un - cl (nI kk))) else i) eo es t (if okUn un (nI kk) then va_cpy ps n (54 * (un - cl (nI kk))) 0 54 else n) d tx rt rn cd su bk co mo m0 m1 kp rg) zs.heap := by rw [show (if okUn un (nI kk) then upd i 5 (nI (un - cl (nI kk))) else i) = i from (if_neg hno), show (if okUn un (nI kk) then va_cpy ps n (54 * (un - cl (nI kk))) 0 54 else n) = n from (if_neg hno)]; exact hP
        exact mX_iret hAe C hP hS dX9_undo_27 (by unfold unR; rw [if_neg (not_not_intro hin), hcl_kk, if_pos (by omega)])
    · skip
      have hin : ¬ inB x 1 30 := fun q => cq2 q.2
      have hno : ¬ okUn un x := fun q => hin q.1
      refine lv_ldc hx hb hown k0 dX9_undo_11 ?_
      have hP : va_P G.1 vwCl (dR G a ra nR s em (if okUn un x then upd i 5 (nI (un - cl x)) else i) eo es t (if okUn un x then va_cpy ps n (54 * (un - cl x)) 0 54 else n) d tx rt rn cd su bk co mo m0 m1 kp rg) zs.heap := by rw [show (if okUn un x then upd i 5 (nI (un - cl x)) else i) = i from (if_neg hno), show (if okUn un x then va_cpy ps n (54 * (un - cl x)) 0 54 else n) = n from (if_neg hno)]; exact hP
      exact mX_iret hAe C hP hS dX9_undo_13 (by unfold unR; rw [if_pos hin])
theorem hd_X9_joined : yX9_joined.cls = RX9 ∧ yX9_joined.cls ≠ "java/lang/invoke/MethodHandle" ∧ yX9_joined.cls ≠ "java/lang/invoke/VarHandle" ∧ (parseMethodDescriptor yX9_joined.desc).map (fun d => d.parameters.length) = some 2 := by decide +kernel
set_option maxRecDepth 100000 in
set_option maxHeartbeats 4000000 in
theorem c_X9_joined (l : Launch) (G : gG) (a : Nat → Nat) (i : Nat → Int32) (t : Nat → Int32) (n : Nat → Int32) (nc : Nat) (np : Nat) (g : Int32) (m : Int32) (hTT : okT t nc np) (hO : okS t n nc np) : mR l yX9_joined wsX9_joined ({ frames := 3, cells := 0, slots := 0, locals := 70 }) G (uW G a i t n) [.ref (a 0), .int g, .int m] (joR t n nc g m) := by
  refine mR.of (cc := cX9_joined) (maxL := 4) (ret := (some .int)) (by decide) rfl (Nat.le_of_ble_eq_true rfl) ?_
  intro zp ze zs zm zb zt zc ls C hP hK hl
  obtain ⟨hx, hb, hr, hml, hown, hts, hlk⟩ := id C
  have hl : lv_has ls 4 [(0, .ref (a 0)), (1, .int g), (2, .int m)] := hl
  have hT := hTT.1
  have hT2 := hT.2.2
  have hG := okT_G hTT
  have hLH := okT_L hTT
  have k0 := hts (.fieldLink RX9 28 "DebtDowry" "now" "LDebtDowry$State;") (by decide +kernel)
  have k1 := (fun w h => by revert w; decide +kernel : ∀ w ∈ wsX90, w ∈ wsX9_joined)
  refine lv_aload_n hx hb dX9_joined_0 rfl (lv_at hl 0 rfl) ?_
  refine lv_iload_n hx hb dX9_joined_1 rfl (lv_at hl 1 rfl) ?_
  refine lv_iload_n hx hb dX9_joined_2 rfl (lv_at hl 2 rfl) ?_
  refine cR_V (Cn := RX9) (n := 2) (As := [.int g, .int m]) (rest := []) C (c_X9_refusalOfPair l G a i t n nc np g m hTT hO) gX9_joined_X9_refusalOfPair rfl ⟨rfl, rfl⟩ hd_X9_refusalOfPair ⟨(Nat.le_of_ble_eq_true rfl), (Nat.le_of_ble_eq_true rfl)⟩ hK hP (va_recv hK hP (ci := 9) (q0 := 0) rfl rfl) rfl hl.1 rfl (Nat.le_of_ble_eq_true rfl) dX9_joined_3 ⟨(Nat.le_of_ble_eq_true rfl), (Nat.le_of_ble_eq_true rfl)⟩ ?_
  refine lv_istore_n (lv' := [(3, .int (rfP t n g m)), (0, .ref (a 0)), (1, .int g), (2, .int m)]) hx hb dX9_joined_6 rfl hl (by decide) rfl (fun ls hl => ?_)
  refine lv_iload_n hx hb dX9_joined_7 rfl (lv_at hl 0 rfl) ?_
  refine lv_if_eq (tgt := 13) hx hb dX9_joined_8 (by decide) (fun cq1 => ?_) (fun cq1 => ?_)
  · skip
    have hrf := cq1
    have hok := rfP_0 cq1
    obtain ⟨gg, hgg, rfl⟩ := inB_nat hT.2.1 (by omega) (hok.1.1)
    have hcl_gg := cl_nI (n := gg) (by omega)
    obtain ⟨mm, hmm, rfl⟩ := inB_nat hT.2.1 (by omega) (hok.2.1.1)
    have hcl_mm := cl_nI (n := mm) (by omega)
    have hgm : gg ≠ mm := fun q => hok.2.1.2 (by rw [← q]; exact hok.1.2)
    refine lv_aload_n hx hb dX9_joined_13 rfl (lv_at hl 1 rfl) ?_
    refine va_get (D := G.1) (ci := 9) (v := .ref (a 5)) (C := RX9) (T := TX9) (N := 11) hx hb hts k1 hown hK hP 0 rfl rfl 2 (by decide) k0 (fun _ h9 => h9) rfl dX9_joined_14 ?_
    refine lv_iload_n hx hb dX9_joined_17 rfl (lv_at hl 2 rfl) ?_
    refine lv_iload_n hx hb dX9_joined_18 rfl (lv_at hl 3 rfl) ?_
    refine cR_V (Cn := RX7) (n := 2) (As := [.int (nI gg), .int (nI mm)]) (rest := []) C (c_X7_standingJoined l G (a 5) (a 6) (a 7) (a 8) (a 9) (a 1) (a 2) (a 3) (a 4) t n nc np gg mm hT (by omega) (by omega) hgm) gX9_joined_X7_standingJoined rfl ⟨rfl, rfl⟩ hd_X7_standingJoined ⟨(Nat.le_of_ble_eq_true rfl), (Nat.le_of_ble_eq_true rfl)⟩ hK (hP.sub [5, 6, 7, 8, 9, 1, 2, 3, 4] rfl) (va_recv hK hP (ci := 7) (q0 := 5) rfl rfl) rfl hl.1 rfl (Nat.le_of_ble_eq_true rfl) dX9_joined_19 ⟨(Nat.le_of_ble_eq_true rfl), (Nat.le_of_ble_eq_true rfl)⟩ ?_
    refine lv_bipush (v := 10) hx hb dX9_joined_22 (by decide) ?_
    refine lv_iadd hx hb dX9_joined_24 ?_
    exact mR_iret C dX9_joined_25 (by unfold joR; rw [if_neg (not_not_intro ⟨hok.1, hok.2.1⟩), if_pos hok.2.2, hcl_gg, hcl_mm]; rfl)
  · skip
    have hrf := cq1
    refine lv_iload_n hx hb dX9_joined_11 rfl (lv_at hl 0 rfl) ?_
    exact mR_iret C dX9_joined_12 (jo_no hrf)
