theorem df_yes {t n : Nat → Int32} {nc np pp cc kc : Nat} (hO : okS t n nc np) (hp : pp < 8) (hc : cc < 4) (h : mayB t n pp cc (nI kc)) : (if 0 < kc ∧ mayB t n pp cc (nI kc) then borF n pp cc (nI kc) else n) = borF n pp cc (nI kc) := by
  by_cases hk : 0 < kc
  · rw [if_pos ⟨hk, h⟩]
  · rw [if_neg (fun q => hk q.1), show kc = 0 by omega, borF_z hO hp hc]
theorem nD_s2 (t n : Nat → Int32) (nc np sd k : Nat) : qgF t (dfN t nc np (nD t nc np n sd k) (sD np sd k)) nc np = nD t nc np n sd (k + 1) := rfl
theorem rgD_s (t n : Nat → Int32) (rg : Nat → Nat → Int32) (nc np sd od un k : Nat) : rgN (rgD t nc np n rg sd od un k) (odQ od un k) (unQ un k) (nD t nc np n sd k) = rgD t nc np n rg sd od un (k + 1) := rfl
theorem sD_s (np sd k : Nat) : dfS np (sD np sd k) = sD np sd (k + 1) := rfl
theorem drI_c (i : Nat → Int32) (un np sd k : Nat) : upd (rmI (upd (upd i 5 (nI (unQ un k))) 8 (nI (sD np sd k))) (unQ un k)) 8 (nI (dfS np (sD np sd k))) = upd (upd i 5 (nI (unQ un (k + 1)))) 8 (nI (sD np sd (k + 1))) := by
  rw [sD_s]
  generalize nI (sD np sd (k + 1)) = s3
  generalize nI (sD np sd k) = s0
  show upd (upd (upd (upd i 5 _) 8 s0) 5 (nI (rmU (unQ un k)))) 8 s3 = upd (upd i 5 (nI (rmU (unQ un k)))) 8 s3
  funext z; simp only [upd]; by_cases h5 : z = 5 <;> by_cases h8 : z = 8 <;> simp [h5, h8]
theorem hd_X9_drawOf : yX9_drawOf.cls = RX9 ∧ yX9_drawOf.cls ≠ "java/lang/invoke/MethodHandle" ∧ yX9_drawOf.cls ≠ "java/lang/invoke/VarHandle" ∧ (parseMethodDescriptor yX9_drawOf.desc).map (fun d => d.parameters.length) = some 1 := by decide +kernel
set_option maxRecDepth 100000 in
set_option maxHeartbeats 4000000 in
theorem c_X9_drawOf (l : Launch) (G : gG) (a : Nat → Nat) (i : Nat → Int32) (sd : Nat) (nx : Nat) (dr : Nat) (k : Nat) (hk0 : 0 < k) (hk : k < 2147483648) (hsd : i 8 = nI sd) (hs : sd < 2147483648) (hnx : nx = nxtN sd) (hdr : dr = drN sd k) : mX l yX9_drawOf wsX9_drawOf ({ frames := 0, cells := 0, slots := 0, locals := 0 }) G (vW G a i) (vW G a (upd i 8 (nI nx))) [.ref (a 0), .int (nI k)] (.returned (some (.int (nI dr)))) := by
  refine mX.of (cc := cX9_drawOf) (maxL := 2) (ret := (some .int)) (by decide) rfl (Nat.le_of_ble_eq_true rfl) ?_
  intro zp ze zs zm zb zt zc ls A hAe C hP hK hD hS hl
  obtain ⟨hx, hb, hr, hml, hown, hts, hlk⟩ := id C
  have hl : lv_has ls 2 [(0, .ref (a 0)), (1, .int (nI k))] := hl
  have hnl : nx < 2147483648 := by rw [hnx]; exact nxtN_lt sd
  have k0 := hts (.fieldLink RX9 77 "DebtDowry" "luck" "I") (by decide +kernel)
  have k1 := (fun w h => by revert w; decide +kernel : ∀ w ∈ wsX90, w ∈ wsX9_drawOf)
  have k2 := hts (.constantLong RX9 323 (1103515245)) (by decide +kernel)
  have k3 := hts (.constantLong RX9 325 (12345)) (by decide +kernel)
  have k4 := hts (.constantLong RX9 327 (2147483647)) (by decide +kernel)
  have k5 := hts (.constant RX9 329 (65536)) (by decide +kernel)
  refine lv_aload_n hx hb dX9_drawOf_0 rfl (lv_at hl 0 rfl) ?_
  refine lv_aload_n hx hb dX9_drawOf_1 rfl (lv_at hl 0 rfl) ?_
  refine va_get (D := G.1) (ci := 9) (v := .int (i 8)) (C := RX9) (T := TX9) (N := 11) hx hb hts k1 hown hK hP 0 rfl rfl 10 (by decide) k0 (fun _ h9 => h9) rfl dX9_drawOf_2 ?_
  refine lv_i2l (v := (i 8).toInt64) hx hb dX9_drawOf_5 rfl ?_
  refine lv_ldc2 hx hb hown k2 dX9_drawOf_6 ?_
  refine lv_lmul hx hb dX9_drawOf_9 ?_
  refine lv_ldc2 hx hb hown k3 dX9_drawOf_10 ?_
  refine lv_ladd hx hb dX9_drawOf_13 ?_
  refine lv_ldc2 hx hb hown k4 dX9_drawOf_14 ?_
  refine lv_land hx hb dX9_drawOf_17 ?_
  refine lv_l2i (v := (((((i 8).toInt64) * 1103515245) + 12345) &&& 2147483647).toInt32) hx hb dX9_drawOf_18 rfl ?_
  rw [hsd, drawC hs, ← hnx]
  refine n_putQ (D := G.1) (wsn := vW G a (upd i 8 (nI nx))) (ci := 9) (v := .int (nI nx)) (ty := .int) (C := RX9) (T := TX9) (N := 11) hx hb hts k1 tyX9 tyX9_ok nmX9 hown hK hP hD hS 0 rfl rfl 10 (by decide) k0 (fun _ h9 => h9) rfl (by decide +kernel) rfl rfl (Nat.le_of_ble_eq_true rfl) vW_p0_10 dX9_drawOf_19 (fun H locs hP hD hS => ?_)
  refine lv_iload_n hx hb dX9_drawOf_22 rfl (lv_at hl 1 rfl) ?_
  refine lv_if_le (tgt := 39) hx hb dX9_drawOf_23 (by decide) (fun cq1 => ?_) (fun cq1 => ?_)
  · exact absurd cq1 (nI_nle hk0 hk)
  · skip
    refine lv_aload_n hx hb dX9_drawOf_26 rfl (lv_at hl 0 rfl) ?_
    refine va_get (D := G.1) (ci := 9) (v := .int (nI nx)) (C := RX9) (T := TX9) (N := 11) hx hb hts k1 hown hK hP 0 rfl rfl 10 (by decide) k0 (fun _ h9 => h9) rfl dX9_drawOf_27 ?_
    refine lv_ldcw hx hb hown k5 dX9_drawOf_30 ?_
    refine n_idiv hx hb dX9_drawOf_33 (u := nx) (v := 65536) rfl rfl (by omega) (by omega) (by omega) ?_
    refine lv_iload_n hx hb dX9_drawOf_34 rfl (lv_at hl 1 rfl) ?_
    refine n_irem hx hb dX9_drawOf_35 (u := nx / 65536) (v := k) rfl rfl (by omega) (by omega) (by omega) ?_
    refine lv_goto (tgt := 40) hx hb dX9_drawOf_36 (by decide) ?_
    exact mX_iret hAe C hP hS dX9_drawOf_40 (by rw [hdr, hnx]; rfl)
theorem hd_X9_borrowByDraws : yX9_borrowByDraws.cls = RX9 ∧ yX9_borrowByDraws.cls ≠ "java/lang/invoke/MethodHandle" ∧ yX9_borrowByDraws.cls ≠ "java/lang/invoke/VarHandle" ∧ (parseMethodDescriptor yX9_borrowByDraws.desc).map (fun d => d.parameters.length) = some 0 := by decide +kernel
set_option maxRecDepth 100000 in
set_option maxHeartbeats 4000000 in
theorem c_X9_borrowByDraws (l : Launch) (G : gG) (a : Nat → Nat) (i : Nat → Int32) (t : Nat → Int32) (n : Nat → Int32) (nc : Nat) (np : Nat) (sd : Nat) (hTT : okT t nc np) (hO : okS t n nc np) (hsd : i 8 = nI sd) (hs : sd < 2147483648) : mX l yX9_borrowByDraws wsX9_borrowByDraws ({ frames := 4, cells := 0, slots := 0, locals := 86 }) G (uW G a i t n) (uW G a (upd i 8 (nI (dfS np sd))) t (dfN t nc np n sd)) [.ref (a 0)] (.returned none) := by
  refine mX.of (cc := cX9_borrowByDraws) (maxL := 4) (ret := none) (by decide) rfl (Nat.le_of_ble_eq_true rfl) ?_
  intro zp ze zs zm zb zt zc ls A hAe C hP hK hD hS hl
  obtain ⟨hx, hb, hr, hml, hown, hts, hlk⟩ := id C
  have hl : lv_has ls 4 [(0, .ref (a 0))] := hl
  have hT := hTT.1
  have hT2 := hT.2.2
  have hG := okT_G hTT
  have hLH := okT_L hTT
  have k0 := hts (.fieldLink RX9 19 "DebtDowry" "terms" "LDebtDowry$Terms;") (by decide +kernel)
  have k1 := (fun w h => by revert w; decide +kernel : ∀ w ∈ wsX90, w ∈ wsX9_borrowByDraws)
  have k2 := hts (.fieldLink RX9 117 "DebtDowry$Terms" "persons" "I") (by decide +kernel)
  have k3 := (fun w h => by revert w; decide +kernel : ∀ w ∈ wsX80, w ∈ wsX9_borrowByDraws)
  have k4 := hts (.fieldLink RX9 132 "DebtDowry$Terms" "creditors" "I") (by decide +kernel)
  have k5 := hts (.fieldLink RX9 28 "DebtDowry" "now" "LDebtDowry$State;") (by decide +kernel)
  refine lv_aload_n hx hb dX9_borrowByDraws_0 rfl (lv_at hl 0 rfl) ?_
  refine va_get (D := G.1) (ci := 9) (v := .ref (a 1)) (C := RX9) (T := TX9) (N := 11) hx hb hts k1 hown hK hP 0 rfl rfl 1 (by decide) k0 (fun _ h9 => h9) rfl dX9_borrowByDraws_1 ?_
  refine va_get (D := G.1) (ci := 8) (v := .int (t 4)) (C := RX8) (T := TX8) (N := 9) hx hb hts k3 hown hK hP 1 rfl rfl 4 (by decide) k2 (fun _ h9 => h9) rfl dX9_borrowByDraws_4 ?_
  refine lv_if_ne (tgt := 11) hx hb dX9_borrowByDraws_7 (by decide) (fun cq1 => ?_) (fun cq1 => ?_)
  · skip
    have hnp := np_1 hT.2.1 (fun z => cq1 (by have z2 := np_0 hT.2.1 (by omega) z; rw [hT.2.1, z2]; rfl))
    have hnc := hTT.2.2.1 hnp
    obtain ⟨s1, hs1⟩ : ∃ z, hid (z = nxtN sd) := ⟨_, rfl⟩
    obtain ⟨s2, hs2⟩ : ∃ z, hid (z = nxtN s1) := ⟨_, rfl⟩
    obtain ⟨s3, hs3⟩ : ∃ z, hid (z = nxtN s2) := ⟨_, rfl⟩
    obtain ⟨pp, hpp⟩ : ∃ z, hid (z = drN sd np) := ⟨_, rfl⟩
    obtain ⟨cc, hcc⟩ : ∃ z, hid (z = drN s1 nc) := ⟨_, rfl⟩
    obtain ⟨kc, hkc⟩ : ∃ z, hid (z = drN s2 100) := ⟨_, rfl⟩
    have hs1l : s1 < 2147483648 := by rw [show s1 = nxtN sd from hs1]; exact nxtN_lt _
    have hs2l : s2 < 2147483648 := by rw [show s2 = nxtN s1 from hs2]; exact nxtN_lt _
    have hd1 : pp < np := by rw [show pp = drN sd np from hpp]; exact drN_lt hnp
    have hd2 : cc < nc := by rw [show cc = drN s1 nc from hcc]; exact drN_lt hnc
    have hd3 : kc < 100 := by rw [show kc = drN s2 100 from hkc]; exact drN_lt (by decide)
    have hnp0 : ¬ np = 0 := by omega
    have hdf : dfN t nc np n sd = if 0 < kc ∧ mayB t n pp cc (nI kc) then borF n pp cc (nI kc) else n := by rw [dfN_x (t := t) (n := n) rfl hs1 hs2 hpp hcc hkc, if_neg hnp0]
    have hds : dfS np sd = s3 := by unfold dfS; rw [if_neg hnp0, ← show s1 = nxtN sd from hs1, ← show s2 = nxtN s1 from hs2, ← show s3 = nxtN s2 from hs3]
    refine lv_aload_n hx hb dX9_borrowByDraws_11 rfl (lv_at hl 0 rfl) ?_
    refine lv_aload_n hx hb dX9_borrowByDraws_12 rfl (lv_at hl 0 rfl) ?_
    refine va_get (D := G.1) (ci := 9) (v := .ref (a 1)) (C := RX9) (T := TX9) (N := 11) hx hb hts k1 hown hK hP 0 rfl rfl 1 (by decide) k0 (fun _ h9 => h9) rfl dX9_borrowByDraws_13 ?_
    refine va_get (D := G.1) (ci := 8) (v := .int (t 4)) (C := RX8) (T := TX8) (N := 9) hx hb hts k3 hown hK hP 1 rfl rfl 4 (by decide) k2 (fun _ h9 => h9) rfl dX9_borrowByDraws_16 ?_
    refine cX_V (Cn := RX9) (n := 1) (As := [.int (nI np)]) (rest := []) (wsn := uW G a (upd i 8 (nI s1)) t n) C (c_X9_drawOf l G a i sd s1 pp np (by omega) (by omega) hsd hs hs1 hpp) gX9_borrowByDraws_X9_drawOf rfl ⟨rfl, rfl⟩ hd_X9_drawOf ⟨(Nat.le_of_ble_eq_true rfl), (Nat.le_of_ble_eq_true rfl)⟩ hK hP hD hS [0] (by decide) rfl (vW_f.trans vW_f.symm) rfl (uW_f.trans uW_f.symm) (va_recv hK hP (ci := 9) (q0 := 0) rfl rfl) rfl hl.1 (by rw [show (t 4 : Int32) = nI np from hT.2.1]; rfl) (Nat.le_of_ble_eq_true rfl) dX9_borrowByDraws_19 ⟨(Nat.le_of_ble_eq_true rfl), (Nat.le_of_ble_eq_true rfl)⟩ (fun H locs hP hD hS => ?_)
    refine lv_istore_n (lv' := [(1, .int (nI pp)), (0, .ref (a 0))]) hx hb dX9_borrowByDraws_22 rfl hl (by decide) rfl (fun ls hl => ?_)
    refine lv_aload_n hx hb dX9_borrowByDraws_23 rfl (lv_at hl 1 rfl) ?_
    refine lv_aload_n hx hb dX9_borrowByDraws_24 rfl (lv_at hl 1 rfl) ?_
    refine va_get (D := G.1) (ci := 9) (v := .ref (a 1)) (C := RX9) (T := TX9) (N := 11) hx hb hts k1 hown hK hP 0 rfl rfl 1 (by decide) k0 (fun _ h9 => h9) rfl dX9_borrowByDraws_25 ?_
    refine va_get (D := G.1) (ci := 8) (v := .int (t 3)) (C := RX8) (T := TX8) (N := 9) hx hb hts k3 hown hK hP 1 rfl rfl 3 (by decide) k4 (fun _ h9 => h9) rfl dX9_borrowByDraws_28 ?_
    refine cX_V (Cn := RX9) (n := 1) (As := [.int (nI nc)]) (rest := []) (wsn := uW G a (upd (upd i 8 (nI s1)) 8 (nI s2)) t n) C (c_X9_drawOf l G a (upd i 8 (nI s1)) s1 s2 cc nc (by omega) (by omega) (upd_at _ _ _) hs1l hs2 hcc) gX9_borrowByDraws_X9_drawOf rfl ⟨rfl, rfl⟩ hd_X9_drawOf ⟨(Nat.le_of_ble_eq_true rfl), (Nat.le_of_ble_eq_true rfl)⟩ hK hP hD hS [0] (by decide) rfl (vW_f.trans vW_f.symm) rfl (uW_f.trans uW_f.symm) (va_recv hK hP (ci := 9) (q0 := 0) rfl rfl) rfl hl.1 (by rw [show (t 3 : Int32) = nI nc from hT.1]; rfl) (Nat.le_of_ble_eq_true rfl) dX9_borrowByDraws_31 ⟨(Nat.le_of_ble_eq_true rfl), (Nat.le_of_ble_eq_true rfl)⟩ (fun H locs hP hD hS => ?_)
    refine lv_istore_n (lv' := [(2, .int (nI cc)), (1, .int (nI pp)), (0, .ref (a 0))]) hx hb dX9_borrowByDraws_34 rfl hl (by decide) rfl (fun ls hl => ?_)
    refine lv_aload_n hx hb dX9_borrowByDraws_35 rfl (lv_at hl 2 rfl) ?_
    refine lv_bipush (v := 100) hx hb dX9_borrowByDraws_36 (by decide) ?_
    refine cX_V (Cn := RX9) (n := 1) (As := [.int (nI 100)]) (rest := []) (wsn := uW G a (upd (upd (upd i 8 (nI s1)) 8 (nI s2)) 8 (nI s3)) t n) C (c_X9_drawOf l G a (upd (upd i 8 (nI s1)) 8 (nI s2)) s2 s3 kc 100 (by omega) (by omega) (upd_at _ _ _) hs2l hs3 hkc) gX9_borrowByDraws_X9_drawOf rfl ⟨rfl, rfl⟩ hd_X9_drawOf ⟨(Nat.le_of_ble_eq_true rfl), (Nat.le_of_ble_eq_true rfl)⟩ hK hP hD hS [0] (by decide) rfl (vW_f.trans vW_f.symm) rfl (uW_f.trans uW_f.symm) (va_recv hK hP (ci := 9) (q0 := 0) rfl rfl) rfl hl.1 rfl (Nat.le_of_ble_eq_true rfl) dX9_borrowByDraws_38 ⟨(Nat.le_of_ble_eq_true rfl), (Nat.le_of_ble_eq_true rfl)⟩ (fun H locs hP hD hS => ?_)
    refine lv_istore_n (lv' := [(3, .int (nI kc)), (2, .int (nI cc)), (1, .int (nI pp)), (0, .ref (a 0))]) hx hb dX9_borrowByDraws_41 rfl hl (by decide) rfl (fun ls hl => ?_)
    refine lv_aload_n hx hb dX9_borrowByDraws_42 rfl (lv_at hl 3 rfl) ?_
    refine va_get (D := G.1) (ci := 9) (v := .ref (a 1)) (C := RX9) (T := TX9) (N := 11) hx hb hts k1 hown hK hP 0 rfl rfl 1 (by decide) k0 (fun _ h9 => h9) rfl dX9_borrowByDraws_43 ?_
    refine lv_iload_n hx hb dX9_borrowByDraws_46 rfl (lv_at hl 2 rfl) ?_
    refine lv_iload_n hx hb dX9_borrowByDraws_47 rfl (lv_at hl 1 rfl) ?_
    refine cR_V (Cn := RX8) (n := 2) (As := [.int (nI pp), .int (nI cc)]) (rest := []) C (c_X8_hasBoth l G (a 1) (a 2) (a 3) (a 4) t nc np (nI pp) (nI cc) hT) gX9_borrowByDraws_X8_hasBoth rfl ⟨rfl, rfl⟩ hd_X8_hasBoth ⟨(Nat.le_of_ble_eq_true rfl), (Nat.le_of_ble_eq_true rfl)⟩ hK (hP.sub [1, 2, 3, 4] rfl) (va_recv hK hP (ci := 8) (q0 := 1) rfl rfl) rfl hl.1 rfl (Nat.le_of_ble_eq_true rfl) dX9_borrowByDraws_48 ⟨(Nat.le_of_ble_eq_true rfl), (Nat.le_of_ble_eq_true rfl)⟩ ?_
    refine b_if_eq (tgt := 77) hx hb dX9_borrowByDraws_51 (by decide) (fun cq2 => ?_) (fun cq2 => ?_)
    · exact absurd ⟨inB_of hT.2.1 (by omega) hd1, inB_of hT.1 (by omega) hd2⟩ cq2
    · skip
      refine lv_aload_n hx hb dX9_borrowByDraws_54 rfl (lv_at hl 3 rfl) ?_
      refine va_get (D := G.1) (ci := 9) (v := .ref (a 5)) (C := RX9) (T := TX9) (N := 11) hx hb hts k1 hown hK hP 0 rfl rfl 2 (by decide) k5 (fun _ h9 => h9) rfl dX9_borrowByDraws_55 ?_
      refine lv_iload_n hx hb dX9_borrowByDraws_58 rfl (lv_at hl 2 rfl) ?_
      refine lv_iload_n hx hb dX9_borrowByDraws_59 rfl (lv_at hl 1 rfl) ?_
      refine lv_iload_n hx hb dX9_borrowByDraws_60 rfl (lv_at hl 0 rfl) ?_
      refine cR_V (Cn := RX7) (n := 3) (As := [.int (nI pp), .int (nI cc), .int (nI kc)]) (rest := []) C (c_X7_mayBorrow l G (a 5) (a 6) (a 7) (a 8) (a 9) (a 1) (a 2) (a 3) (a 4) t n nc np pp cc (nI kc) hT (by omega) (by omega)) gX9_borrowByDraws_X7_mayBorrow rfl ⟨rfl, rfl⟩ hd_X7_mayBorrow ⟨(Nat.le_of_ble_eq_true rfl), (Nat.le_of_ble_eq_true rfl)⟩ hK (hP.sub [5, 6, 7, 8, 9, 1, 2, 3, 4] rfl) (va_recv hK hP (ci := 7) (q0 := 5) rfl rfl) rfl hl.1 rfl (Nat.le_of_ble_eq_true rfl) dX9_borrowByDraws_61 ⟨(Nat.le_of_ble_eq_true rfl), (Nat.le_of_ble_eq_true rfl)⟩ ?_
      refine b_if_eq (tgt := 77) hx hb dX9_borrowByDraws_64 (by decide) (fun cq3 => ?_) (fun cq3 => ?_)
      · skip
        have hma := cq3
        have hP : va_P G.1 vwCl (uW G a (upd i 8 (nI (dfS np sd))) t (dfN t nc np n sd)) H := by rw [show (upd i 8 (nI (dfS np sd))) = (upd (upd (upd i 8 (nI s1)) 8 (nI s2)) 8 (nI s3)) from by rw [hds, upd_upd, upd_upd], show (dfN t nc np n sd) = n from hdf.trans (if_neg (fun q => hma q.2))]; exact hP
        exact mX_vret hAe C hP hS dX9_borrowByDraws_77
      · skip
        have hma := cq3
        refine lv_aload_n hx hb dX9_borrowByDraws_67 rfl (lv_at hl 3 rfl) ?_
        refine va_get (D := G.1) (ci := 9) (v := .ref (a 5)) (C := RX9) (T := TX9) (N := 11) hx hb hts k1 hown hK hP 0 rfl rfl 2 (by decide) k5 (fun _ h9 => h9) rfl dX9_borrowByDraws_68 ?_
        refine lv_iload_n hx hb dX9_borrowByDraws_71 rfl (lv_at hl 2 rfl) ?_
        refine lv_iload_n hx hb dX9_borrowByDraws_72 rfl (lv_at hl 1 rfl) ?_
        refine lv_iload_n hx hb dX9_borrowByDraws_73 rfl (lv_at hl 0 rfl) ?_
        refine cX_V (Cn := RX7) (n := 3) (As := [.int (nI pp), .int (nI cc), .int (nI kc)]) (rest := []) (wsn := uW G a (upd (upd (upd i 8 (nI s1)) 8 (nI s2)) 8 (nI s3)) t (borF n pp cc (nI kc))) C (c_X7_lend l G (a 5) (a 6) (a 7) (a 8) (a 9) (a 1) (a 2) (a 3) (a 4) t n  pp cc (nI kc) (by omega) (by omega)) gX9_borrowByDraws_X7_lend rfl ⟨rfl, rfl⟩ hd_X7_lend ⟨(Nat.le_of_ble_eq_true rfl), (Nat.le_of_ble_eq_true rfl)⟩ hK hP hD hS [5, 6, 7, 8, 9, 1, 2, 3, 4] (by decide) rfl (sW_f.trans sW_f.symm) rfl (uW_f.trans uW_f.symm) (va_recv hK hP (ci := 7) (q0 := 5) rfl rfl) rfl hl.1 rfl (Nat.le_of_ble_eq_true rfl) dX9_borrowByDraws_74 ⟨(Nat.le_of_ble_eq_true rfl), (Nat.le_of_ble_eq_true rfl)⟩ (fun H locs hP hD hS => ?_)
        have hP : va_P G.1 vwCl (uW G a (upd i 8 (nI (dfS np sd))) t (dfN t nc np n sd)) H := by rw [show (upd i 8 (nI (dfS np sd))) = (upd (upd (upd i 8 (nI s1)) 8 (nI s2)) 8 (nI s3)) from by rw [hds, upd_upd, upd_upd], show (dfN t nc np n sd) = (borF n pp cc (nI kc)) from hdf.trans (df_yes hO (by omega) (by omega) hma)]; exact hP
        exact mX_vret hAe C hP hS dX9_borrowByDraws_77
  · skip
    have hnp0 : np = 0 := np_0 hT.2.1 (by omega) (by rw [cq1]; decide)
    have hP : va_P G.1 vwCl (uW G a (upd i 8 (nI (dfS np sd))) t (dfN t nc np n sd)) zs.heap := by rw [show (upd i 8 (nI (dfS np sd))) = i from by unfold dfS; rw [if_pos hnp0]; exact upd_self hsd, show (dfN t nc np n sd) = n from by unfold dfN; rw [if_pos hnp0]]; exact hP
    exact mX_vret hAe C hP hS dX9_borrowByDraws_10
