theorem hd_X10_drift : yX10_drift.cls = RX10 ∧ yX10_drift.cls ≠ "java/lang/invoke/MethodHandle" ∧ yX10_drift.cls ≠ "java/lang/invoke/VarHandle" ∧ (parseMethodDescriptor yX10_drift.desc).map (fun d => d.parameters.length) = some 1 := by decide +kernel
set_option maxRecDepth 100000 in
set_option maxHeartbeats 4000000 in
theorem c_X10_drift (l : Launch) (G : gG) (a : Nat → Nat) (i : Nat → Int32) (j : Nat → Int32) (t : Nat → Int32) (r : Nat → Int32) (n : Nat → Int32) (d : Nat → Int32) (ps : Nat → Int32) (im : Nat → Int32) (kp : Nat → Int32) (tx : Nat → Int32) (cd : Nat → Int32) (bk : Nat → Int32) (py : Nat → Int32) (pt : Nat → Int32) (mt : Nat → Int32) (nc : Nat) (np : Nat) (un : Nat) (sd : Nat) (x : Int32) (hT : tw t nc np) (hun : i 5 = nI un) (hul : un ≤ 30) (hsd : i 8 = nI sd) (hs : sd < 2147483648) (hcp : 0 < np → 0 < nc) : mX l yX10_drift wsX10_drift ({ frames := 5, cells := 0, slots := 0, locals := 111 }) G (mW G a i j t r n d ps im kp tx cd bk py pt mt) (mW G a (if rfR t n x = 0 then upd (upd i 5 (nI (unQ un (cl x)))) 8 (nI (sD np sd (cl x))) else i) j t r (if rfR t n x = 0 then nD t nc np n sd (cl x) else n) d (if rfR t n x = 0 then psD t nc np n ps sd un (cl x) else ps) im kp tx cd bk py pt mt) [.ref (a 0), .int x] (.returned (some (.int (drR t n nc np sd x)))) := by
  refine mX.of (cc := cX10_drift) (maxL := 7) (ret := (some .int)) (by decide) rfl (Nat.le_of_ble_eq_true rfl) ?_
  intro zp ze zs zm zb zt zc ls A hAe C hP hK hD hS hl
  obtain ⟨hx, hb, hr, hml, hown, hts, hlk⟩ := id C
  have hl : lv_has ls 7 [(0, .ref (a 0)), (1, .int x)] := hl
  have hT2 := hT.2.2
  have k0 := hts (.fieldLink RX10 7 "DebtDowryModel" "town" "[I") (by decide +kernel)
  have k1 := (fun w h => by revert w; decide +kernel : ∀ w ∈ wsX100, w ∈ wsX10_drift)
  have k2 := hts (.fieldLink RX10 16 "DebtDowryModel" "now" "[I") (by decide +kernel)
  refine lv_aload_n hx hb dX10_drift_0 rfl (lv_at hl 0 rfl) ?_
  refine lv_iload_n hx hb dX10_drift_1 rfl (lv_at hl 1 rfl) ?_
  refine cR_V (Cn := RX10) (n := 1) (As := [.int x]) (rest := []) C (c_X10_refuses l G a i j t r n d ps im kp tx cd bk py pt mt  x ) gX10_drift_X10_refuses rfl ⟨rfl, rfl⟩ hd_X10_refuses ⟨(Nat.le_of_ble_eq_true rfl), (Nat.le_of_ble_eq_true rfl)⟩ hK hP (va_recv hK hP (ci := 10) (q0 := 0) rfl rfl) rfl hl.1 rfl (Nat.le_of_ble_eq_true rfl) dX10_drift_2 ⟨(Nat.le_of_ble_eq_true rfl), (Nat.le_of_ble_eq_true rfl)⟩ ?_
  refine lv_istore_n (lv' := [(2, .int (rfR t n x)), (0, .ref (a 0)), (1, .int x)]) hx hb dX10_drift_5 rfl hl (by decide) rfl (fun ls hl => ?_)
  refine lv_iload_n hx hb dX10_drift_6 rfl (lv_at hl 0 rfl) ?_
  refine lv_if_eq (tgt := 12) hx hb dX10_drift_7 (by decide) (fun cq1 => ?_) (fun cq1 => ?_)
  · skip
    obtain ⟨kk, hkk1, hkk2, rfl⟩ := inB_rng (a := 1) (b := 20) rfl rfl (by decide) (by decide) (rfR_0 cq1)
    have hcl_kk := cl_nI (n := kk) (by omega)
    refine lv_iconst (v := 0) hx hb dX10_drift_12 (by decide) ?_
    refine lv_istore_n (lv' := [(3, .int 0), (2, .int (rfR t n (nI kk))), (0, .ref (a 0)), (1, .int (nI kk))]) hx hb dX10_drift_13 rfl hl (by decide) rfl (fun ls hl => ?_)
    have hi0 : upd (upd i 5 (nI (unQ un 0))) 8 (nI (sD np sd 0)) = i := by rw [show upd i 5 (nI (unQ un 0)) = i from upd_self hun]; exact upd_self hsd
    refine wl_X (B := kk) (i0 := 0) (Inv := fun i1 H locs ls => va_P G.1 vwCl (mW G a (upd (upd i 5 (nI (unQ un i1))) 8 (nI (sD np sd i1))) j t r (nD t nc np n sd i1) d (psD t nc np n ps sd un i1) im kp tx cd bk py pt mt) H ∧ va_D A (mW G a (upd (upd i 5 (nI (unQ un i1))) 8 (nI (sD np sd i1))) j t r (nD t nc np n sd i1) d (psD t nc np n ps sd un i1) im kp tx cd bk py pt mt) ∧ va_S A zs.heap H locs ∧ lv_has ls 7 [(0, .ref (a 0)), (1, .int (nI kk)), (3, .int (nI i1))] ∧ True) (by omega) ⟨by rw [hi0]; exact hP, by rw [hi0]; exact hD, hS, lv_sub hl [2, 3, 0] (rfl), trivial⟩ ?_
    rintro i1 H locs ls hle14 ⟨hP, hD, hS, hl, -⟩ ih14
    obtain ⟨s0, hs0⟩ : ∃ z, hid (z = sD np sd i1) := ⟨_, rfl⟩
    rw [← show s0 = sD np sd i1 from hs0] at hP hD
    have hs0l : s0 < 2147483648 := by rw [show s0 = sD np sd i1 from hs0]; exact sD_lt hs i1
    refine lv_iload_n hx hb dX10_drift_14 rfl (lv_at hl 2 rfl) ?_
    refine lv_iload_n hx hb dX10_drift_15 rfl (lv_at hl 1 rfl) ?_
    refine n_icmp_ge (tgt := 106) hx hb dX10_drift_16 (by decide) (u := i1) (v := kk) rfl rfl (by omega) (by omega) (fun cq2 => ?_) (fun cq2 => ?_)
    · skip
      rw [show s0 = sD np sd i1 from hs0] at hP hD
      obtain rfl : kk = i1 := by omega
      refine lv_aload_n hx hb dX10_drift_106 rfl (lv_at hl 0 rfl) ?_
      refine cR_V (Cn := RX10) (n := 0) (As := []) (rest := []) C (c_X10_owedInAll l G a (upd (upd i 5 (nI (unQ un kk))) 8 (nI (sD np sd kk))) j t r (nD t nc np n sd kk) d (psD t nc np n ps sd un kk) im kp tx cd bk py pt mt   ) gX10_drift_X10_owedInAll rfl ⟨rfl, rfl⟩ hd_X10_owedInAll ⟨(Nat.le_of_ble_eq_true rfl), (Nat.le_of_ble_eq_true rfl)⟩ hK hP (va_recv hK hP (ci := 10) (q0 := 0) rfl rfl) rfl hl.1 rfl (Nat.le_of_ble_eq_true rfl) dX10_drift_107 ⟨(Nat.le_of_ble_eq_true rfl), (Nat.le_of_ble_eq_true rfl)⟩ ?_
      have hP : va_P G.1 vwCl (mW G a (if rfR t n (nI kk) = 0 then upd (upd i 5 (nI (unQ un (cl (nI kk))))) 8 (nI (sD np sd (cl (nI kk)))) else i) j t r (if rfR t n (nI kk) = 0 then nD t nc np n sd (cl (nI kk)) else n) d (if rfR t n (nI kk) = 0 then psD t nc np n ps sd un (cl (nI kk)) else ps) im kp tx cd bk py pt mt) H := by rw [show (if rfR t n (nI kk) = 0 then upd (upd i 5 (nI (unQ un (cl (nI kk))))) 8 (nI (sD np sd (cl (nI kk)))) else i) = (upd (upd i 5 (nI (unQ un kk))) 8 (nI (sD np sd kk))) from by rw [if_pos cq1, hcl_kk], show (if rfR t n (nI kk) = 0 then nD t nc np n sd (cl (nI kk)) else n) = (nD t nc np n sd kk) from by rw [if_pos cq1, hcl_kk], show (if rfR t n (nI kk) = 0 then psD t nc np n ps sd un (cl (nI kk)) else ps) = (psD t nc np n ps sd un kk) from by rw [if_pos cq1, hcl_kk]]; exact hP
      exact mX_iret hAe C hP hS dX10_drift_110 (by unfold drR; rw [if_neg (not_not_intro cq1), hcl_kk])
    · skip
      refine lv_aload_n hx hb dX10_drift_19 rfl (lv_at hl 0 rfl) ?_
      refine cX_V (Cn := RX10) (n := 0) (As := []) (rest := []) (wsn := mW G a (rmI (upd (upd i 5 (nI (unQ un i1))) 8 (nI s0)) (unQ un i1)) j t r (nD t nc np n sd i1) d (rmP (nD t nc np n sd i1) (psD t nc np n ps sd un i1) (unQ un i1)) im kp tx cd bk py pt mt) C (c_X10_remember l G a (upd (upd i 5 (nI (unQ un i1))) 8 (nI s0)) j t r (nD t nc np n sd i1) d (psD t nc np n ps sd un i1) im kp tx cd bk py pt mt (unQ un i1)  ((upd_ne (by decide)).trans (upd_at _ _ _)) (unQ_le hul i1)) gX10_drift_X10_remember rfl ⟨rfl, rfl⟩ hd_X10_remember ⟨(Nat.le_of_ble_eq_true rfl), (Nat.le_of_ble_eq_true rfl)⟩ hK hP hD hS [0, 1, 2, 3, 4, 5, 6, 7, 8, 9, 10, 11, 12, 13] (by decide) rfl (mW_f.trans mW_f.symm) rfl (mW_f.trans mW_f.symm) (va_recv hK hP (ci := 10) (q0 := 0) rfl rfl) rfl hl.1 rfl (Nat.le_of_ble_eq_true rfl) dX10_drift_20 ⟨(Nat.le_of_ble_eq_true rfl), (Nat.le_of_ble_eq_true rfl)⟩ (fun H locs hP hD hS => ?_)
      refine lv_aload_n hx hb dX10_drift_23 rfl (lv_at hl 0 rfl) ?_
      refine va_get (D := G.1) (ci := 10) (v := .ref (a 1)) (C := RX10) (T := TX10) (N := 25) hx hb hts k1 hown hK hP 0 rfl rfl 0 (by decide) k0 (fun _ h9 => h9) rfl dX10_drift_24 ?_
      refine lv_iconst (v := 4) hx hb dX10_drift_27 (by decide) ?_
      refine n_iald hx hb hK hP 1 0 rfl rfl (j := 4) rfl (by decide) (by decide) dX10_drift_28 ?_
      refine lv_if_le (tgt := 92) hx hb dX10_drift_29 (by decide) (fun cq3 => ?_) (fun cq3 => ?_)
      · skip
        have hnp := np_0 hT.2.1 (by omega) cq3
        refine lv_aload_n hx hb dX10_drift_92 rfl (lv_at hl 0 rfl) ?_
        refine lv_aload_n hx hb dX10_drift_93 rfl (lv_at hl 0 rfl) ?_
        refine va_get (D := G.1) (ci := 10) (v := .ref (a 3)) (C := RX10) (T := TX10) (N := 25) hx hb hts k1 hown hK hP 0 rfl rfl 2 (by decide) k2 (fun _ h9 => h9) rfl dX10_drift_94 ?_
        refine cX_V (Cn := RX10) (n := 1) (As := [.ref (a 3)]) (rest := []) (wsn := mW G a (rmI (upd (upd i 5 (nI (unQ un i1))) 8 (nI s0)) (unQ un i1)) j t r (qgF t (nD t nc np n sd i1) nc np) d (rmP (nD t nc np n sd i1) (psD t nc np n ps sd un i1) (unQ un i1)) im kp tx cd bk py pt mt) C (c_X10_quarterGoes_n l G a (rmI (upd (upd i 5 (nI (unQ un i1))) 8 (nI s0)) (unQ un i1)) j t r (nD t nc np n sd i1) d (rmP (nD t nc np n sd i1) (psD t nc np n ps sd un i1) (unQ un i1)) im kp tx cd bk py pt mt nc np  hT) gX10_drift_X10_quarterGoes rfl ⟨rfl, rfl⟩ hd_X10_quarterGoes ⟨(Nat.le_of_ble_eq_true rfl), (Nat.le_of_ble_eq_true rfl)⟩ hK hP hD hS [0, 1, 2, 3, 4, 5, 6, 7, 8, 9, 10, 11, 12, 13] (by decide) rfl (mW_f.trans mW_f.symm) rfl (mW_f.trans mW_f.symm) (va_recv hK hP (ci := 10) (q0 := 0) rfl rfl) rfl hl.1 rfl (Nat.le_of_ble_eq_true rfl) dX10_drift_97 ⟨(Nat.le_of_ble_eq_true rfl), (Nat.le_of_ble_eq_true rfl)⟩ (fun H locs hP hD hS => ?_)
        refine lv_iinc (v := nI (i1 + 1)) (lv' := [(3, .int (nI (i1 + 1))), (0, .ref (a 0)), (1, .int (nI kk))]) hx hb dX10_drift_100 hl (k := 2) rfl (by rw [show (nI i1 : Int32) = nI i1 from rfl]; exact nI_add _ 1) (by decide) rfl (fun ls hl => ?_)
        refine lv_goto (tgt := 14) hx hb dX10_drift_103 (by decide) ?_
        have e4 : qgF t (nD t nc np n sd i1) nc np = nD t nc np n sd (i1 + 1) := nD_s _ _ _ _ _ _ (by first | (rw [dfN_x (t := t) (n := nD t nc np n sd i1) hs0 hs1 hs2 hpp hcc hkc, if_neg hnp0]; first | exact (if_pos (And.intro hk0 hma)).symm | exact (if_neg (fun q => hk0 q.1)).symm | exact (if_neg (fun q => hma q.2)).symm) | (unfold dfN; rw [if_pos hnp]))
        have e5 : rmP (nD t nc np n sd i1) (psD t nc np n ps sd un i1) (unQ un i1) = psD t nc np n ps sd un (i1 + 1) := psD_s _ _ _ _ _ _ _ _
        have e6 : rmI (upd (upd i 5 (nI (unQ un i1))) 8 (nI s0)) (unQ un i1) = upd (upd i 5 (nI (unQ un (i1 + 1)))) 8 (nI (sD np sd (i1 + 1))) := by first | (rw [sD_x hnp0 hs0 hs1 hs2 hs3]; exact drI_x _ _ _ _ _ _ _) | (rw [sD_0 hnp hs0]; exact drI_x0 _ _ _ _)
        rw [e4, e5, e6] at hP hD
        exact ih14 _ _ _ (by omega) ⟨hP, hD, hS, lv_sub hl [1, 2, 0] (rfl), trivial⟩
      · skip
        have hnp := np_1 hT.2.1 cq3
        have hnc := hcp hnp
        obtain ⟨s1, hs1⟩ : ∃ z, hid (z = nxtN s0) := ⟨_, rfl⟩
        obtain ⟨s2, hs2⟩ : ∃ z, hid (z = nxtN s1) := ⟨_, rfl⟩
        obtain ⟨s3, hs3⟩ : ∃ z, hid (z = nxtN s2) := ⟨_, rfl⟩
        obtain ⟨pp, hpp⟩ : ∃ z, hid (z = drN s0 np) := ⟨_, rfl⟩
        obtain ⟨cc, hcc⟩ : ∃ z, hid (z = drN s1 nc) := ⟨_, rfl⟩
        obtain ⟨kc, hkc⟩ : ∃ z, hid (z = drN s2 100) := ⟨_, rfl⟩
        have hs1l : s1 < 2147483648 := by rw [show s1 = nxtN s0 from hs1]; exact nxtN_lt _
        have hs2l : s2 < 2147483648 := by rw [show s2 = nxtN s1 from hs2]; exact nxtN_lt _
        have hd1 : pp < np := by rw [show pp = drN s0 np from hpp]; exact drN_lt hnp
        have hd2 : cc < nc := by rw [show cc = drN s1 nc from hcc]; exact drN_lt hnc
        have hd3 : kc < 100 := by rw [show kc = drN s2 100 from hkc]; exact drN_lt (by decide)
        have hnp0 : ¬ np = 0 := by omega
        refine lv_aload_n hx hb dX10_drift_32 rfl (lv_at hl 0 rfl) ?_
        refine lv_aload_n hx hb dX10_drift_33 rfl (lv_at hl 0 rfl) ?_
        refine va_get (D := G.1) (ci := 10) (v := .ref (a 1)) (C := RX10) (T := TX10) (N := 25) hx hb hts k1 hown hK hP 0 rfl rfl 0 (by decide) k0 (fun _ h9 => h9) rfl dX10_drift_34 ?_
        refine lv_iconst (v := 4) hx hb dX10_drift_37 (by decide) ?_
        refine n_iald hx hb hK hP 1 0 rfl rfl (j := 4) rfl (by decide) (by decide) dX10_drift_38 ?_
        refine cX_V (Cn := RX10) (n := 1) (As := [.int (nI np)]) (rest := []) (wsn := mW G a (upd (rmI (upd (upd i 5 (nI (unQ un i1))) 8 (nI s0)) (unQ un i1)) 8 (nI s1)) j t r (nD t nc np n sd i1) d (rmP (nD t nc np n sd i1) (psD t nc np n ps sd un i1) (unQ un i1)) im kp tx cd bk py pt mt) C (c_X10_draw_o l G a (rmI (upd (upd i 5 (nI (unQ un i1))) 8 (nI s0)) (unQ un i1)) j t r (nD t nc np n sd i1) d (rmP (nD t nc np n sd i1) (psD t nc np n ps sd un i1) (unQ un i1)) im kp tx cd bk py pt mt s0 s1 pp np (by omega) (by omega) (ri8 _ _ _ _) hs0l hs1 hpp) gX10_drift_X10_draw rfl ⟨rfl, rfl⟩ hd_X10_draw ⟨(Nat.le_of_ble_eq_true rfl), (Nat.le_of_ble_eq_true rfl)⟩ hK hP hD hS [0, 1, 2, 3, 4, 5, 6, 7, 8, 9, 10, 11, 12, 13] (by decide) rfl (mW_f.trans mW_f.symm) rfl (mW_f.trans mW_f.symm) (va_recv hK hP (ci := 10) (q0 := 0) rfl rfl) rfl hl.1 (by rw [show (t 4 : Int32) = nI np from hT.2.1]; rfl) (Nat.le_of_ble_eq_true rfl) dX10_drift_39 ⟨(Nat.le_of_ble_eq_true rfl), (Nat.le_of_ble_eq_true rfl)⟩ (fun H locs hP hD hS => ?_)
        refine lv_istore (lv' := [(4, .int (nI pp)), (0, .ref (a 0)), (1, .int (nI kk)), (3, .int (nI i1))]) hx hb dX10_drift_42 hl (by decide) rfl (fun ls hl => ?_)
        refine lv_aload_n hx hb dX10_drift_44 rfl (lv_at hl 1 rfl) ?_
        refine lv_aload_n hx hb dX10_drift_45 rfl (lv_at hl 1 rfl) ?_
        refine va_get (D := G.1) (ci := 10) (v := .ref (a 1)) (C := RX10) (T := TX10) (N := 25) hx hb hts k1 hown hK hP 0 rfl rfl 0 (by decide) k0 (fun _ h9 => h9) rfl dX10_drift_46 ?_
        refine lv_iconst (v := 3) hx hb dX10_drift_49 (by decide) ?_
        refine n_iald hx hb hK hP 1 0 rfl rfl (j := 3) rfl (by decide) (by decide) dX10_drift_50 ?_
        refine cX_V (Cn := RX10) (n := 1) (As := [.int (nI nc)]) (rest := []) (wsn := mW G a (upd (upd (rmI (upd (upd i 5 (nI (unQ un i1))) 8 (nI s0)) (unQ un i1)) 8 (nI s1)) 8 (nI s2)) j t r (nD t nc np n sd i1) d (rmP (nD t nc np n sd i1) (psD t nc np n ps sd un i1) (unQ un i1)) im kp tx cd bk py pt mt) C (c_X10_draw_o l G a (upd (rmI (upd (upd i 5 (nI (unQ un i1))) 8 (nI s0)) (unQ un i1)) 8 (nI s1)) j t r (nD t nc np n sd i1) d (rmP (nD t nc np n sd i1) (psD t nc np n ps sd un i1) (unQ un i1)) im kp tx cd bk py pt mt s1 s2 cc nc (by omega) (by omega) (upd_at _ _ _) hs1l hs2 hcc) gX10_drift_X10_draw rfl ⟨rfl, rfl⟩ hd_X10_draw ⟨(Nat.le_of_ble_eq_true rfl), (Nat.le_of_ble_eq_true rfl)⟩ hK hP hD hS [0, 1, 2, 3, 4, 5, 6, 7, 8, 9, 10, 11, 12, 13] (by decide) rfl (mW_f.trans mW_f.symm) rfl (mW_f.trans mW_f.symm) (va_recv hK hP (ci := 10) (q0 := 0) rfl rfl) rfl hl.1 (by rw [show (t 3 : Int32) = nI nc from hT.1]; rfl) (Nat.le_of_ble_eq_true rfl) dX10_drift_51 ⟨(Nat.le_of_ble_eq_true rfl), (Nat.le_of_ble_eq_true rfl)⟩ (fun H locs hP hD hS => ?_)
        refine lv_istore (lv' := [(5, .int (nI cc)), (4, .int (nI pp)), (0, .ref (a 0)), (1, .int (nI kk)), (3, .int (nI i1))]) hx hb dX10_drift_54 hl (by decide) rfl (fun ls hl => ?_)
        refine lv_aload_n hx hb dX10_drift_56 rfl (lv_at hl 2 rfl) ?_
        refine lv_bipush (v := 100) hx hb dX10_drift_57 (by decide) ?_
        refine cX_V (Cn := RX10) (n := 1) (As := [.int (nI 100)]) (rest := []) (wsn := mW G a (upd (upd (upd (rmI (upd (upd i 5 (nI (unQ un i1))) 8 (nI s0)) (unQ un i1)) 8 (nI s1)) 8 (nI s2)) 8 (nI s3)) j t r (nD t nc np n sd i1) d (rmP (nD t nc np n sd i1) (psD t nc np n ps sd un i1) (unQ un i1)) im kp tx cd bk py pt mt) C (c_X10_draw_o l G a (upd (upd (rmI (upd (upd i 5 (nI (unQ un i1))) 8 (nI s0)) (unQ un i1)) 8 (nI s1)) 8 (nI s2)) j t r (nD t nc np n sd i1) d (rmP (nD t nc np n sd i1) (psD t nc np n ps sd un i1) (unQ un i1)) im kp tx cd bk py pt mt s2 s3 kc 100 (by omega) (by omega) (upd_at _ _ _) hs2l hs3 hkc) gX10_drift_X10_draw rfl ⟨rfl, rfl⟩ hd_X10_draw ⟨(Nat.le_of_ble_eq_true rfl), (Nat.le_of_ble_eq_true rfl)⟩ hK hP hD hS [0, 1, 2, 3, 4, 5, 6, 7, 8, 9, 10, 11, 12, 13] (by decide) rfl (mW_f.trans mW_f.symm) rfl (mW_f.trans mW_f.symm) (va_recv hK hP (ci := 10) (q0 := 0) rfl rfl) rfl hl.1 rfl (Nat.le_of_ble_eq_true rfl) dX10_drift_59 ⟨(Nat.le_of_ble_eq_true rfl), (Nat.le_of_ble_eq_true rfl)⟩ (fun H locs hP hD hS => ?_)
        refine lv_istore (lv' := [(6, .int (nI kc)), (5, .int (nI cc)), (4, .int (nI pp)), (0, .ref (a 0)), (1, .int (nI kk)), (3, .int (nI i1))]) hx hb dX10_drift_62 hl (by decide) rfl (fun ls hl => ?_)
        refine lv_iload hx hb dX10_drift_64 (lv_at hl 0 rfl) ?_
        refine lv_if_le (tgt := 92) hx hb dX10_drift_66 (by decide) (fun cq7 => ?_) (fun cq7 => ?_)
        · skip
          have hk0 : ¬ 0 < kc := by have q := np_0 rfl (by omega) cq7; omega
          refine lv_aload_n hx hb dX10_drift_92 rfl (lv_at hl 3 rfl) ?_
          refine lv_aload_n hx hb dX10_drift_93 rfl (lv_at hl 3 rfl) ?_
          refine va_get (D := G.1) (ci := 10) (v := .ref (a 3)) (C := RX10) (T := TX10) (N := 25) hx hb hts k1 hown hK hP 0 rfl rfl 2 (by decide) k2 (fun _ h9 => h9) rfl dX10_drift_94 ?_
          refine cX_V (Cn := RX10) (n := 1) (As := [.ref (a 3)]) (rest := []) (wsn := mW G a (upd (upd (upd (rmI (upd (upd i 5 (nI (unQ un i1))) 8 (nI s0)) (unQ un i1)) 8 (nI s1)) 8 (nI s2)) 8 (nI s3)) j t r (qgF t (nD t nc np n sd i1) nc np) d (rmP (nD t nc np n sd i1) (psD t nc np n ps sd un i1) (unQ un i1)) im kp tx cd bk py pt mt) C (c_X10_quarterGoes_n l G a (upd (upd (upd (rmI (upd (upd i 5 (nI (unQ un i1))) 8 (nI s0)) (unQ un i1)) 8 (nI s1)) 8 (nI s2)) 8 (nI s3)) j t r (nD t nc np n sd i1) d (rmP (nD t nc np n sd i1) (psD t nc np n ps sd un i1) (unQ un i1)) im kp tx cd bk py pt mt nc np  hT) gX10_drift_X10_quarterGoes rfl ⟨rfl, rfl⟩ hd_X10_quarterGoes ⟨(Nat.le_of_ble_eq_true rfl), (Nat.le_of_ble_eq_true rfl)⟩ hK hP hD hS [0, 1, 2, 3, 4, 5, 6, 7, 8, 9, 10, 11, 12, 13] (by decide) rfl (mW_f.trans mW_f.symm) rfl (mW_f.trans mW_f.symm) (va_recv hK hP (ci := 10) (q0 := 0) rfl rfl) rfl hl.1 rfl (Nat.le_of_ble_eq_true rfl) dX10_drift_97 ⟨(Nat.le_of_ble_eq_true rfl), (Nat.le_of_ble_eq_true rfl)⟩ (fun H locs hP hD hS => ?_)
          refine lv_iinc (v := nI (i1 + 1)) (lv' := [(3, .int (nI (i1 + 1))), (6, .int (nI kc)), (5, .int (nI cc)), (4, .int (nI pp)), (0, .ref (a 0)), (1, .int (nI kk))]) hx hb dX10_drift_100 hl (k := 5) rfl (by rw [show (nI i1 : Int32) = nI i1 from rfl]; exact nI_add _ 1) (by decide) rfl (fun ls hl => ?_)
          refine lv_goto (tgt := 14) hx hb dX10_drift_103 (by decide) ?_
          have e8 : qgF t (nD t nc np n sd i1) nc np = nD t nc np n sd (i1 + 1) := nD_s _ _ _ _ _ _ (by first | (rw [dfN_x (t := t) (n := nD t nc np n sd i1) hs0 hs1 hs2 hpp hcc hkc, if_neg hnp0]; first | exact (if_pos (And.intro hk0 hma)).symm | exact (if_neg (fun q => hk0 q.1)).symm | exact (if_neg (fun q => hma q.2)).symm) | (unfold dfN; rw [if_pos hnp]))
          have e9 : rmP (nD t nc np n sd i1) (psD t nc np n ps sd un i1) (unQ un i1) = psD t nc np n ps sd un (i1 + 1) := psD_s _ _ _ _ _ _ _ _
          have e10 : upd (upd (upd (rmI (upd (upd i 5 (nI (unQ un i1))) 8 (nI s0)) (unQ un i1)) 8 (nI s1)) 8 (nI s2)) 8 (nI s3) = upd (upd i 5 (nI (unQ un (i1 + 1)))) 8 (nI (sD np sd (i1 + 1))) := by first | (rw [sD_x hnp0 hs0 hs1 hs2 hs3]; exact drI_x _ _ _ _ _ _ _) | (rw [sD_0 hnp hs0]; exact drI_x0 _ _ _ _)
          rw [e8, e9, e10] at hP hD
          exact ih14 _ _ _ (by omega) ⟨hP, hD, hS, lv_sub hl [4, 5, 0] (rfl), trivial⟩
        · skip
          have hk0 := np_1 rfl cq7
          refine lv_aload_n hx hb dX10_drift_69 rfl (lv_at hl 3 rfl) ?_
          refine lv_iload hx hb dX10_drift_70 (lv_at hl 2 rfl) ?_
          refine lv_iload hx hb dX10_drift_72 (lv_at hl 1 rfl) ?_
          refine lv_iload hx hb dX10_drift_74 (lv_at hl 0 rfl) ?_
          refine cR_V (Cn := RX10) (n := 3) (As := [.int (nI pp), .int (nI cc), .int (nI kc)]) (rest := []) C (c_X10_mayBorrow l G a (upd (upd (upd (rmI (upd (upd i 5 (nI (unQ un i1))) 8 (nI s0)) (unQ un i1)) 8 (nI s1)) 8 (nI s2)) 8 (nI s3)) j t r (nD t nc np n sd i1) d (rmP (nD t nc np n sd i1) (psD t nc np n ps sd un i1) (unQ un i1)) im kp tx cd bk py pt mt nc np pp cc (nI kc) hT (by omega) (by omega)) gX10_drift_X10_mayBorrow rfl ⟨rfl, rfl⟩ hd_X10_mayBorrow ⟨(Nat.le_of_ble_eq_true rfl), (Nat.le_of_ble_eq_true rfl)⟩ hK hP (va_recv hK hP (ci := 10) (q0 := 0) rfl rfl) rfl hl.1 rfl (Nat.le_of_ble_eq_true rfl) dX10_drift_76 ⟨(Nat.le_of_ble_eq_true rfl), (Nat.le_of_ble_eq_true rfl)⟩ ?_
          refine b_if_eq (tgt := 92) hx hb dX10_drift_79 (by decide) (fun cq11 => ?_) (fun cq11 => ?_)
          · skip
            have hma := cq11
            refine lv_aload_n hx hb dX10_drift_92 rfl (lv_at hl 3 rfl) ?_
            refine lv_aload_n hx hb dX10_drift_93 rfl (lv_at hl 3 rfl) ?_
            refine va_get (D := G.1) (ci := 10) (v := .ref (a 3)) (C := RX10) (T := TX10) (N := 25) hx hb hts k1 hown hK hP 0 rfl rfl 2 (by decide) k2 (fun _ h9 => h9) rfl dX10_drift_94 ?_
            refine cX_V (Cn := RX10) (n := 1) (As := [.ref (a 3)]) (rest := []) (wsn := mW G a (upd (upd (upd (rmI (upd (upd i 5 (nI (unQ un i1))) 8 (nI s0)) (unQ un i1)) 8 (nI s1)) 8 (nI s2)) 8 (nI s3)) j t r (qgF t (nD t nc np n sd i1) nc np) d (rmP (nD t nc np n sd i1) (psD t nc np n ps sd un i1) (unQ un i1)) im kp tx cd bk py pt mt) C (c_X10_quarterGoes_n l G a (upd (upd (upd (rmI (upd (upd i 5 (nI (unQ un i1))) 8 (nI s0)) (unQ un i1)) 8 (nI s1)) 8 (nI s2)) 8 (nI s3)) j t r (nD t nc np n sd i1) d (rmP (nD t nc np n sd i1) (psD t nc np n ps sd un i1) (unQ un i1)) im kp tx cd bk py pt mt nc np  hT) gX10_drift_X10_quarterGoes rfl ⟨rfl, rfl⟩ hd_X10_quarterGoes ⟨(Nat.le_of_ble_eq_true rfl), (Nat.le_of_ble_eq_true rfl)⟩ hK hP hD hS [0, 1, 2, 3, 4, 5, 6, 7, 8, 9, 10, 11, 12, 13] (by decide) rfl (mW_f.trans mW_f.symm) rfl (mW_f.trans mW_f.symm) (va_recv hK hP (ci := 10) (q0 := 0) rfl rfl) rfl hl.1 rfl (Nat.le_of_ble_eq_true rfl) dX10_drift_97 ⟨(Nat.le_of_ble_eq_true rfl), (Nat.le_of_ble_eq_true rfl)⟩ (fun H locs hP hD hS => ?_)
            refine lv_iinc (v := nI (i1 + 1)) (lv' := [(3, .int (nI (i1 + 1))), (6, .int (nI kc)), (5, .int (nI cc)), (4, .int (nI pp)), (0, .ref (a 0)), (1, .int (nI kk))]) hx hb dX10_drift_100 hl (k := 5) rfl (by rw [show (nI i1 : Int32) = nI i1 from rfl]; exact nI_add _ 1) (by decide) rfl (fun ls hl => ?_)
            refine lv_goto (tgt := 14) hx hb dX10_drift_103 (by decide) ?_
            have e12 : qgF t (nD t nc np n sd i1) nc np = nD t nc np n sd (i1 + 1) := nD_s _ _ _ _ _ _ (by first | (rw [dfN_x (t := t) (n := nD t nc np n sd i1) hs0 hs1 hs2 hpp hcc hkc, if_neg hnp0]; first | exact (if_pos (And.intro hk0 hma)).symm | exact (if_neg (fun q => hk0 q.1)).symm | exact (if_neg (fun q => hma q.2)).symm) | (unfold dfN; rw [if_pos hnp]))
            have e13 : rmP (nD t nc np n sd i1) (psD t nc np n ps sd un i1) (unQ un i1) = psD t nc np n ps sd un (i1 + 1) := psD_s _ _ _ _ _ _ _ _
            have e14 : upd (upd (upd (rmI (upd (upd i 5 (nI (unQ un i1))) 8 (nI s0)) (unQ un i1)) 8 (nI s1)) 8 (nI s2)) 8 (nI s3) = upd (upd i 5 (nI (unQ un (i1 + 1)))) 8 (nI (sD np sd (i1 + 1))) := by first | (rw [sD_x hnp0 hs0 hs1 hs2 hs3]; exact drI_x _ _ _ _ _ _ _) | (rw [sD_0 hnp hs0]; exact drI_x0 _ _ _ _)
            rw [e12, e13, e14] at hP hD
            exact ih14 _ _ _ (by omega) ⟨hP, hD, hS, lv_sub hl [4, 5, 0] (rfl), trivial⟩
          · skip
            have hma := cq11
            refine lv_aload_n hx hb dX10_drift_82 rfl (lv_at hl 3 rfl) ?_
            refine lv_iload hx hb dX10_drift_83 (lv_at hl 2 rfl) ?_
            refine lv_iload hx hb dX10_drift_85 (lv_at hl 1 rfl) ?_
            refine lv_iload hx hb dX10_drift_87 (lv_at hl 0 rfl) ?_
            refine cX_V (Cn := RX10) (n := 3) (As := [.int (nI pp), .int (nI cc), .int (nI kc)]) (rest := []) (wsn := mW G a (upd (upd (upd (rmI (upd (upd i 5 (nI (unQ un i1))) 8 (nI s0)) (unQ un i1)) 8 (nI s1)) 8 (nI s2)) 8 (nI s3)) j t r (borF (nD t nc np n sd i1) pp cc (nI kc)) d (rmP (nD t nc np n sd i1) (psD t nc np n ps sd un i1) (unQ un i1)) im kp tx cd bk py pt mt) C (c_X10_borrows l G a (upd (upd (upd (rmI (upd (upd i 5 (nI (unQ un i1))) 8 (nI s0)) (unQ un i1)) 8 (nI s1)) 8 (nI s2)) 8 (nI s3)) j t r (nD t nc np n sd i1) d (rmP (nD t nc np n sd i1) (psD t nc np n ps sd un i1) (unQ un i1)) im kp tx cd bk py pt mt  pp cc (nI kc) (by omega) (by omega)) gX10_drift_X10_borrows rfl ⟨rfl, rfl⟩ hd_X10_borrows ⟨(Nat.le_of_ble_eq_true rfl), (Nat.le_of_ble_eq_true rfl)⟩ hK hP hD hS [0, 1, 2, 3, 4, 5, 6, 7, 8, 9, 10, 11, 12, 13] (by decide) rfl (mW_f.trans mW_f.symm) rfl (mW_f.trans mW_f.symm) (va_recv hK hP (ci := 10) (q0 := 0) rfl rfl) rfl hl.1 rfl (Nat.le_of_ble_eq_true rfl) dX10_drift_89 ⟨(Nat.le_of_ble_eq_true rfl), (Nat.le_of_ble_eq_true rfl)⟩ (fun H locs hP hD hS => ?_)
            refine lv_aload_n hx hb dX10_drift_92 rfl (lv_at hl 3 rfl) ?_
            refine lv_aload_n hx hb dX10_drift_93 rfl (lv_at hl 3 rfl) ?_
            refine va_get (D := G.1) (ci := 10) (v := .ref (a 3)) (C := RX10) (T := TX10) (N := 25) hx hb hts k1 hown hK hP 0 rfl rfl 2 (by decide) k2 (fun _ h9 => h9) rfl dX10_drift_94 ?_
            refine cX_V (Cn := RX10) (n := 1) (As := [.ref (a 3)]) (rest := []) (wsn := mW G a (upd (upd (upd (rmI (upd (upd i 5 (nI (unQ un i1))) 8 (nI s0)) (unQ un i1)) 8 (nI s1)) 8 (nI s2)) 8 (nI s3)) j t r (qgF t (borF (nD t nc np n sd i1) pp cc (nI kc)) nc np) d (rmP (nD t nc np n sd i1) (psD t nc np n ps sd un i1) (unQ un i1)) im kp tx cd bk py pt mt) C (c_X10_quarterGoes_n l G a (upd (upd (upd (rmI (upd (upd i 5 (nI (unQ un i1))) 8 (nI s0)) (unQ un i1)) 8 (nI s1)) 8 (nI s2)) 8 (nI s3)) j t r (borF (nD t nc np n sd i1) pp cc (nI kc)) d (rmP (nD t nc np n sd i1) (psD t nc np n ps sd un i1) (unQ un i1)) im kp tx cd bk py pt mt nc np  hT) gX10_drift_X10_quarterGoes rfl ⟨rfl, rfl⟩ hd_X10_quarterGoes ⟨(Nat.le_of_ble_eq_true rfl), (Nat.le_of_ble_eq_true rfl)⟩ hK hP hD hS [0, 1, 2, 3, 4, 5, 6, 7, 8, 9, 10, 11, 12, 13] (by decide) rfl (mW_f.trans mW_f.symm) rfl (mW_f.trans mW_f.symm) (va_recv hK hP (ci := 10) (q0 := 0) rfl rfl) rfl hl.1 rfl (Nat.le_of_ble_eq_true rfl) dX10_drift_97 ⟨(Nat.le_of_ble_eq_true rfl), (Nat.le_of_ble_eq_true rfl)⟩ (fun H locs hP hD hS => ?_)
            refine lv_iinc (v := nI (i1 + 1)) (lv' := [(3, .int (nI (i1 + 1))), (6, .int (nI kc)), (5, .int (nI cc)), (4, .int (nI pp)), (0, .ref (a 0)), (1, .int (nI kk))]) hx hb dX10_drift_100 hl (k := 5) rfl (by rw [show (nI i1 : Int32) = nI i1 from rfl]; exact nI_add _ 1) (by decide) rfl (fun ls hl => ?_)
            refine lv_goto (tgt := 14) hx hb dX10_drift_103 (by decide) ?_
            have e15 : qgF t (borF (nD t nc np n sd i1) pp cc (nI kc)) nc np = nD t nc np n sd (i1 + 1) := nD_s _ _ _ _ _ _ (by first | (rw [dfN_x (t := t) (n := nD t nc np n sd i1) hs0 hs1 hs2 hpp hcc hkc, if_neg hnp0]; first | exact (if_pos (And.intro hk0 hma)).symm | exact (if_neg (fun q => hk0 q.1)).symm | exact (if_neg (fun q => hma q.2)).symm) | (unfold dfN; rw [if_pos hnp]))
            have e16 : rmP (nD t nc np n sd i1) (psD t nc np n ps sd un i1) (unQ un i1) = psD t nc np n ps sd un (i1 + 1) := psD_s _ _ _ _ _ _ _ _
            have e17 : upd (upd (upd (rmI (upd (upd i 5 (nI (unQ un i1))) 8 (nI s0)) (unQ un i1)) 8 (nI s1)) 8 (nI s2)) 8 (nI s3) = upd (upd i 5 (nI (unQ un (i1 + 1)))) 8 (nI (sD np sd (i1 + 1))) := by first | (rw [sD_x hnp0 hs0 hs1 hs2 hs3]; exact drI_x _ _ _ _ _ _ _) | (rw [sD_0 hnp hs0]; exact drI_x0 _ _ _ _)
            rw [e15, e16, e17] at hP hD
            exact ih14 _ _ _ (by omega) ⟨hP, hD, hS, lv_sub hl [4, 5, 0] (rfl), trivial⟩
  · skip
    refine lv_iload_n hx hb dX10_drift_10 rfl (lv_at hl 0 rfl) ?_
    have hP : va_P G.1 vwCl (mW G a (if rfR t n x = 0 then upd (upd i 5 (nI (unQ un (cl x)))) 8 (nI (sD np sd (cl x))) else i) j t r (if rfR t n x = 0 then nD t nc np n sd (cl x) else n) d (if rfR t n x = 0 then psD t nc np n ps sd un (cl x) else ps) im kp tx cd bk py pt mt) zs.heap := by rw [show (if rfR t n x = 0 then upd (upd i 5 (nI (unQ un (cl x)))) 8 (nI (sD np sd (cl x))) else i) = i from by rw [if_neg cq1], show (if rfR t n x = 0 then nD t nc np n sd (cl x) else n) = n from by rw [if_neg cq1], show (if rfR t n x = 0 then psD t nc np n ps sd un (cl x) else ps) = ps from by rw [if_neg cq1]]; exact hP
    exact mX_iret hAe C hP hS dX10_drift_11 ((if_pos cq1).symm)
