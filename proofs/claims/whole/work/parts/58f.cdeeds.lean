theorem wed_no {t n : Nat → Int32} {nc : Nat} {g m : Int32} (h : ¬ rfP t n g m = 0) : rfP t n g m = weR t n nc g m := by
  unfold rfP at h ⊢; unfold weR
  by_cases h1 : isG t g ∧ isM t m
  · rw [if_neg (not_not_intro h1)] at h ⊢
    rw [if_neg (not_not_intro h1)]
    by_cases h2 : n (44 + cl g) = -1 ∧ n (44 + cl m) = -1
    · rw [if_neg (not_not_intro h2)] at h; exact absurd rfl h
    · rw [if_pos h2, if_pos h2]
  · rw [if_pos h1, if_pos h1]
theorem jo_no {t n : Nat → Int32} {nc : Nat} {g m : Int32} (h : ¬ rfP t n g m = 0) : rfP t n g m = joR t n nc g m := by
  unfold rfP at h ⊢; unfold joR
  by_cases h1 : isG t g ∧ isM t m
  · rw [if_neg (not_not_intro h1)] at h ⊢
    rw [if_neg (not_not_intro h1)]
    by_cases h2 : n (44 + cl g) = -1 ∧ n (44 + cl m) = -1
    · rw [if_neg (not_not_intro h2)] at h; exact absurd rfl h
    · rw [if_pos h2, if_neg h2]
  · rw [if_pos h1, if_pos h1]
theorem hd_X9_borrow : yX9_borrow.cls = RX9 ∧ yX9_borrow.cls ≠ "java/lang/invoke/MethodHandle" ∧ yX9_borrow.cls ≠ "java/lang/invoke/VarHandle" ∧ (parseMethodDescriptor yX9_borrow.desc).map (fun d => d.parameters.length) = some 3 := by decide +kernel
set_option maxRecDepth 100000 in
set_option maxHeartbeats 4000000 in
theorem c_X9_borrow (l : Launch) (G : gG) (a : Nat → Nat) (ra : Nat → Nat → Nat) (nR : Nat) (s : RSt) (em : Int32) (i : Nat → Int32) (eo : Nat → Int32) (es : Nat → Int32) (t : Nat → Int32) (n : Nat → Int32) (d : Nat → Int32) (tx : Nat → Int32) (rt : Nat → Int32) (rn : Nat → Int32) (cd : Nat → Int32) (su : Nat → Int32) (bk : Nat → Int32) (co : Nat → Int32) (mo : Nat → Int32) (m0 : Nat → Int32) (m1 : Nat → Int32) (kp : Nat → Int32) (rg : Nat → Nat → Int32) (nc : Nat) (np : Nat) (un : Nat) (od : Nat) (p : Int32) (c : Int32) (k : Int32) (hTT : okT t nc np) (hO : okS t n nc np) (hun : i 5 = nI un) (hul : un ≤ 30) (hod : eo 0 = nI od) (hol : od < 30) (hnR : nR = 30) : mX l yX9_borrow wsX9_borrow ({ frames := 4, cells := 0, slots := 0, locals := 86 }) G (dR G a ra nR s em i eo es t n d tx rt rn cd su bk co mo m0 m1 kp rg) (dR G a ra nR s em (if okBor t n p c k then rmI i un else i) (if okBor t n p c k then upd eo 0 (nI (odN od un)) else eo) es t (if okBor t n p c k then borF n (cl p) (cl c) k else n) d tx rt rn cd su bk co mo m0 m1 kp (if okBor t n p c k then rgN rg od un n else rg)) [.ref (a 0), .int p, .int c, .int k] (.returned (some (.int (borR t n p c k)))) := by
  refine mX.of (cc := cX9_borrow) (maxL := 4) (ret := (some .int)) (by decide) rfl (Nat.le_of_ble_eq_true rfl) ?_
  intro zp ze zs zm zb zt zc ls A hAe C hP hK hD hS hl
  obtain ⟨hx, hb, hr, hml, hown, hts, hlk⟩ := id C
  have hl : lv_has ls 4 [(0, .ref (a 0)), (1, .int p), (2, .int c), (3, .int k)] := hl
  have hT := hTT.1
  have hT2 := hT.2.2
  have hG := okT_G hTT
  have hLH := okT_L hTT
  have k0 := hts (.fieldLink RX9 19 "DebtDowry" "terms" "LDebtDowry$Terms;") (by decide +kernel)
  have k1 := (fun w h => by revert w; decide +kernel : ∀ w ∈ wsX90, w ∈ wsX9_borrow)
  have k2 := hts (.constant RX9 81 (-1000000002)) (by decide +kernel)
  have k3 := hts (.fieldLink RX9 28 "DebtDowry" "now" "LDebtDowry$State;") (by decide +kernel)
  have k4 := hts (.fieldLink RX9 38 "DebtDowry" "history" "LDebtDowry$History;") (by decide +kernel)
  have k5 := hts (.constant RX9 206 (-1000000003)) (by decide +kernel)
  have k6 := hts (.constant RX9 155 (-1000000001)) (by decide +kernel)
  refine lv_aload_n hx hb dX9_borrow_0 rfl (lv_at hl 0 rfl) ?_
  refine va_get (D := G.1) (ci := 9) (v := .ref (a 1)) (C := RX9) (T := TX9) (N := 11) hx hb hts k1 hown hK hP 0 rfl rfl 1 (by decide) k0 (fun _ h9 => h9) rfl dX9_borrow_1 ?_
  refine lv_iload_n hx hb dX9_borrow_4 rfl (lv_at hl 1 rfl) ?_
  refine lv_iload_n hx hb dX9_borrow_5 rfl (lv_at hl 2 rfl) ?_
  refine cR_V (Cn := RX8) (n := 2) (As := [.int p, .int c]) (rest := []) C (c_X8_hasBoth l G (a 1) (a 2) (a 3) (a 4) t nc np p c hT) gX9_borrow_X8_hasBoth rfl ⟨rfl, rfl⟩ hd_X8_hasBoth ⟨(Nat.le_of_ble_eq_true rfl), (Nat.le_of_ble_eq_true rfl)⟩ hK (hP.sub [1, 2, 3, 4] rfl) (va_recv hK hP (ci := 8) (q0 := 1) rfl rfl) rfl hl.1 rfl (Nat.le_of_ble_eq_true rfl) dX9_borrow_6 ⟨(Nat.le_of_ble_eq_true rfl), (Nat.le_of_ble_eq_true rfl)⟩ ?_
  refine b_if_ne (tgt := 15) hx hb dX9_borrow_9 (by decide) (fun cq1 => ?_) (fun cq1 => ?_)
  · skip
    obtain ⟨pp, hpp, rfl⟩ := inB_nat hT.2.1 (by omega) (And.left cq1)
    have hcl_pp := cl_nI (n := pp) (by omega)
    obtain ⟨cc, hcc, rfl⟩ := inB_nat hT.1 (by omega) (And.right cq1)
    have hcl_cc := cl_nI (n := cc) (by omega)
    have hPC := cq1
    refine lv_iload_n hx hb dX9_borrow_15 rfl (lv_at hl 3 rfl) ?_
    refine lv_iconst (v := 1) hx hb dX9_borrow_16 (by decide) ?_
    refine lv_icmp_lt (tgt := 27) hx hb dX9_borrow_17 (by decide) (fun cq2 => ?_) (fun cq2 => ?_)
    · skip
      have hin : ¬ inB k 1 999 := fun q => i32_nle.mpr cq2 q.1
      have hno : ¬ okBor t n (nI pp) (nI cc) k := fun q => hin q.2.2.1
      refine lv_ldc hx hb hown k2 dX9_borrow_27 ?_
      have hP : va_P G.1 vwCl (dR G a ra nR s em (if okBor t n (nI pp) (nI cc) k then rmI i un else i) (if okBor t n (nI pp) (nI cc) k then upd eo 0 (nI (odN od un)) else eo) es t (if okBor t n (nI pp) (nI cc) k then borF n (cl (nI pp)) (cl (nI cc)) k else n) d tx rt rn cd su bk co mo m0 m1 kp (if okBor t n (nI pp) (nI cc) k then rgN rg od un n else rg)) zs.heap := by rw [show (if okBor t n (nI pp) (nI cc) k then rmI i un else i) = i from (if_neg hno), show (if okBor t n (nI pp) (nI cc) k then upd eo 0 (nI (odN od un)) else eo) = eo from (if_neg hno), show (if okBor t n (nI pp) (nI cc) k then borF n (cl (nI pp)) (cl (nI cc)) k else n) = n from (if_neg hno), show (if okBor t n (nI pp) (nI cc) k then rgN rg od un n else rg) = rg from (if_neg hno)]; exact hP
      exact mX_iret hAe C hP hS dX9_borrow_29 (by unfold borR; rw [if_neg (not_not_intro hPC), if_pos hin])
    · skip
      have hinl := i32_nlt.mp cq2
      refine lv_iload_n hx hb dX9_borrow_20 rfl (lv_at hl 3 rfl) ?_
      refine lv_sipush (v := 999) hx hb dX9_borrow_21 (by decide) ?_
      refine lv_icmp_le (tgt := 30) hx hb dX9_borrow_24 (by decide) (fun cq3 => ?_) (fun cq3 => ?_)
      · skip
        have hin : inB k 1 999 := ⟨hinl, cq3⟩
        refine lv_aload_n hx hb dX9_borrow_30 rfl (lv_at hl 0 rfl) ?_
        refine va_get (D := G.1) (ci := 9) (v := .ref (a 5)) (C := RX9) (T := TX9) (N := 11) hx hb hts k1 hown hK hP 0 rfl rfl 2 (by decide) k3 (fun _ h9 => h9) rfl dX9_borrow_31 ?_
        refine lv_iload_n hx hb dX9_borrow_34 rfl (lv_at hl 1 rfl) ?_
        refine lv_iload_n hx hb dX9_borrow_35 rfl (lv_at hl 2 rfl) ?_
        refine lv_iload_n hx hb dX9_borrow_36 rfl (lv_at hl 3 rfl) ?_
        refine cR_V (Cn := RX7) (n := 3) (As := [.int (nI pp), .int (nI cc), .int k]) (rest := []) C (c_X7_mayBorrow l G (a 5) (a 6) (a 7) (a 8) (a 9) (a 1) (a 2) (a 3) (a 4) t n nc np pp cc k hT (by omega) (by omega)) gX9_borrow_X7_mayBorrow rfl ⟨rfl, rfl⟩ hd_X7_mayBorrow ⟨(Nat.le_of_ble_eq_true rfl), (Nat.le_of_ble_eq_true rfl)⟩ hK (hP.sub [5, 6, 7, 8, 9, 1, 2, 3, 4] rfl) (va_recv hK hP (ci := 7) (q0 := 5) rfl rfl) rfl hl.1 rfl (Nat.le_of_ble_eq_true rfl) dX9_borrow_37 ⟨(Nat.le_of_ble_eq_true rfl), (Nat.le_of_ble_eq_true rfl)⟩ ?_
        refine b_if_ne (tgt := 46) hx hb dX9_borrow_40 (by decide) (fun cq4 => ?_) (fun cq4 => ?_)
        · skip
          have hmb := cq4
          have hok : okBor t n (nI pp) (nI cc) k := ⟨hPC.1, hPC.2, hin, by rw [hcl_pp, hcl_cc]; exact hmb⟩
          refine lv_aload_n hx hb dX9_borrow_46 rfl (lv_at hl 0 rfl) ?_
          refine va_get (D := G.1) (ci := 9) (v := .ref (a 26)) (C := RX9) (T := TX9) (N := 11) hx hb hts k1 hown hK hP 0 rfl rfl 4 (by decide) k4 (fun _ h9 => h9) rfl dX9_borrow_47 ?_
          refine lv_aload_n hx hb dX9_borrow_50 rfl (lv_at hl 0 rfl) ?_
          refine va_get (D := G.1) (ci := 9) (v := .ref (a 5)) (C := RX9) (T := TX9) (N := 11) hx hb hts k1 hown hK hP 0 rfl rfl 2 (by decide) k3 (fun _ h9 => h9) rfl dX9_borrow_51 ?_
          refine cX_VI (Cn := RX2) (n := 1) (As := [.ref (a 5)]) (rest := []) (wsn := dR G a ra nR s em (rmI i un) (upd eo 0 (nI (odN od un))) es t n d tx rt rn cd su bk co mo m0 m1 kp (rgN rg od un n)) C (c_X2_note_b l G a ra nR s em i eo es t n d tx rt rn cd su bk co mo m0 m1 kp rg un od  hun hul hod hol hnR) gX9_borrow_X2_note rfl ⟨rfl, rfl⟩ hd_X2_note ⟨(Nat.le_of_ble_eq_true rfl), (Nat.le_of_ble_eq_true rfl)⟩ hK hP hD hS (dR_f.trans dR_f.symm) (va_recv hK hP (ci := 2) (q0 := 26) rfl rfl) rfl hl.1 rfl (Nat.le_of_ble_eq_true rfl) dX9_borrow_54 ⟨(Nat.le_of_ble_eq_true rfl), (Nat.le_of_ble_eq_true rfl)⟩ (fun H locs hP hD hS => ?_)
          refine lv_aload_n hx hb dX9_borrow_57 rfl (lv_at hl 0 rfl) ?_
          refine va_get (D := G.1) (ci := 9) (v := .ref (a 5)) (C := RX9) (T := TX9) (N := 11) hx hb hts k1 hown hK hP 0 rfl rfl 2 (by decide) k3 (fun _ h9 => h9) rfl dX9_borrow_58 ?_
          refine lv_iload_n hx hb dX9_borrow_61 rfl (lv_at hl 1 rfl) ?_
          refine lv_iload_n hx hb dX9_borrow_62 rfl (lv_at hl 2 rfl) ?_
          refine lv_iload_n hx hb dX9_borrow_63 rfl (lv_at hl 3 rfl) ?_
          refine cX_V (Cn := RX7) (n := 3) (As := [.int (nI pp), .int (nI cc), .int k]) (rest := []) (wsn := dR G a ra nR s em (rmI i un) (upd eo 0 (nI (odN od un))) es t (borF n pp cc k) d tx rt rn cd su bk co mo m0 m1 kp (rgN rg od un n)) C (c_X7_lend l G (a 5) (a 6) (a 7) (a 8) (a 9) (a 1) (a 2) (a 3) (a 4) t n  pp cc k (by omega) (by omega)) gX9_borrow_X7_lend rfl ⟨rfl, rfl⟩ hd_X7_lend ⟨(Nat.le_of_ble_eq_true rfl), (Nat.le_of_ble_eq_true rfl)⟩ hK hP hD hS [5, 6, 7, 8, 9, 1, 2, 3, 4] (by decide) rfl (sW_f.trans sW_f.symm) rfl (dR_f.trans dR_f.symm) (va_recv hK hP (ci := 7) (q0 := 5) rfl rfl) rfl hl.1 rfl (Nat.le_of_ble_eq_true rfl) dX9_borrow_64 ⟨(Nat.le_of_ble_eq_true rfl), (Nat.le_of_ble_eq_true rfl)⟩ (fun H locs hP hD hS => ?_)
          refine lv_aload_n hx hb dX9_borrow_67 rfl (lv_at hl 0 rfl) ?_
          refine va_get (D := G.1) (ci := 9) (v := .ref (a 5)) (C := RX9) (T := TX9) (N := 11) hx hb hts k1 hown hK hP 0 rfl rfl 2 (by decide) k3 (fun _ h9 => h9) rfl dX9_borrow_68 ?_
          refine lv_iload_n hx hb dX9_borrow_71 rfl (lv_at hl 1 rfl) ?_
          refine lv_iload_n hx hb dX9_borrow_72 rfl (lv_at hl 2 rfl) ?_
          refine cR_V (Cn := RX7) (n := 2) (As := [.int (nI pp), .int (nI cc)]) (rest := []) C (c_X7_owedTo l G (a 5) (a 6) (a 7) (a 8) (a 9) (a 1) (a 2) (a 3) (a 4) t (borF n pp cc k)  pp cc (by omega) (by omega)) gX9_borrow_X7_owedTo rfl ⟨rfl, rfl⟩ hd_X7_owedTo ⟨(Nat.le_of_ble_eq_true rfl), (Nat.le_of_ble_eq_true rfl)⟩ hK (hP.sub [5, 6, 7, 8, 9, 1, 2, 3, 4] rfl) (va_recv hK hP (ci := 7) (q0 := 5) rfl rfl) rfl hl.1 rfl (Nat.le_of_ble_eq_true rfl) dX9_borrow_73 ⟨(Nat.le_of_ble_eq_true rfl), (Nat.le_of_ble_eq_true rfl)⟩ ?_
          have hP : va_P G.1 vwCl (dR G a ra nR s em (if okBor t n (nI pp) (nI cc) k then rmI i un else i) (if okBor t n (nI pp) (nI cc) k then upd eo 0 (nI (odN od un)) else eo) es t (if okBor t n (nI pp) (nI cc) k then borF n (cl (nI pp)) (cl (nI cc)) k else n) d tx rt rn cd su bk co mo m0 m1 kp (if okBor t n (nI pp) (nI cc) k then rgN rg od un n else rg)) H := by rw [show (if okBor t n (nI pp) (nI cc) k then rmI i un else i) = (rmI i un) from by rw [if_pos hok]; first | done | rfl | (rw [hcl_pp, hcl_cc]; done), show (if okBor t n (nI pp) (nI cc) k then upd eo 0 (nI (odN od un)) else eo) = (upd eo 0 (nI (odN od un))) from by rw [if_pos hok]; first | done | rfl | (rw [hcl_pp, hcl_cc]; done), show (if okBor t n (nI pp) (nI cc) k then borF n (cl (nI pp)) (cl (nI cc)) k else n) = (borF n pp cc k) from by rw [if_pos hok]; first | done | rfl | (rw [hcl_pp, hcl_cc]; done), show (if okBor t n (nI pp) (nI cc) k then rgN rg od un n else rg) = (rgN rg od un n) from by rw [if_pos hok]; first | done | rfl | (rw [hcl_pp, hcl_cc]; done)]; exact hP
          exact mX_iret hAe C hP hS dX9_borrow_76 (by unfold borR; rw [if_neg (not_not_intro hPC), if_neg (not_not_intro hin), hcl_pp, hcl_cc, if_neg (not_not_intro hmb)])
        · skip
          have hmb := cq4
          have hno : ¬ okBor t n (nI pp) (nI cc) k := fun q => hmb (by have q2 := q.2.2.2; rw [hcl_pp, hcl_cc] at q2; exact q2)
          refine lv_ldc hx hb hown k5 dX9_borrow_43 ?_
          have hP : va_P G.1 vwCl (dR G a ra nR s em (if okBor t n (nI pp) (nI cc) k then rmI i un else i) (if okBor t n (nI pp) (nI cc) k then upd eo 0 (nI (odN od un)) else eo) es t (if okBor t n (nI pp) (nI cc) k then borF n (cl (nI pp)) (cl (nI cc)) k else n) d tx rt rn cd su bk co mo m0 m1 kp (if okBor t n (nI pp) (nI cc) k then rgN rg od un n else rg)) zs.heap := by rw [show (if okBor t n (nI pp) (nI cc) k then rmI i un else i) = i from (if_neg hno), show (if okBor t n (nI pp) (nI cc) k then upd eo 0 (nI (odN od un)) else eo) = eo from (if_neg hno), show (if okBor t n (nI pp) (nI cc) k then borF n (cl (nI pp)) (cl (nI cc)) k else n) = n from (if_neg hno), show (if okBor t n (nI pp) (nI cc) k then rgN rg od un n else rg) = rg from (if_neg hno)]; exact hP
          exact mX_iret hAe C hP hS dX9_borrow_45 (by unfold borR; rw [if_neg (not_not_intro hPC), if_neg (not_not_intro hin), hcl_pp, hcl_cc, if_pos hmb])
      · skip
        have hin : ¬ inB k 1 999 := fun q => cq3 q.2
        have hno : ¬ okBor t n (nI pp) (nI cc) k := fun q => hin q.2.2.1
        refine lv_ldc hx hb hown k2 dX9_borrow_27 ?_
        have hP : va_P G.1 vwCl (dR G a ra nR s em (if okBor t n (nI pp) (nI cc) k then rmI i un else i) (if okBor t n (nI pp) (nI cc) k then upd eo 0 (nI (odN od un)) else eo) es t (if okBor t n (nI pp) (nI cc) k then borF n (cl (nI pp)) (cl (nI cc)) k else n) d tx rt rn cd su bk co mo m0 m1 kp (if okBor t n (nI pp) (nI cc) k then rgN rg od un n else rg)) zs.heap := by rw [show (if okBor t n (nI pp) (nI cc) k then rmI i un else i) = i from (if_neg hno), show (if okBor t n (nI pp) (nI cc) k then upd eo 0 (nI (odN od un)) else eo) = eo from (if_neg hno), show (if okBor t n (nI pp) (nI cc) k then borF n (cl (nI pp)) (cl (nI cc)) k else n) = n from (if_neg hno), show (if okBor t n (nI pp) (nI cc) k then rgN rg od un n else rg) = rg from (if_neg hno)]; exact hP
        exact mX_iret hAe C hP hS dX9_borrow_29 (by unfold borR; rw [if_neg (not_not_intro hPC), if_pos hin])
  · skip
    have hno : ¬ okBor t n p c k := fun q => cq1 ⟨q.1, q.2.1⟩
    refine lv_ldc hx hb hown k6 dX9_borrow_12 ?_
    have hP : va_P G.1 vwCl (dR G a ra nR s em (if okBor t n p c k then rmI i un else i) (if okBor t n p c k then upd eo 0 (nI (odN od un)) else eo) es t (if okBor t n p c k then borF n (cl p) (cl c) k else n) d tx rt rn cd su bk co mo m0 m1 kp (if okBor t n p c k then rgN rg od un n else rg)) zs.heap := by rw [show (if okBor t n p c k then rmI i un else i) = i from (if_neg hno), show (if okBor t n p c k then upd eo 0 (nI (odN od un)) else eo) = eo from (if_neg hno), show (if okBor t n p c k then borF n (cl p) (cl c) k else n) = n from (if_neg hno), show (if okBor t n p c k then rgN rg od un n else rg) = rg from (if_neg hno)]; exact hP
    exact mX_iret hAe C hP hS dX9_borrow_14 (by unfold borR; rw [if_pos cq1])
theorem hd_X9_pay : yX9_pay.cls = RX9 ∧ yX9_pay.cls ≠ "java/lang/invoke/MethodHandle" ∧ yX9_pay.cls ≠ "java/lang/invoke/VarHandle" ∧ (parseMethodDescriptor yX9_pay.desc).map (fun d => d.parameters.length) = some 3 := by decide +kernel
set_option maxRecDepth 100000 in
set_option maxHeartbeats 4000000 in
theorem c_X9_pay (l : Launch) (G : gG) (a : Nat → Nat) (ra : Nat → Nat → Nat) (nR : Nat) (s : RSt) (em : Int32) (i : Nat → Int32) (eo : Nat → Int32) (es : Nat → Int32) (t : Nat → Int32) (n : Nat → Int32) (d : Nat → Int32) (tx : Nat → Int32) (rt : Nat → Int32) (rn : Nat → Int32) (cd : Nat → Int32) (su : Nat → Int32) (bk : Nat → Int32) (co : Nat → Int32) (mo : Nat → Int32) (m0 : Nat → Int32) (m1 : Nat → Int32) (kp : Nat → Int32) (rg : Nat → Nat → Int32) (nc : Nat) (np : Nat) (un : Nat) (od : Nat) (p : Int32) (c : Int32) (k : Int32) (hTT : okT t nc np) (hO : okS t n nc np) (hun : i 5 = nI un) (hul : un ≤ 30) (hod : eo 0 = nI od) (hol : od < 30) (hnR : nR = 30) : mX l yX9_pay wsX9_pay ({ frames := 3, cells := 0, slots := 0, locals := 68 }) G (dR G a ra nR s em i eo es t n d tx rt rn cd su bk co mo m0 m1 kp rg) (dR G a ra nR s em (if okPay t n p c k then rmI i un else i) (if okPay t n p c k then upd eo 0 (nI (odN od un)) else eo) es t (if okPay t n p c k then payF t n (cl p) (cl c) k else n) d tx rt rn cd su bk co mo m0 m1 kp (if okPay t n p c k then rgN rg od un n else rg)) [.ref (a 0), .int p, .int c, .int k] (.returned (some (.int (payR t n p c k)))) := by
  refine mX.of (cc := cX9_pay) (maxL := 4) (ret := (some .int)) (by decide) rfl (Nat.le_of_ble_eq_true rfl) ?_
  intro zp ze zs zm zb zt zc ls A hAe C hP hK hD hS hl
  obtain ⟨hx, hb, hr, hml, hown, hts, hlk⟩ := id C
  have hl : lv_has ls 4 [(0, .ref (a 0)), (1, .int p), (2, .int c), (3, .int k)] := hl
  have hT := hTT.1
  have hT2 := hT.2.2
  have hG := okT_G hTT
  have hLH := okT_L hTT
  have k0 := hts (.fieldLink RX9 19 "DebtDowry" "terms" "LDebtDowry$Terms;") (by decide +kernel)
  have k1 := (fun w h => by revert w; decide +kernel : ∀ w ∈ wsX90, w ∈ wsX9_pay)
  have k2 := hts (.constant RX9 81 (-1000000002)) (by decide +kernel)
  have k3 := hts (.fieldLink RX9 28 "DebtDowry" "now" "LDebtDowry$State;") (by decide +kernel)
  have k4 := hts (.fieldLink RX9 38 "DebtDowry" "history" "LDebtDowry$History;") (by decide +kernel)
  have k5 := hts (.constant RX9 206 (-1000000003)) (by decide +kernel)
  have k6 := hts (.constant RX9 155 (-1000000001)) (by decide +kernel)
  refine lv_aload_n hx hb dX9_pay_0 rfl (lv_at hl 0 rfl) ?_
  refine va_get (D := G.1) (ci := 9) (v := .ref (a 1)) (C := RX9) (T := TX9) (N := 11) hx hb hts k1 hown hK hP 0 rfl rfl 1 (by decide) k0 (fun _ h9 => h9) rfl dX9_pay_1 ?_
  refine lv_iload_n hx hb dX9_pay_4 rfl (lv_at hl 1 rfl) ?_
  refine lv_iload_n hx hb dX9_pay_5 rfl (lv_at hl 2 rfl) ?_
  refine cR_V (Cn := RX8) (n := 2) (As := [.int p, .int c]) (rest := []) C (c_X8_hasBoth l G (a 1) (a 2) (a 3) (a 4) t nc np p c hT) gX9_pay_X8_hasBoth rfl ⟨rfl, rfl⟩ hd_X8_hasBoth ⟨(Nat.le_of_ble_eq_true rfl), (Nat.le_of_ble_eq_true rfl)⟩ hK (hP.sub [1, 2, 3, 4] rfl) (va_recv hK hP (ci := 8) (q0 := 1) rfl rfl) rfl hl.1 rfl (Nat.le_of_ble_eq_true rfl) dX9_pay_6 ⟨(Nat.le_of_ble_eq_true rfl), (Nat.le_of_ble_eq_true rfl)⟩ ?_
  refine b_if_ne (tgt := 15) hx hb dX9_pay_9 (by decide) (fun cq1 => ?_) (fun cq1 => ?_)
  · skip
    obtain ⟨pp, hpp, rfl⟩ := inB_nat hT.2.1 (by omega) (And.left cq1)
    have hcl_pp := cl_nI (n := pp) (by omega)
    obtain ⟨cc, hcc, rfl⟩ := inB_nat hT.1 (by omega) (And.right cq1)
    have hcl_cc := cl_nI (n := cc) (by omega)
    have hPC := cq1
    refine lv_iload_n hx hb dX9_pay_15 rfl (lv_at hl 3 rfl) ?_
    refine lv_iconst (v := 1) hx hb dX9_pay_16 (by decide) ?_
    refine lv_icmp_lt (tgt := 27) hx hb dX9_pay_17 (by decide) (fun cq2 => ?_) (fun cq2 => ?_)
    · skip
      have hin : ¬ inB k 1 9999 := fun q => i32_nle.mpr cq2 q.1
      have hno : ¬ okPay t n (nI pp) (nI cc) k := fun q => hin q.2.2.1
      refine lv_ldc hx hb hown k2 dX9_pay_27 ?_
      have hP : va_P G.1 vwCl (dR G a ra nR s em (if okPay t n (nI pp) (nI cc) k then rmI i un else i) (if okPay t n (nI pp) (nI cc) k then upd eo 0 (nI (odN od un)) else eo) es t (if okPay t n (nI pp) (nI cc) k then payF t n (cl (nI pp)) (cl (nI cc)) k else n) d tx rt rn cd su bk co mo m0 m1 kp (if okPay t n (nI pp) (nI cc) k then rgN rg od un n else rg)) zs.heap := by rw [show (if okPay t n (nI pp) (nI cc) k then rmI i un else i) = i from (if_neg hno), show (if okPay t n (nI pp) (nI cc) k then upd eo 0 (nI (odN od un)) else eo) = eo from (if_neg hno), show (if okPay t n (nI pp) (nI cc) k then payF t n (cl (nI pp)) (cl (nI cc)) k else n) = n from (if_neg hno), show (if okPay t n (nI pp) (nI cc) k then rgN rg od un n else rg) = rg from (if_neg hno)]; exact hP
      exact mX_iret hAe C hP hS dX9_pay_29 (by unfold payR; rw [if_neg (not_not_intro hPC), if_pos hin])
    · skip
      have hinl := i32_nlt.mp cq2
      refine lv_iload_n hx hb dX9_pay_20 rfl (lv_at hl 3 rfl) ?_
      refine lv_sipush (v := 9999) hx hb dX9_pay_21 (by decide) ?_
      refine lv_icmp_le (tgt := 30) hx hb dX9_pay_24 (by decide) (fun cq3 => ?_) (fun cq3 => ?_)
      · skip
        have hin : inB k 1 9999 := ⟨hinl, cq3⟩
        refine lv_iload_n hx hb dX9_pay_30 rfl (lv_at hl 3 rfl) ?_
        refine lv_aload_n hx hb dX9_pay_31 rfl (lv_at hl 0 rfl) ?_
        refine va_get (D := G.1) (ci := 9) (v := .ref (a 5)) (C := RX9) (T := TX9) (N := 11) hx hb hts k1 hown hK hP 0 rfl rfl 2 (by decide) k3 (fun _ h9 => h9) rfl dX9_pay_32 ?_
        refine lv_iload_n hx hb dX9_pay_35 rfl (lv_at hl 1 rfl) ?_
        refine lv_iload_n hx hb dX9_pay_36 rfl (lv_at hl 2 rfl) ?_
        refine cR_V (Cn := RX7) (n := 2) (As := [.int (nI pp), .int (nI cc)]) (rest := [.int k]) C (c_X7_owedTo l G (a 5) (a 6) (a 7) (a 8) (a 9) (a 1) (a 2) (a 3) (a 4) t n  pp cc (by omega) (by omega)) gX9_pay_X7_owedTo rfl ⟨rfl, rfl⟩ hd_X7_owedTo ⟨(Nat.le_of_ble_eq_true rfl), (Nat.le_of_ble_eq_true rfl)⟩ hK (hP.sub [5, 6, 7, 8, 9, 1, 2, 3, 4] rfl) (va_recv hK hP (ci := 7) (q0 := 5) rfl rfl) rfl hl.1 rfl (Nat.le_of_ble_eq_true rfl) dX9_pay_37 ⟨(Nat.le_of_ble_eq_true rfl), (Nat.le_of_ble_eq_true rfl)⟩ ?_
        refine lv_icmp_le (tgt := 46) hx hb dX9_pay_40 (by decide) (fun cq4 => ?_) (fun cq4 => ?_)
        · skip
          have hmb : k ≤ n (4 * pp + cc) := cq4
          have hle := pay_less hO (by omega : pp < 8) (by omega : cc < 4) hin hmb
          have hok : okPay t n (nI pp) (nI cc) k := ⟨hPC.1, hPC.2, hin, by rw [hcl_pp, hcl_cc]; exact hmb⟩
          refine lv_aload_n hx hb dX9_pay_46 rfl (lv_at hl 0 rfl) ?_
          refine va_get (D := G.1) (ci := 9) (v := .ref (a 26)) (C := RX9) (T := TX9) (N := 11) hx hb hts k1 hown hK hP 0 rfl rfl 4 (by decide) k4 (fun _ h9 => h9) rfl dX9_pay_47 ?_
          refine lv_aload_n hx hb dX9_pay_50 rfl (lv_at hl 0 rfl) ?_
          refine va_get (D := G.1) (ci := 9) (v := .ref (a 5)) (C := RX9) (T := TX9) (N := 11) hx hb hts k1 hown hK hP 0 rfl rfl 2 (by decide) k3 (fun _ h9 => h9) rfl dX9_pay_51 ?_
          refine cX_VI (Cn := RX2) (n := 1) (As := [.ref (a 5)]) (rest := []) (wsn := dR G a ra nR s em (rmI i un) (upd eo 0 (nI (odN od un))) es t n d tx rt rn cd su bk co mo m0 m1 kp (rgN rg od un n)) C (c_X2_note_b l G a ra nR s em i eo es t n d tx rt rn cd su bk co mo m0 m1 kp rg un od  hun hul hod hol hnR) gX9_pay_X2_note rfl ⟨rfl, rfl⟩ hd_X2_note ⟨(Nat.le_of_ble_eq_true rfl), (Nat.le_of_ble_eq_true rfl)⟩ hK hP hD hS (dR_f.trans dR_f.symm) (va_recv hK hP (ci := 2) (q0 := 26) rfl rfl) rfl hl.1 rfl (Nat.le_of_ble_eq_true rfl) dX9_pay_54 ⟨(Nat.le_of_ble_eq_true rfl), (Nat.le_of_ble_eq_true rfl)⟩ (fun H locs hP hD hS => ?_)
          refine lv_aload_n hx hb dX9_pay_57 rfl (lv_at hl 0 rfl) ?_
          refine va_get (D := G.1) (ci := 9) (v := .ref (a 5)) (C := RX9) (T := TX9) (N := 11) hx hb hts k1 hown hK hP 0 rfl rfl 2 (by decide) k3 (fun _ h9 => h9) rfl dX9_pay_58 ?_
          refine lv_iload_n hx hb dX9_pay_61 rfl (lv_at hl 1 rfl) ?_
          refine lv_iload_n hx hb dX9_pay_62 rfl (lv_at hl 2 rfl) ?_
          refine lv_iload_n hx hb dX9_pay_63 rfl (lv_at hl 3 rfl) ?_
          refine cX_V (Cn := RX7) (n := 3) (As := [.int (nI pp), .int (nI cc), .int k]) (rest := []) (wsn := dR G a ra nR s em (rmI i un) (upd eo 0 (nI (odN od un))) es t (payF t n pp cc k) d tx rt rn cd su bk co mo m0 m1 kp (rgN rg od un n)) C (c_X7_settle l G (a 5) (a 6) (a 7) (a 8) (a 9) (a 1) (a 2) (a 3) (a 4) t n  pp cc k (by omega) (by omega) hle) gX9_pay_X7_settle rfl ⟨rfl, rfl⟩ hd_X7_settle ⟨(Nat.le_of_ble_eq_true rfl), (Nat.le_of_ble_eq_true rfl)⟩ hK hP hD hS [5, 6, 7, 8, 9, 1, 2, 3, 4] (by decide) rfl (sW_f.trans sW_f.symm) rfl (dR_f.trans dR_f.symm) (va_recv hK hP (ci := 7) (q0 := 5) rfl rfl) rfl hl.1 rfl (Nat.le_of_ble_eq_true rfl) dX9_pay_64 ⟨(Nat.le_of_ble_eq_true rfl), (Nat.le_of_ble_eq_true rfl)⟩ (fun H locs hP hD hS => ?_)
          refine lv_aload_n hx hb dX9_pay_67 rfl (lv_at hl 0 rfl) ?_
          refine va_get (D := G.1) (ci := 9) (v := .ref (a 5)) (C := RX9) (T := TX9) (N := 11) hx hb hts k1 hown hK hP 0 rfl rfl 2 (by decide) k3 (fun _ h9 => h9) rfl dX9_pay_68 ?_
          refine lv_iload_n hx hb dX9_pay_71 rfl (lv_at hl 1 rfl) ?_
          refine lv_iload_n hx hb dX9_pay_72 rfl (lv_at hl 2 rfl) ?_
          refine cR_V (Cn := RX7) (n := 2) (As := [.int (nI pp), .int (nI cc)]) (rest := []) C (c_X7_owedTo l G (a 5) (a 6) (a 7) (a 8) (a 9) (a 1) (a 2) (a 3) (a 4) t (payF t n pp cc k)  pp cc (by omega) (by omega)) gX9_pay_X7_owedTo rfl ⟨rfl, rfl⟩ hd_X7_owedTo ⟨(Nat.le_of_ble_eq_true rfl), (Nat.le_of_ble_eq_true rfl)⟩ hK (hP.sub [5, 6, 7, 8, 9, 1, 2, 3, 4] rfl) (va_recv hK hP (ci := 7) (q0 := 5) rfl rfl) rfl hl.1 rfl (Nat.le_of_ble_eq_true rfl) dX9_pay_73 ⟨(Nat.le_of_ble_eq_true rfl), (Nat.le_of_ble_eq_true rfl)⟩ ?_
          have hP : va_P G.1 vwCl (dR G a ra nR s em (if okPay t n (nI pp) (nI cc) k then rmI i un else i) (if okPay t n (nI pp) (nI cc) k then upd eo 0 (nI (odN od un)) else eo) es t (if okPay t n (nI pp) (nI cc) k then payF t n (cl (nI pp)) (cl (nI cc)) k else n) d tx rt rn cd su bk co mo m0 m1 kp (if okPay t n (nI pp) (nI cc) k then rgN rg od un n else rg)) H := by rw [show (if okPay t n (nI pp) (nI cc) k then rmI i un else i) = (rmI i un) from by rw [if_pos hok]; first | done | rfl | (rw [hcl_pp, hcl_cc]; done), show (if okPay t n (nI pp) (nI cc) k then upd eo 0 (nI (odN od un)) else eo) = (upd eo 0 (nI (odN od un))) from by rw [if_pos hok]; first | done | rfl | (rw [hcl_pp, hcl_cc]; done), show (if okPay t n (nI pp) (nI cc) k then payF t n (cl (nI pp)) (cl (nI cc)) k else n) = (payF t n pp cc k) from by rw [if_pos hok]; first | done | rfl | (rw [hcl_pp, hcl_cc]; done), show (if okPay t n (nI pp) (nI cc) k then rgN rg od un n else rg) = (rgN rg od un n) from by rw [if_pos hok]; first | done | rfl | (rw [hcl_pp, hcl_cc]; done)]; exact hP
          exact mX_iret hAe C hP hS dX9_pay_76 (by unfold payR; rw [if_neg (not_not_intro hPC), if_neg (not_not_intro hin), hcl_pp, hcl_cc, if_neg (not_not_intro hmb)]; exact payF_o (by omega) (by omega))
        · skip
          have hmb : ¬ k ≤ n (4 * pp + cc) := cq4
          have hno : ¬ okPay t n (nI pp) (nI cc) k := fun q => hmb (by have q2 := q.2.2.2; rw [hcl_pp, hcl_cc] at q2; exact q2)
          refine lv_ldc hx hb hown k5 dX9_pay_43 ?_
          have hP : va_P G.1 vwCl (dR G a ra nR s em (if okPay t n (nI pp) (nI cc) k then rmI i un else i) (if okPay t n (nI pp) (nI cc) k then upd eo 0 (nI (odN od un)) else eo) es t (if okPay t n (nI pp) (nI cc) k then payF t n (cl (nI pp)) (cl (nI cc)) k else n) d tx rt rn cd su bk co mo m0 m1 kp (if okPay t n (nI pp) (nI cc) k then rgN rg od un n else rg)) zs.heap := by rw [show (if okPay t n (nI pp) (nI cc) k then rmI i un else i) = i from (if_neg hno), show (if okPay t n (nI pp) (nI cc) k then upd eo 0 (nI (odN od un)) else eo) = eo from (if_neg hno), show (if okPay t n (nI pp) (nI cc) k then payF t n (cl (nI pp)) (cl (nI cc)) k else n) = n from (if_neg hno), show (if okPay t n (nI pp) (nI cc) k then rgN rg od un n else rg) = rg from (if_neg hno)]; exact hP
          exact mX_iret hAe C hP hS dX9_pay_45 (by unfold payR; rw [if_neg (not_not_intro hPC), if_neg (not_not_intro hin), hcl_pp, hcl_cc, if_pos hmb])
      · skip
        have hin : ¬ inB k 1 9999 := fun q => cq3 q.2
        have hno : ¬ okPay t n (nI pp) (nI cc) k := fun q => hin q.2.2.1
        refine lv_ldc hx hb hown k2 dX9_pay_27 ?_
        have hP : va_P G.1 vwCl (dR G a ra nR s em (if okPay t n (nI pp) (nI cc) k then rmI i un else i) (if okPay t n (nI pp) (nI cc) k then upd eo 0 (nI (odN od un)) else eo) es t (if okPay t n (nI pp) (nI cc) k then payF t n (cl (nI pp)) (cl (nI cc)) k else n) d tx rt rn cd su bk co mo m0 m1 kp (if okPay t n (nI pp) (nI cc) k then rgN rg od un n else rg)) zs.heap := by rw [show (if okPay t n (nI pp) (nI cc) k then rmI i un else i) = i from (if_neg hno), show (if okPay t n (nI pp) (nI cc) k then upd eo 0 (nI (odN od un)) else eo) = eo from (if_neg hno), show (if okPay t n (nI pp) (nI cc) k then payF t n (cl (nI pp)) (cl (nI cc)) k else n) = n from (if_neg hno), show (if okPay t n (nI pp) (nI cc) k then rgN rg od un n else rg) = rg from (if_neg hno)]; exact hP
        exact mX_iret hAe C hP hS dX9_pay_29 (by unfold payR; rw [if_neg (not_not_intro hPC), if_pos hin])
  · skip
    have hno : ¬ okPay t n p c k := fun q => cq1 ⟨q.1, q.2.1⟩
    refine lv_ldc hx hb hown k6 dX9_pay_12 ?_
    have hP : va_P G.1 vwCl (dR G a ra nR s em (if okPay t n p c k then rmI i un else i) (if okPay t n p c k then upd eo 0 (nI (odN od un)) else eo) es t (if okPay t n p c k then payF t n (cl p) (cl c) k else n) d tx rt rn cd su bk co mo m0 m1 kp (if okPay t n p c k then rgN rg od un n else rg)) zs.heap := by rw [show (if okPay t n p c k then rmI i un else i) = i from (if_neg hno), show (if okPay t n p c k then upd eo 0 (nI (odN od un)) else eo) = eo from (if_neg hno), show (if okPay t n p c k then payF t n (cl p) (cl c) k else n) = n from (if_neg hno), show (if okPay t n p c k then rgN rg od un n else rg) = rg from (if_neg hno)]; exact hP
    exact mX_iret hAe C hP hS dX9_pay_14 (by unfold payR; rw [if_pos cq1])
theorem hd_X9_refusalOfQuarters : yX9_refusalOfQuarters.cls = RX9 ∧ yX9_refusalOfQuarters.cls ≠ "java/lang/invoke/MethodHandle" ∧ yX9_refusalOfQuarters.cls ≠ "java/lang/invoke/VarHandle" ∧ (parseMethodDescriptor yX9_refusalOfQuarters.desc).map (fun d => d.parameters.length) = some 1 := by decide +kernel
set_option maxRecDepth 100000 in
set_option maxHeartbeats 4000000 in
theorem c_X9_refusalOfQuarters (l : Launch) (G : gG) (a : Nat → Nat) (i : Nat → Int32) (t : Nat → Int32) (n : Nat → Int32) (x : Int32) : mR l yX9_refusalOfQuarters wsX9_refusalOfQuarters ({ frames := 0, cells := 0, slots := 0, locals := 0 }) G (uW G a i t n) [.ref (a 0), .int x] (rfR t n x) := by
  refine mR.of (cc := cX9_refusalOfQuarters) (maxL := 2) (ret := (some .int)) (by decide) rfl (Nat.le_of_ble_eq_true rfl) ?_
  intro zp ze zs zm zb zt zc ls C hP hK hl
  obtain ⟨hx, hb, hr, hml, hown, hts, hlk⟩ := id C
  have hl : lv_has ls 2 [(0, .ref (a 0)), (1, .int x)] := hl
  have k0 := hts (.constant RX9 81 (-1000000002)) (by decide +kernel)
  have k1 := hts (.fieldLink RX9 19 "DebtDowry" "terms" "LDebtDowry$Terms;") (by decide +kernel)
  have k2 := (fun w h => by revert w; decide +kernel : ∀ w ∈ wsX90, w ∈ wsX9_refusalOfQuarters)
  have k3 := hts (.fieldLink RX9 123 "DebtDowry$Terms" "there" "Z") (by decide +kernel)
  have k4 := (fun w h => by revert w; decide +kernel : ∀ w ∈ wsX80, w ∈ wsX9_refusalOfQuarters)
  have k5 := hts (.fieldLink RX9 28 "DebtDowry" "now" "LDebtDowry$State;") (by decide +kernel)
  have k6 := hts (.fieldLink RX9 135 "DebtDowry$State" "quarters" "I") (by decide +kernel)
  have k7 := (fun w h => by revert w; decide +kernel : ∀ w ∈ wsX70, w ∈ wsX9_refusalOfQuarters)
  have k8 := hts (.constant RX9 89 (-1000000004)) (by decide +kernel)
  have k9 := hts (.constant RX9 206 (-1000000003)) (by decide +kernel)
  refine lv_iload_n hx hb dX9_refusalOfQuarters_0 rfl (lv_at hl 1 rfl) ?_
  refine lv_iconst (v := 1) hx hb dX9_refusalOfQuarters_1 (by decide) ?_
  refine lv_icmp_lt (tgt := 11) hx hb dX9_refusalOfQuarters_2 (by decide) (fun cq1 => ?_) (fun cq1 => ?_)
  · skip
    have hin : ¬ inB x 1 20 := fun q => i32_nle.mpr cq1 q.1
    refine lv_ldc hx hb hown k0 dX9_refusalOfQuarters_11 ?_
    exact mR_iret C dX9_refusalOfQuarters_13 (by unfold rfR; rw [if_pos hin])
  · skip
    have hinl := i32_nlt.mp cq1
    refine lv_iload_n hx hb dX9_refusalOfQuarters_5 rfl (lv_at hl 1 rfl) ?_
    refine lv_bipush (v := 20) hx hb dX9_refusalOfQuarters_6 (by decide) ?_
    refine lv_icmp_le (tgt := 14) hx hb dX9_refusalOfQuarters_8 (by decide) (fun cq2 => ?_) (fun cq2 => ?_)
    · skip
      have hin : inB x 1 20 := ⟨hinl, cq2⟩
      refine lv_aload_n hx hb dX9_refusalOfQuarters_14 rfl (lv_at hl 0 rfl) ?_
      refine va_get (D := G.1) (ci := 9) (v := .ref (a 1)) (C := RX9) (T := TX9) (N := 11) hx hb hts k2 hown hK hP 0 rfl rfl 1 (by decide) k1 (fun _ h9 => h9) rfl dX9_refusalOfQuarters_15 ?_
      refine va_get (D := G.1) (ci := 8) (v := .int (t 0)) (C := RX8) (T := TX8) (N := 9) hx hb hts k4 hown hK hP 1 rfl rfl 0 (by decide) k3 (fun _ h9 => h9) rfl dX9_refusalOfQuarters_18 ?_
      refine lv_if_ne (tgt := 27) hx hb dX9_refusalOfQuarters_21 (by decide) (fun cq3 => ?_) (fun cq3 => ?_)
      · skip
        have h0 := cq3
        refine lv_aload_n hx hb dX9_refusalOfQuarters_27 rfl (lv_at hl 0 rfl) ?_
        refine va_get (D := G.1) (ci := 9) (v := .ref (a 5)) (C := RX9) (T := TX9) (N := 11) hx hb hts k2 hown hK hP 0 rfl rfl 2 (by decide) k5 (fun _ h9 => h9) rfl dX9_refusalOfQuarters_28 ?_
        refine va_get (D := G.1) (ci := 7) (v := .int (n 53)) (C := RX7) (T := TX7) (N := 7) hx hb hts k7 hown hK hP 5 rfl rfl 6 (by decide) k6 (fun _ h9 => h9) rfl dX9_refusalOfQuarters_31 ?_
        refine lv_sipush (v := 9000) hx hb dX9_refusalOfQuarters_34 (by decide) ?_
        refine lv_icmp_le (tgt := 45) hx hb dX9_refusalOfQuarters_37 (by decide) (fun cq4 => ?_) (fun cq4 => ?_)
        · skip
          have h9 := i32_nlt.mpr cq4
          refine lv_iconst (v := 0) hx hb dX9_refusalOfQuarters_45 (by decide) ?_
          exact mR_iret C dX9_refusalOfQuarters_46 (by unfold rfR; rw [if_neg (not_not_intro hin), if_neg h0, if_neg h9])
        · skip
          have h9 := i32_nle.mp cq4
          refine lv_ldc hx hb hown k8 dX9_refusalOfQuarters_40 ?_
          refine lv_goto (tgt := 46) hx hb dX9_refusalOfQuarters_42 (by decide) ?_
          exact mR_iret C dX9_refusalOfQuarters_46 (by unfold rfR; rw [if_neg (not_not_intro hin), if_neg h0, if_pos h9])
      · skip
        have h0 := cq3
        refine lv_ldc hx hb hown k9 dX9_refusalOfQuarters_24 ?_
        exact mR_iret C dX9_refusalOfQuarters_26 (by unfold rfR; rw [if_neg (not_not_intro hin), if_pos h0])
    · skip
      have hin : ¬ inB x 1 20 := fun q => cq2 q.2
      refine lv_ldc hx hb hown k0 dX9_refusalOfQuarters_11 ?_
      exact mR_iret C dX9_refusalOfQuarters_13 (by unfold rfR; rw [if_pos hin])
theorem hd_X9_refusalOfPair : yX9_refusalOfPair.cls = RX9 ∧ yX9_refusalOfPair.cls ≠ "java/lang/invoke/MethodHandle" ∧ yX9_refusalOfPair.cls ≠ "java/lang/invoke/VarHandle" ∧ (parseMethodDescriptor yX9_refusalOfPair.desc).map (fun d => d.parameters.length) = some 2 := by decide +kernel
set_option maxRecDepth 100000 in
set_option maxHeartbeats 4000000 in
theorem c_X9_refusalOfPair (l : Launch) (G : gG) (a : Nat → Nat) (i : Nat → Int32) (t : Nat → Int32) (n : Nat → Int32) (nc : Nat) (np : Nat) (g : Int32) (m : Int32) (hTT : okT t nc np) (hO : okS t n nc np) : mR l yX9_refusalOfPair wsX9_refusalOfPair ({ frames := 2, cells := 0, slots := 0, locals := 42 }) G (uW G a i t n) [.ref (a 0), .int g, .int m] (rfP t n g m) := by
  refine mR.of (cc := cX9_refusalOfPair) (maxL := 3) (ret := (some .int)) (by decide) rfl (Nat.le_of_ble_eq_true rfl) ?_
  intro zp ze zs zm zb zt zc ls C hP hK hl
  obtain ⟨hx, hb, hr, hml, hown, hts, hlk⟩ := id C
  have hl : lv_has ls 3 [(0, .ref (a 0)), (1, .int g), (2, .int m)] := hl
  have hT := hTT.1
  have hT2 := hT.2.2
  have hG := okT_G hTT
  have hLH := okT_L hTT
  have k0 := hts (.fieldLink RX9 19 "DebtDowry" "terms" "LDebtDowry$Terms;") (by decide +kernel)
  have k1 := (fun w h => by revert w; decide +kernel : ∀ w ∈ wsX90, w ∈ wsX9_refusalOfPair)
  have k2 := hts (.constant RX9 155 (-1000000001)) (by decide +kernel)
  have k3 := hts (.fieldLink RX9 28 "DebtDowry" "now" "LDebtDowry$State;") (by decide +kernel)
  have k4 := hts (.fieldLink RX9 179 "DebtDowry$State" "spouse" "[I") (by decide +kernel)
  have k5 := (fun w h => by revert w; decide +kernel : ∀ w ∈ wsX70, w ∈ wsX9_refusalOfPair)
  have k6 := hts (.constant RX9 206 (-1000000003)) (by decide +kernel)
  refine lv_aload_n hx hb dX9_refusalOfPair_0 rfl (lv_at hl 0 rfl) ?_
  refine va_get (D := G.1) (ci := 9) (v := .ref (a 1)) (C := RX9) (T := TX9) (N := 11) hx hb hts k1 hown hK hP 0 rfl rfl 1 (by decide) k0 (fun _ h9 => h9) rfl dX9_refusalOfPair_1 ?_
  refine lv_iload_n hx hb dX9_refusalOfPair_4 rfl (lv_at hl 1 rfl) ?_
  refine cR_V (Cn := RX8) (n := 1) (As := [.int g]) (rest := []) C (c_X8_isGirl l G (a 1) (a 2) (a 3) (a 4) t nc np g hT) gX9_refusalOfPair_X8_isGirl rfl ⟨rfl, rfl⟩ hd_X8_isGirl ⟨(Nat.le_of_ble_eq_true rfl), (Nat.le_of_ble_eq_true rfl)⟩ hK (hP.sub [1, 2, 3, 4] rfl) (va_recv hK hP (ci := 8) (q0 := 1) rfl rfl) rfl hl.1 rfl (Nat.le_of_ble_eq_true rfl) dX9_refusalOfPair_5 ⟨(Nat.le_of_ble_eq_true rfl), (Nat.le_of_ble_eq_true rfl)⟩ ?_
  refine b_if_eq (tgt := 22) hx hb dX9_refusalOfPair_8 (by decide) (fun cq1 => ?_) (fun cq1 => ?_)
  · skip
    have hno : ¬ (isG t g ∧ isM t m) := fun q => cq1 q.1
    refine lv_ldc hx hb hown k2 dX9_refusalOfPair_22 ?_
    exact mR_iret C dX9_refusalOfPair_24 (by unfold rfP; rw [if_pos hno])
  · skip
    have hGq := cq1
    obtain ⟨gg, hgg, rfl⟩ := inB_nat hT.2.1 (by omega) (And.left cq1)
    have hcl_gg := cl_nI (n := gg) (by omega)
    refine lv_aload_n hx hb dX9_refusalOfPair_11 rfl (lv_at hl 0 rfl) ?_
    refine va_get (D := G.1) (ci := 9) (v := .ref (a 1)) (C := RX9) (T := TX9) (N := 11) hx hb hts k1 hown hK hP 0 rfl rfl 1 (by decide) k0 (fun _ h9 => h9) rfl dX9_refusalOfPair_12 ?_
    refine lv_iload_n hx hb dX9_refusalOfPair_15 rfl (lv_at hl 2 rfl) ?_
    refine cR_V (Cn := RX8) (n := 1) (As := [.int m]) (rest := []) C (c_X8_isMan l G (a 1) (a 2) (a 3) (a 4) t nc np m hT) gX9_refusalOfPair_X8_isMan rfl ⟨rfl, rfl⟩ hd_X8_isMan ⟨(Nat.le_of_ble_eq_true rfl), (Nat.le_of_ble_eq_true rfl)⟩ hK (hP.sub [1, 2, 3, 4] rfl) (va_recv hK hP (ci := 8) (q0 := 1) rfl rfl) rfl hl.1 rfl (Nat.le_of_ble_eq_true rfl) dX9_refusalOfPair_16 ⟨(Nat.le_of_ble_eq_true rfl), (Nat.le_of_ble_eq_true rfl)⟩ ?_
    refine b_if_ne (tgt := 25) hx hb dX9_refusalOfPair_19 (by decide) (fun cq2 => ?_) (fun cq2 => ?_)
    · skip
      have hMq := cq2
      obtain ⟨mm, hmm, rfl⟩ := inB_nat hT.2.1 (by omega) (And.left cq2)
      have hcl_mm := cl_nI (n := mm) (by omega)
      refine lv_aload_n hx hb dX9_refusalOfPair_25 rfl (lv_at hl 0 rfl) ?_
      refine va_get (D := G.1) (ci := 9) (v := .ref (a 5)) (C := RX9) (T := TX9) (N := 11) hx hb hts k1 hown hK hP 0 rfl rfl 2 (by decide) k3 (fun _ h9 => h9) rfl dX9_refusalOfPair_26 ?_
      refine va_get (D := G.1) (ci := 7) (v := .ref (a 9)) (C := RX7) (T := TX7) (N := 7) hx hb hts k5 hown hK hP 5 rfl rfl 4 (by decide) k4 (fun _ h9 => h9) rfl dX9_refusalOfPair_29 ?_
      refine lv_iload_n hx hb dX9_refusalOfPair_32 rfl (lv_at hl 1 rfl) ?_
      refine n_iald hx hb hK hP 9 0 rfl rfl (j := gg) rfl (by omega) (by decide) dX9_refusalOfPair_33 ?_
      refine lv_iconst (v := (-1)) hx hb dX9_refusalOfPair_34 (by decide) ?_
      refine lv_icmp_ne (tgt := 51) hx hb dX9_refusalOfPair_35 (by decide) (fun cq3 => ?_) (fun cq3 => ?_)
      · skip
        have hap : ¬ (n (44 + gg) = -1 ∧ n (44 + mm) = -1) := fun q => cq3 q.1
        refine lv_ldc hx hb hown k6 dX9_refusalOfPair_51 ?_
        refine lv_goto (tgt := 57) hx hb dX9_refusalOfPair_53 (by decide) ?_
        exact mR_iret C dX9_refusalOfPair_57 (by unfold rfP; rw [if_neg (not_not_intro ⟨hGq, hMq⟩), hcl_gg, hcl_mm, if_pos hap])
      · skip
        have h35 := cq3
        refine lv_aload_n hx hb dX9_refusalOfPair_38 rfl (lv_at hl 0 rfl) ?_
        refine va_get (D := G.1) (ci := 9) (v := .ref (a 5)) (C := RX9) (T := TX9) (N := 11) hx hb hts k1 hown hK hP 0 rfl rfl 2 (by decide) k3 (fun _ h9 => h9) rfl dX9_refusalOfPair_39 ?_
        refine va_get (D := G.1) (ci := 7) (v := .ref (a 9)) (C := RX7) (T := TX7) (N := 7) hx hb hts k5 hown hK hP 5 rfl rfl 4 (by decide) k4 (fun _ h9 => h9) rfl dX9_refusalOfPair_42 ?_
        refine lv_iload_n hx hb dX9_refusalOfPair_45 rfl (lv_at hl 2 rfl) ?_
        refine n_iald hx hb hK hP 9 0 rfl rfl (j := mm) rfl (by omega) (by decide) dX9_refusalOfPair_46 ?_
        refine lv_iconst (v := (-1)) hx hb dX9_refusalOfPair_47 (by decide) ?_
        refine lv_icmp_eq (tgt := 56) hx hb dX9_refusalOfPair_48 (by decide) (fun cq4 => ?_) (fun cq4 => ?_)
        · skip
          have hap : n (44 + gg) = -1 ∧ n (44 + mm) = -1 := ⟨h35, cq4⟩
          refine lv_iconst (v := 0) hx hb dX9_refusalOfPair_56 (by decide) ?_
          exact mR_iret C dX9_refusalOfPair_57 (by unfold rfP; rw [if_neg (not_not_intro ⟨hGq, hMq⟩), hcl_gg, hcl_mm, if_neg (not_not_intro hap)])
        · skip
          have hap : ¬ (n (44 + gg) = -1 ∧ n (44 + mm) = -1) := fun q => cq4 q.2
          refine lv_ldc hx hb hown k6 dX9_refusalOfPair_51 ?_
          refine lv_goto (tgt := 57) hx hb dX9_refusalOfPair_53 (by decide) ?_
          exact mR_iret C dX9_refusalOfPair_57 (by unfold rfP; rw [if_neg (not_not_intro ⟨hGq, hMq⟩), hcl_gg, hcl_mm, if_pos hap])
    · skip
      have hno : ¬ (isG t (nI gg) ∧ isM t m) := fun q => cq2 q.2
      refine lv_ldc hx hb hown k2 dX9_refusalOfPair_22 ?_
      exact mR_iret C dX9_refusalOfPair_24 (by unfold rfP; rw [if_pos hno])
theorem hd_X9_quarter : yX9_quarter.cls = RX9 ∧ yX9_quarter.cls ≠ "java/lang/invoke/MethodHandle" ∧ yX9_quarter.cls ≠ "java/lang/invoke/VarHandle" ∧ (parseMethodDescriptor yX9_quarter.desc).map (fun d => d.parameters.length) = some 1 := by decide +kernel
set_option maxRecDepth 100000 in
set_option maxHeartbeats 4000000 in
theorem c_X9_quarter (l : Launch) (G : gG) (a : Nat → Nat) (ra : Nat → Nat → Nat) (nR : Nat) (s : RSt) (em : Int32) (i : Nat → Int32) (eo : Nat → Int32) (es : Nat → Int32) (t : Nat → Int32) (n : Nat → Int32) (d : Nat → Int32) (tx : Nat → Int32) (rt : Nat → Int32) (rn : Nat → Int32) (cd : Nat → Int32) (su : Nat → Int32) (bk : Nat → Int32) (co : Nat → Int32) (mo : Nat → Int32) (m0 : Nat → Int32) (m1 : Nat → Int32) (kp : Nat → Int32) (rg : Nat → Nat → Int32) (nc : Nat) (np : Nat) (un : Nat) (od : Nat) (x : Int32) (hTT : okT t nc np) (hO : okS t n nc np) (hun : i 5 = nI un) (hul : un ≤ 30) (hod : eo 0 = nI od) (hol : od < 30) (hnR : nR = 30) : mX l yX9_quarter wsX9_quarter ({ frames := 5, cells := 0, slots := 0, locals := 111 }) G (dR G a ra nR s em i eo es t n d tx rt rn cd su bk co mo m0 m1 kp rg) (dR G a ra nR s em (if rfR t n x = 0 then upd i 5 (nI (unQ un (cl x))) else i) (if rfR t n x = 0 then upd eo 0 (nI (odQ od un (cl x))) else eo) es t (if rfR t n x = 0 then nQ t nc np n (cl x) else n) d tx rt rn cd su bk co mo m0 m1 kp (if rfR t n x = 0 then rgQ t nc np n rg od un (cl x) else rg)) [.ref (a 0), .int x] (.returned (some (.int (quR t n nc np x)))) := by
  refine mX.of (cc := cX9_quarter) (maxL := 5) (ret := (some .int)) (by decide) rfl (Nat.le_of_ble_eq_true rfl) ?_
  intro zp ze zs zm zb zt zc ls A hAe C hP hK hD hS hl
  obtain ⟨hx, hb, hr, hml, hown, hts, hlk⟩ := id C
  have hl : lv_has ls 5 [(0, .ref (a 0)), (1, .int x)] := hl
  have hT := hTT.1
  have hT2 := hT.2.2
  have hG := okT_G hTT
  have hLH := okT_L hTT
  have k0 := hts (.fieldLink RX9 38 "DebtDowry" "history" "LDebtDowry$History;") (by decide +kernel)
  have k1 := (fun w h => by revert w; decide +kernel : ∀ w ∈ wsX90, w ∈ wsX9_quarter)
  have k2 := hts (.fieldLink RX9 28 "DebtDowry" "now" "LDebtDowry$State;") (by decide +kernel)
  refine lv_aload_n hx hb dX9_quarter_0 rfl (lv_at hl 0 rfl) ?_
  refine lv_iload_n hx hb dX9_quarter_1 rfl (lv_at hl 1 rfl) ?_
  refine cR_V (Cn := RX9) (n := 1) (As := [.int x]) (rest := []) C (c_X9_refusalOfQuarters l G a i t n  x ) gX9_quarter_X9_refusalOfQuarters rfl ⟨rfl, rfl⟩ hd_X9_refusalOfQuarters ⟨(Nat.le_of_ble_eq_true rfl), (Nat.le_of_ble_eq_true rfl)⟩ hK (hP.sub [0, 1, 2, 3, 4, 5, 6, 7, 8, 9] rfl) (va_recv hK hP (ci := 9) (q0 := 0) rfl rfl) rfl hl.1 rfl (Nat.le_of_ble_eq_true rfl) dX9_quarter_2 ⟨(Nat.le_of_ble_eq_true rfl), (Nat.le_of_ble_eq_true rfl)⟩ ?_
  refine lv_istore_n (lv' := [(2, .int (rfR t n x)), (0, .ref (a 0)), (1, .int x)]) hx hb dX9_quarter_5 rfl hl (by decide) rfl (fun ls hl => ?_)
  refine lv_iload_n hx hb dX9_quarter_6 rfl (lv_at hl 0 rfl) ?_
  refine lv_if_eq (tgt := 12) hx hb dX9_quarter_7 (by decide) (fun cq1 => ?_) (fun cq1 => ?_)
  · skip
    have hrf := cq1
    obtain ⟨kk, hkk1, hkk2, rfl⟩ := inB_rng (a := 1) (b := 20) rfl rfl (by decide) (by decide) (rfR_0 cq1)
    have hcl_kk := cl_nI (n := kk) (by omega)
    refine lv_iconst (v := 0) hx hb dX9_quarter_12 (by decide) ?_
    refine lv_istore_n (lv' := [(3, .int 0), (2, .int (rfR t n (nI kk))), (0, .ref (a 0)), (1, .int (nI kk))]) hx hb dX9_quarter_13 rfl hl (by decide) rfl (fun ls hl => ?_)
    refine lv_iconst (v := 0) hx hb dX9_quarter_14 (by decide) ?_
    refine lv_istore (lv' := [(4, .int 0), (3, .int 0), (2, .int (rfR t n (nI kk))), (0, .ref (a 0)), (1, .int (nI kk))]) hx hb dX9_quarter_15 hl (by decide) rfl (fun ls hl => ?_)
    have he0 : upd eo 0 (nI (odQ od un 0)) = eo := upd_self hod
    have hi0 : upd i 5 (nI (unQ un 0)) = i := upd_self hun
    refine wl_X (B := kk) (i0 := 0) (Inv := fun i1 H locs ls => va_P G.1 vwCl (dR G a ra nR s em (upd i 5 (nI (unQ un i1))) (upd eo 0 (nI (odQ od un i1))) es t (nQ t nc np n i1) d tx rt rn cd su bk co mo m0 m1 kp (rgQ t nc np n rg od un i1)) H ∧ va_D A (dR G a ra nR s em (upd i 5 (nI (unQ un i1))) (upd eo 0 (nI (odQ od un i1))) es t (nQ t nc np n i1) d tx rt rn cd su bk co mo m0 m1 kp (rgQ t nc np n rg od un i1)) ∧ va_S A zs.heap H locs ∧ lv_has ls 5 [(0, .ref (a 0)), (1, .int (nI kk)), (3, .int (fqU t nc np n i1)), (4, .int (nI i1))] ∧ True) (by omega) ⟨by rw [he0, hi0]; exact hP, by rw [he0, hi0]; exact hD, hS, lv_sub hl [3, 4, 1, 0] (rfl), trivial⟩ ?_
    rintro i1 H locs ls hle17 ⟨hP, hD, hS, hl, -⟩ ih17
    refine lv_iload hx hb dX9_quarter_17 (lv_at hl 3 rfl) ?_
    refine lv_iload_n hx hb dX9_quarter_19 rfl (lv_at hl 1 rfl) ?_
    refine n_icmp_ge (tgt := 50) hx hb dX9_quarter_20 (by decide) (u := i1) (v := kk) rfl rfl (by omega) (by omega) (fun cq2 => ?_) (fun cq2 => ?_)
    · skip
      obtain rfl : kk = i1 := by omega
      obtain ⟨ff, hff, hfe⟩ := fq_lt (t := t) (n := n) (np := np) hT2.1 kk
      refine lv_iload_n hx hb dX9_quarter_50 rfl (lv_at hl 2 rfl) ?_
      refine cR_S (n := 1) (As := [.int (nI ff)]) (rest := []) C (c_J6_bitCount_0f7a4 l G    ff hff) gX9_quarter_J6_bitCount_0f7a4 rfl ⟨rfl, rfl⟩ hd_J6_bitCount_0f7a4 ⟨(Nat.le_of_ble_eq_true rfl), (Nat.le_of_ble_eq_true rfl)⟩ hK (hP.sub [] rfl) rfl hl.1 (by rw [show (fqU t nc np n kk : Int32) = nI ff from hfe]; rfl) (Nat.le_of_ble_eq_true rfl) dX9_quarter_51 ⟨(Nat.le_of_ble_eq_true rfl), (Nat.le_of_ble_eq_true rfl)⟩ ?_
      have hP : va_P G.1 vwCl (dR G a ra nR s em (if rfR t n (nI kk) = 0 then upd i 5 (nI (unQ un (cl (nI kk)))) else i) (if rfR t n (nI kk) = 0 then upd eo 0 (nI (odQ od un (cl (nI kk)))) else eo) es t (if rfR t n (nI kk) = 0 then nQ t nc np n (cl (nI kk)) else n) d tx rt rn cd su bk co mo m0 m1 kp (if rfR t n (nI kk) = 0 then rgQ t nc np n rg od un (cl (nI kk)) else rg)) H := by rw [show (if rfR t n (nI kk) = 0 then upd i 5 (nI (unQ un (cl (nI kk)))) else i) = (upd i 5 (nI (unQ un kk))) from by rw [if_pos hrf, hcl_kk], show (if rfR t n (nI kk) = 0 then upd eo 0 (nI (odQ od un (cl (nI kk)))) else eo) = (upd eo 0 (nI (odQ od un kk))) from by rw [if_pos hrf, hcl_kk], show (if rfR t n (nI kk) = 0 then nQ t nc np n (cl (nI kk)) else n) = (nQ t nc np n kk) from by rw [if_pos hrf, hcl_kk], show (if rfR t n (nI kk) = 0 then rgQ t nc np n rg od un (cl (nI kk)) else rg) = (rgQ t nc np n rg od un kk) from by rw [if_pos hrf, hcl_kk]]; exact hP
      exact mX_iret hAe C hP hS dX9_quarter_54 (by unfold quR; rw [if_neg (not_not_intro hrf), hcl_kk, ← (fq_eq hT2.1 kk).1, hfe])
    · skip
      refine lv_aload_n hx hb dX9_quarter_23 rfl (lv_at hl 0 rfl) ?_
      refine va_get (D := G.1) (ci := 9) (v := .ref (a 26)) (C := RX9) (T := TX9) (N := 11) hx hb hts k1 hown hK hP 0 rfl rfl 4 (by decide) k0 (fun _ h9 => h9) rfl dX9_quarter_24 ?_
      refine lv_aload_n hx hb dX9_quarter_27 rfl (lv_at hl 0 rfl) ?_
      refine va_get (D := G.1) (ci := 9) (v := .ref (a 5)) (C := RX9) (T := TX9) (N := 11) hx hb hts k1 hown hK hP 0 rfl rfl 2 (by decide) k2 (fun _ h9 => h9) rfl dX9_quarter_28 ?_
      refine cX_VI (Cn := RX2) (n := 1) (As := [.ref (a 5)]) (rest := []) (wsn := dR G a ra nR s em (rmI (upd i 5 (nI (unQ un i1))) (unQ un i1)) (upd (upd eo 0 (nI (odQ od un i1))) 0 (nI (odN (odQ od un i1) (unQ un i1)))) es t (nQ t nc np n i1) d tx rt rn cd su bk co mo m0 m1 kp (rgN (rgQ t nc np n rg od un i1) (odQ od un i1) (unQ un i1) (nQ t nc np n i1))) C (c_X2_note_b l G a ra nR s em (upd i 5 (nI (unQ un i1))) (upd eo 0 (nI (odQ od un i1))) es t (nQ t nc np n i1) d tx rt rn cd su bk co mo m0 m1 kp (rgQ t nc np n rg od un i1) (unQ un i1) (odQ od un i1)  (upd_at _ _ _) (unQ_le hul i1) (upd_at _ _ _) (odQ_lt hol i1) hnR) gX9_quarter_X2_note rfl ⟨rfl, rfl⟩ hd_X2_note ⟨(Nat.le_of_ble_eq_true rfl), (Nat.le_of_ble_eq_true rfl)⟩ hK hP hD hS (dR_f.trans dR_f.symm) (va_recv hK hP (ci := 2) (q0 := 26) rfl rfl) rfl hl.1 rfl (Nat.le_of_ble_eq_true rfl) dX9_quarter_31 ⟨(Nat.le_of_ble_eq_true rfl), (Nat.le_of_ble_eq_true rfl)⟩ (fun H locs hP hD hS => ?_)
      refine lv_iload_n hx hb dX9_quarter_34 rfl (lv_at hl 2 rfl) ?_
      refine lv_aload_n hx hb dX9_quarter_35 rfl (lv_at hl 0 rfl) ?_
      refine va_get (D := G.1) (ci := 9) (v := .ref (a 5)) (C := RX9) (T := TX9) (N := 11) hx hb hts k1 hown hK hP 0 rfl rfl 2 (by decide) k2 (fun _ h9 => h9) rfl dX9_quarter_36 ?_
      refine cX_V (Cn := RX7) (n := 0) (As := []) (rest := [.int (fqU t nc np n i1)]) (wsn := dR G a ra nR s em (rmI (upd i 5 (nI (unQ un i1))) (unQ un i1)) (upd (upd eo 0 (nI (odQ od un i1))) 0 (nI (odN (odQ od un i1) (unQ un i1)))) es t (qgF t (nQ t nc np n i1) nc np) d tx rt rn cd su bk co mo m0 m1 kp (rgN (rgQ t nc np n rg od un i1) (odQ od un i1) (unQ un i1) (nQ t nc np n i1))) C (c_X7_passQuarter l G (a 5) (a 6) (a 7) (a 8) (a 9) (a 1) (a 2) (a 3) (a 4) t (nQ t nc np n i1) nc np  hT (okS_nQ hTT hO i1)) gX9_quarter_X7_passQuarter rfl ⟨rfl, rfl⟩ hd_X7_passQuarter ⟨(Nat.le_of_ble_eq_true rfl), (Nat.le_of_ble_eq_true rfl)⟩ hK hP hD hS [5, 6, 7, 8, 9, 1, 2, 3, 4] (by decide) rfl (sW_f.trans sW_f.symm) rfl (dR_f.trans dR_f.symm) (va_recv hK hP (ci := 7) (q0 := 5) rfl rfl) rfl hl.1 rfl (Nat.le_of_ble_eq_true rfl) dX9_quarter_39 ⟨(Nat.le_of_ble_eq_true rfl), (Nat.le_of_ble_eq_true rfl)⟩ (fun H locs hP hD hS => ?_)
      refine lv_ior hx hb dX9_quarter_42 ?_
      refine lv_istore_n (lv' := [(3, .int ((fqU t nc np n i1) ||| (soursU t (qg2 t (nQ t nc np n i1)) np nc))), (0, .ref (a 0)), (1, .int (nI kk)), (4, .int (nI i1))]) hx hb dX9_quarter_43 rfl hl (by decide) rfl (fun ls hl => ?_)
      refine lv_iinc (v := nI (i1 + 1)) (lv' := [(4, .int (nI (i1 + 1))), (3, .int ((fqU t nc np n i1) ||| (soursU t (qg2 t (nQ t nc np n i1)) np nc))), (0, .ref (a 0)), (1, .int (nI kk))]) hx hb dX9_quarter_44 hl (k := 3) rfl (by rw [show (nI i1 : Int32) = nI i1 from rfl]; exact nI_add _ 1) (by decide) rfl (fun ls hl => ?_)
      refine lv_goto (tgt := 17) hx hb dX9_quarter_47 (by decide) ?_
      have e3 : qgF t (nQ t nc np n i1) nc np = nQ t nc np n (i1 + 1) := rfl
      have e4 : rgN (rgQ t nc np n rg od un i1) (odQ od un i1) (unQ un i1) (nQ t nc np n i1) = rgQ t nc np n rg od un (i1 + 1) := rfl
      have e5 : upd (upd eo 0 (nI (odQ od un i1))) 0 (nI (odN (odQ od un i1) (unQ un i1))) = upd eo 0 (nI (odQ od un (i1 + 1))) := upd_upd _ _ _ _
      have e6 : rmI (upd i 5 (nI (unQ un i1))) (unQ un i1) = upd i 5 (nI (unQ un (i1 + 1))) := upd_upd _ _ _ _
      rw [e3, e4, e5, e6] at hP hD
      exact ih17 _ _ _ (by omega) ⟨hP, hD, hS, lv_sub hl [2, 3, 1, 0] (rfl), trivial⟩
  · skip
    have hrf := cq1
    refine lv_iload_n hx hb dX9_quarter_10 rfl (lv_at hl 0 rfl) ?_
    have hP : va_P G.1 vwCl (dR G a ra nR s em (if rfR t n x = 0 then upd i 5 (nI (unQ un (cl x))) else i) (if rfR t n x = 0 then upd eo 0 (nI (odQ od un (cl x))) else eo) es t (if rfR t n x = 0 then nQ t nc np n (cl x) else n) d tx rt rn cd su bk co mo m0 m1 kp (if rfR t n x = 0 then rgQ t nc np n rg od un (cl x) else rg)) zs.heap := by rw [show (if rfR t n x = 0 then upd i 5 (nI (unQ un (cl x))) else i) = i from (if_neg hrf), show (if rfR t n x = 0 then upd eo 0 (nI (odQ od un (cl x))) else eo) = eo from (if_neg hrf), show (if rfR t n x = 0 then nQ t nc np n (cl x) else n) = n from (if_neg hrf), show (if rfR t n x = 0 then rgQ t nc np n rg od un (cl x) else rg) = rg from (if_neg hrf)]; exact hP
    exact mX_iret hAe C hP hS dX9_quarter_11 ((if_pos hrf).symm)
theorem hd_X9_wed : yX9_wed.cls = RX9 ∧ yX9_wed.cls ≠ "java/lang/invoke/MethodHandle" ∧ yX9_wed.cls ≠ "java/lang/invoke/VarHandle" ∧ (parseMethodDescriptor yX9_wed.desc).map (fun d => d.parameters.length) = some 2 := by decide +kernel
set_option maxRecDepth 100000 in
set_option maxHeartbeats 4000000 in
theorem c_X9_wed (l : Launch) (G : gG) (a : Nat → Nat) (ra : Nat → Nat → Nat) (nR : Nat) (s : RSt) (em : Int32) (i : Nat → Int32) (eo : Nat → Int32) (es : Nat → Int32) (t : Nat → Int32) (n : Nat → Int32) (d : Nat → Int32) (tx : Nat → Int32) (rt : Nat → Int32) (rn : Nat → Int32) (cd : Nat → Int32) (su : Nat → Int32) (bk : Nat → Int32) (co : Nat → Int32) (mo : Nat → Int32) (m0 : Nat → Int32) (m1 : Nat → Int32) (kp : Nat → Int32) (rg : Nat → Nat → Int32) (nc : Nat) (np : Nat) (un : Nat) (od : Nat) (g : Int32) (m : Int32) (hTT : okT t nc np) (hO : okS t n nc np) (hun : i 5 = nI un) (hul : un ≤ 30) (hod : eo 0 = nI od) (hol : od < 30) (hnR : nR = 30) : mX l yX9_wed wsX9_wed ({ frames := 4, cells := 0, slots := 0, locals := 89 }) G (dR G a ra nR s em i eo es t n d tx rt rn cd su bk co mo m0 m1 kp rg) (dR G a ra nR s em (if isG t g ∧ isM t m ∧ n (44 + cl g) = -1 ∧ n (44 + cl m) = -1 then rmI i un else i) (if isG t g ∧ isM t m ∧ n (44 + cl g) = -1 ∧ n (44 + cl m) = -1 then upd eo 0 (nI (odN od un)) else eo) es t (if isG t g ∧ isM t m ∧ n (44 + cl g) = -1 ∧ n (44 + cl m) = -1 then wedF n (cl g) (cl m) else n) d tx rt rn cd su bk co mo m0 m1 kp (if isG t g ∧ isM t m ∧ n (44 + cl g) = -1 ∧ n (44 + cl m) = -1 then rgN rg od un n else rg)) [.ref (a 0), .int g, .int m] (.returned (some (.int (weR t n nc g m)))) := by
  refine mX.of (cc := cX9_wed) (maxL := 4) (ret := (some .int)) (by decide) rfl (Nat.le_of_ble_eq_true rfl) ?_
  intro zp ze zs zm zb zt zc ls A hAe C hP hK hD hS hl
  obtain ⟨hx, hb, hr, hml, hown, hts, hlk⟩ := id C
  have hl : lv_has ls 4 [(0, .ref (a 0)), (1, .int g), (2, .int m)] := hl
  have hT := hTT.1
  have hT2 := hT.2.2
  have hG := okT_G hTT
  have hLH := okT_L hTT
  have k0 := hts (.fieldLink RX9 38 "DebtDowry" "history" "LDebtDowry$History;") (by decide +kernel)
  have k1 := (fun w h => by revert w; decide +kernel : ∀ w ∈ wsX90, w ∈ wsX9_wed)
  have k2 := hts (.fieldLink RX9 28 "DebtDowry" "now" "LDebtDowry$State;") (by decide +kernel)
  refine lv_aload_n hx hb dX9_wed_0 rfl (lv_at hl 0 rfl) ?_
  refine lv_iload_n hx hb dX9_wed_1 rfl (lv_at hl 1 rfl) ?_
  refine lv_iload_n hx hb dX9_wed_2 rfl (lv_at hl 2 rfl) ?_
  refine cR_V (Cn := RX9) (n := 2) (As := [.int g, .int m]) (rest := []) C (c_X9_refusalOfPair l G a i t n nc np g m hTT hO) gX9_wed_X9_refusalOfPair rfl ⟨rfl, rfl⟩ hd_X9_refusalOfPair ⟨(Nat.le_of_ble_eq_true rfl), (Nat.le_of_ble_eq_true rfl)⟩ hK (hP.sub [0, 1, 2, 3, 4, 5, 6, 7, 8, 9] rfl) (va_recv hK hP (ci := 9) (q0 := 0) rfl rfl) rfl hl.1 rfl (Nat.le_of_ble_eq_true rfl) dX9_wed_3 ⟨(Nat.le_of_ble_eq_true rfl), (Nat.le_of_ble_eq_true rfl)⟩ ?_
  refine lv_istore_n (lv' := [(3, .int (rfP t n g m)), (0, .ref (a 0)), (1, .int g), (2, .int m)]) hx hb dX9_wed_6 rfl hl (by decide) rfl (fun ls hl => ?_)
  refine lv_iload_n hx hb dX9_wed_7 rfl (lv_at hl 0 rfl) ?_
  refine lv_if_eq (tgt := 13) hx hb dX9_wed_8 (by decide) (fun cq1 => ?_) (fun cq1 => ?_)
  · skip
    have hrf := cq1
    have hok := rfP_0 cq1
    obtain ⟨gg, hgg, rfl⟩ := inB_nat hT.2.1 (by omega) (hok.1.1)
    have hcl_gg := cl_nI (n := gg) (by omega)
    obtain ⟨mm, hmm, rfl⟩ := inB_nat hT.2.1 (by omega) (hok.2.1.1)
    have hcl_mm := cl_nI (n := mm) (by omega)
    have hgm : gg ≠ mm := fun q => hok.2.1.2 (by rw [← q]; exact hok.1.2)
    refine lv_aload_n hx hb dX9_wed_13 rfl (lv_at hl 1 rfl) ?_
    refine va_get (D := G.1) (ci := 9) (v := .ref (a 26)) (C := RX9) (T := TX9) (N := 11) hx hb hts k1 hown hK hP 0 rfl rfl 4 (by decide) k0 (fun _ h9 => h9) rfl dX9_wed_14 ?_
    refine lv_aload_n hx hb dX9_wed_17 rfl (lv_at hl 1 rfl) ?_
    refine va_get (D := G.1) (ci := 9) (v := .ref (a 5)) (C := RX9) (T := TX9) (N := 11) hx hb hts k1 hown hK hP 0 rfl rfl 2 (by decide) k2 (fun _ h9 => h9) rfl dX9_wed_18 ?_
    refine cX_VI (Cn := RX2) (n := 1) (As := [.ref (a 5)]) (rest := []) (wsn := dR G a ra nR s em (rmI i un) (upd eo 0 (nI (odN od un))) es t n d tx rt rn cd su bk co mo m0 m1 kp (rgN rg od un n)) C (c_X2_note_b l G a ra nR s em i eo es t n d tx rt rn cd su bk co mo m0 m1 kp rg un od  hun hul hod hol hnR) gX9_wed_X2_note rfl ⟨rfl, rfl⟩ hd_X2_note ⟨(Nat.le_of_ble_eq_true rfl), (Nat.le_of_ble_eq_true rfl)⟩ hK hP hD hS (dR_f.trans dR_f.symm) (va_recv hK hP (ci := 2) (q0 := 26) rfl rfl) rfl hl.1 rfl (Nat.le_of_ble_eq_true rfl) dX9_wed_21 ⟨(Nat.le_of_ble_eq_true rfl), (Nat.le_of_ble_eq_true rfl)⟩ (fun H locs hP hD hS => ?_)
    refine lv_aload_n hx hb dX9_wed_24 rfl (lv_at hl 1 rfl) ?_
    refine va_get (D := G.1) (ci := 9) (v := .ref (a 5)) (C := RX9) (T := TX9) (N := 11) hx hb hts k1 hown hK hP 0 rfl rfl 2 (by decide) k2 (fun _ h9 => h9) rfl dX9_wed_25 ?_
    refine lv_iload_n hx hb dX9_wed_28 rfl (lv_at hl 2 rfl) ?_
    refine lv_iload_n hx hb dX9_wed_29 rfl (lv_at hl 3 rfl) ?_
    refine cX_V (Cn := RX7) (n := 2) (As := [.int (nI gg), .int (nI mm)]) (rest := []) (wsn := dR G a ra nR s em (rmI i un) (upd eo 0 (nI (odN od un))) es t (wedF n gg mm) d tx rt rn cd su bk co mo m0 m1 kp (rgN rg od un n)) C (c_X7_unite l G (a 5) (a 6) (a 7) (a 8) (a 9) (a 1) (a 2) (a 3) (a 4) t n nc np gg mm hT hO (by omega) (by omega)) gX9_wed_X7_unite rfl ⟨rfl, rfl⟩ hd_X7_unite ⟨(Nat.le_of_ble_eq_true rfl), (Nat.le_of_ble_eq_true rfl)⟩ hK hP hD hS [5, 6, 7, 8, 9, 1, 2, 3, 4] (by decide) rfl (sW_f.trans sW_f.symm) rfl (dR_f.trans dR_f.symm) (va_recv hK hP (ci := 7) (q0 := 5) rfl rfl) rfl hl.1 rfl (Nat.le_of_ble_eq_true rfl) dX9_wed_30 ⟨(Nat.le_of_ble_eq_true rfl), (Nat.le_of_ble_eq_true rfl)⟩ (fun H locs hP hD hS => ?_)
    refine lv_aload_n hx hb dX9_wed_33 rfl (lv_at hl 1 rfl) ?_
    refine va_get (D := G.1) (ci := 9) (v := .ref (a 5)) (C := RX9) (T := TX9) (N := 11) hx hb hts k1 hown hK hP 0 rfl rfl 2 (by decide) k2 (fun _ h9 => h9) rfl dX9_wed_34 ?_
    refine lv_iload_n hx hb dX9_wed_37 rfl (lv_at hl 2 rfl) ?_
    refine cR_V (Cn := RX7) (n := 1) (As := [.int (nI gg)]) (rest := []) C (c_X7_standingOf l G (a 5) (a 6) (a 7) (a 8) (a 9) (a 1) (a 2) (a 3) (a 4) t (wedF n gg mm) nc np gg hT (by omega)) gX9_wed_X7_standingOf rfl ⟨rfl, rfl⟩ hd_X7_standingOf ⟨(Nat.le_of_ble_eq_true rfl), (Nat.le_of_ble_eq_true rfl)⟩ hK (hP.sub [5, 6, 7, 8, 9, 1, 2, 3, 4] rfl) (va_recv hK hP (ci := 7) (q0 := 5) rfl rfl) rfl hl.1 rfl (Nat.le_of_ble_eq_true rfl) dX9_wed_38 ⟨(Nat.le_of_ble_eq_true rfl), (Nat.le_of_ble_eq_true rfl)⟩ ?_
    refine lv_bipush (v := 10) hx hb dX9_wed_41 (by decide) ?_
    refine lv_iadd hx hb dX9_wed_43 ?_
    have hP : va_P G.1 vwCl (dR G a ra nR s em (if isG t (nI gg) ∧ isM t (nI mm) ∧ n (44 + cl (nI gg)) = -1 ∧ n (44 + cl (nI mm)) = -1 then rmI i un else i) (if isG t (nI gg) ∧ isM t (nI mm) ∧ n (44 + cl (nI gg)) = -1 ∧ n (44 + cl (nI mm)) = -1 then upd eo 0 (nI (odN od un)) else eo) es t (if isG t (nI gg) ∧ isM t (nI mm) ∧ n (44 + cl (nI gg)) = -1 ∧ n (44 + cl (nI mm)) = -1 then wedF n (cl (nI gg)) (cl (nI mm)) else n) d tx rt rn cd su bk co mo m0 m1 kp (if isG t (nI gg) ∧ isM t (nI mm) ∧ n (44 + cl (nI gg)) = -1 ∧ n (44 + cl (nI mm)) = -1 then rgN rg od un n else rg)) H := by rw [show (if isG t (nI gg) ∧ isM t (nI mm) ∧ n (44 + cl (nI gg)) = -1 ∧ n (44 + cl (nI mm)) = -1 then rmI i un else i) = (rmI i un) from by rw [if_pos hok]; first | done | rfl | (rw [hcl_gg, hcl_mm]; done), show (if isG t (nI gg) ∧ isM t (nI mm) ∧ n (44 + cl (nI gg)) = -1 ∧ n (44 + cl (nI mm)) = -1 then upd eo 0 (nI (odN od un)) else eo) = (upd eo 0 (nI (odN od un))) from by rw [if_pos hok]; first | done | rfl | (rw [hcl_gg, hcl_mm]; done), show (if isG t (nI gg) ∧ isM t (nI mm) ∧ n (44 + cl (nI gg)) = -1 ∧ n (44 + cl (nI mm)) = -1 then wedF n (cl (nI gg)) (cl (nI mm)) else n) = (wedF n gg mm) from by rw [if_pos hok]; first | done | rfl | (rw [hcl_gg, hcl_mm]; done), show (if isG t (nI gg) ∧ isM t (nI mm) ∧ n (44 + cl (nI gg)) = -1 ∧ n (44 + cl (nI mm)) = -1 then rgN rg od un n else rg) = (rgN rg od un n) from by rw [if_pos hok]; first | done | rfl | (rw [hcl_gg, hcl_mm]; done)]; exact hP
    exact mX_iret hAe C hP hS dX9_wed_44 (by unfold weR; rw [if_neg (not_not_intro ⟨hok.1, hok.2.1⟩), if_neg (not_not_intro hok.2.2), hcl_gg, hcl_mm])
  · skip
    have hrf := cq1
    have hno := rfP_n cq1
    refine lv_iload_n hx hb dX9_wed_11 rfl (lv_at hl 0 rfl) ?_
    have hP : va_P G.1 vwCl (dR G a ra nR s em (if isG t g ∧ isM t m ∧ n (44 + cl g) = -1 ∧ n (44 + cl m) = -1 then rmI i un else i) (if isG t g ∧ isM t m ∧ n (44 + cl g) = -1 ∧ n (44 + cl m) = -1 then upd eo 0 (nI (odN od un)) else eo) es t (if isG t g ∧ isM t m ∧ n (44 + cl g) = -1 ∧ n (44 + cl m) = -1 then wedF n (cl g) (cl m) else n) d tx rt rn cd su bk co mo m0 m1 kp (if isG t g ∧ isM t m ∧ n (44 + cl g) = -1 ∧ n (44 + cl m) = -1 then rgN rg od un n else rg)) zs.heap := by rw [show (if isG t g ∧ isM t m ∧ n (44 + cl g) = -1 ∧ n (44 + cl m) = -1 then rmI i un else i) = i from (if_neg hno), show (if isG t g ∧ isM t m ∧ n (44 + cl g) = -1 ∧ n (44 + cl m) = -1 then upd eo 0 (nI (odN od un)) else eo) = eo from (if_neg hno), show (if isG t g ∧ isM t m ∧ n (44 + cl g) = -1 ∧ n (44 + cl m) = -1 then wedF n (cl g) (cl m) else n) = n from (if_neg hno), show (if isG t g ∧ isM t m ∧ n (44 + cl g) = -1 ∧ n (44 + cl m) = -1 then rgN rg od un n else rg) = rg from (if_neg hno)]; exact hP
    exact mX_iret hAe C hP hS dX9_wed_12 (wed_no hrf)
theorem hd_X9_divorce : yX9_divorce.cls = RX9 ∧ yX9_divorce.cls ≠ "java/lang/invoke/MethodHandle" ∧ yX9_divorce.cls ≠ "java/lang/invoke/VarHandle" ∧ (parseMethodDescriptor yX9_divorce.desc).map (fun d => d.parameters.length) = some 1 := by decide +kernel
set_option maxRecDepth 100000 in
set_option maxHeartbeats 4000000 in
theorem c_X9_divorce (l : Launch) (G : gG) (a : Nat → Nat) (ra : Nat → Nat → Nat) (nR : Nat) (s : RSt) (em : Int32) (i : Nat → Int32) (eo : Nat → Int32) (es : Nat → Int32) (t : Nat → Int32) (n : Nat → Int32) (d : Nat → Int32) (tx : Nat → Int32) (rt : Nat → Int32) (rn : Nat → Int32) (cd : Nat → Int32) (su : Nat → Int32) (bk : Nat → Int32) (co : Nat → Int32) (mo : Nat → Int32) (m0 : Nat → Int32) (m1 : Nat → Int32) (kp : Nat → Int32) (rg : Nat → Nat → Int32) (nc : Nat) (np : Nat) (un : Nat) (od : Nat) (g : Int32) (hTT : okT t nc np) (hO : okS t n nc np) (hun : i 5 = nI un) (hul : un ≤ 30) (hod : eo 0 = nI od) (hol : od < 30) (hnR : nR = 30) : mX l yX9_divorce wsX9_divorce ({ frames := 3, cells := 0, slots := 0, locals := 68 }) G (dR G a ra nR s em i eo es t n d tx rt rn cd su bk co mo m0 m1 kp rg) (dR G a ra nR s em (if isG t g ∧ ¬ n (44 + cl g) = -1 then rmI i un else i) (if isG t g ∧ ¬ n (44 + cl g) = -1 then upd eo 0 (nI (odN od un)) else eo) es t (if isG t g ∧ ¬ n (44 + cl g) = -1 then divF n (cl g) (cl (n (44 + cl g))) else n) d tx rt rn cd su bk co mo m0 m1 kp (if isG t g ∧ ¬ n (44 + cl g) = -1 then rgN rg od un n else rg)) [.ref (a 0), .int g] (.returned (some (.int (dvR t n g)))) := by
  refine mX.of (cc := cX9_divorce) (maxL := 3) (ret := (some .int)) (by decide) rfl (Nat.le_of_ble_eq_true rfl) ?_
  intro zp ze zs zm zb zt zc ls A hAe C hP hK hD hS hl
  obtain ⟨hx, hb, hr, hml, hown, hts, hlk⟩ := id C
  have hl : lv_has ls 3 [(0, .ref (a 0)), (1, .int g)] := hl
  have hT := hTT.1
  have hT2 := hT.2.2
  have hG := okT_G hTT
  have hLH := okT_L hTT
  have k0 := hts (.fieldLink RX9 19 "DebtDowry" "terms" "LDebtDowry$Terms;") (by decide +kernel)
  have k1 := (fun w h => by revert w; decide +kernel : ∀ w ∈ wsX90, w ∈ wsX9_divorce)
  have k2 := hts (.fieldLink RX9 28 "DebtDowry" "now" "LDebtDowry$State;") (by decide +kernel)
  have k3 := hts (.fieldLink RX9 179 "DebtDowry$State" "spouse" "[I") (by decide +kernel)
  have k4 := (fun w h => by revert w; decide +kernel : ∀ w ∈ wsX70, w ∈ wsX9_divorce)
  have k5 := hts (.fieldLink RX9 38 "DebtDowry" "history" "LDebtDowry$History;") (by decide +kernel)
  have k6 := hts (.constant RX9 206 (-1000000003)) (by decide +kernel)
  have k7 := hts (.constant RX9 155 (-1000000001)) (by decide +kernel)
  refine lv_aload_n hx hb dX9_divorce_0 rfl (lv_at hl 0 rfl) ?_
  refine va_get (D := G.1) (ci := 9) (v := .ref (a 1)) (C := RX9) (T := TX9) (N := 11) hx hb hts k1 hown hK hP 0 rfl rfl 1 (by decide) k0 (fun _ h9 => h9) rfl dX9_divorce_1 ?_
  refine lv_iload_n hx hb dX9_divorce_4 rfl (lv_at hl 1 rfl) ?_
  refine cR_V (Cn := RX8) (n := 1) (As := [.int g]) (rest := []) C (c_X8_isGirl l G (a 1) (a 2) (a 3) (a 4) t nc np g hT) gX9_divorce_X8_isGirl rfl ⟨rfl, rfl⟩ hd_X8_isGirl ⟨(Nat.le_of_ble_eq_true rfl), (Nat.le_of_ble_eq_true rfl)⟩ hK (hP.sub [1, 2, 3, 4] rfl) (va_recv hK hP (ci := 8) (q0 := 1) rfl rfl) rfl hl.1 rfl (Nat.le_of_ble_eq_true rfl) dX9_divorce_5 ⟨(Nat.le_of_ble_eq_true rfl), (Nat.le_of_ble_eq_true rfl)⟩ ?_
  refine b_if_ne (tgt := 14) hx hb dX9_divorce_8 (by decide) (fun cq1 => ?_) (fun cq1 => ?_)
  · skip
    have hGq := cq1
    obtain ⟨gg, hgg, rfl⟩ := inB_nat hT.2.1 (by omega) (And.left cq1)
    have hcl_gg := cl_nI (n := gg) (by omega)
    refine lv_aload_n hx hb dX9_divorce_14 rfl (lv_at hl 0 rfl) ?_
    refine va_get (D := G.1) (ci := 9) (v := .ref (a 5)) (C := RX9) (T := TX9) (N := 11) hx hb hts k1 hown hK hP 0 rfl rfl 2 (by decide) k2 (fun _ h9 => h9) rfl dX9_divorce_15 ?_
    refine va_get (D := G.1) (ci := 7) (v := .ref (a 9)) (C := RX7) (T := TX7) (N := 7) hx hb hts k4 hown hK hP 5 rfl rfl 4 (by decide) k3 (fun _ h9 => h9) rfl dX9_divorce_18 ?_
    refine lv_iload_n hx hb dX9_divorce_21 rfl (lv_at hl 1 rfl) ?_
    refine n_iald hx hb hK hP 9 0 rfl rfl (j := gg) rfl (by omega) (by decide) dX9_divorce_22 ?_
    refine lv_istore_n (lv' := [(2, .int (n (44 + gg))), (0, .ref (a 0)), (1, .int (nI gg))]) hx hb dX9_divorce_23 rfl hl (by decide) rfl (fun ls hl => ?_)
    refine lv_aload_n hx hb dX9_divorce_24 rfl (lv_at hl 1 rfl) ?_
    refine va_get (D := G.1) (ci := 9) (v := .ref (a 1)) (C := RX9) (T := TX9) (N := 11) hx hb hts k1 hown hK hP 0 rfl rfl 1 (by decide) k0 (fun _ h9 => h9) rfl dX9_divorce_25 ?_
    refine lv_iload_n hx hb dX9_divorce_28 rfl (lv_at hl 0 rfl) ?_
    refine cR_V (Cn := RX8) (n := 1) (As := [.int (n (44 + gg))]) (rest := []) C (c_X8_hasPerson l G (a 1) (a 2) (a 3) (a 4) t nc np (n (44 + gg)) hT) gX9_divorce_X8_hasPerson rfl ⟨rfl, rfl⟩ hd_X8_hasPerson ⟨(Nat.le_of_ble_eq_true rfl), (Nat.le_of_ble_eq_true rfl)⟩ hK (hP.sub [1, 2, 3, 4] rfl) (va_recv hK hP (ci := 8) (q0 := 1) rfl rfl) rfl hl.1 rfl (Nat.le_of_ble_eq_true rfl) dX9_divorce_29 ⟨(Nat.le_of_ble_eq_true rfl), (Nat.le_of_ble_eq_true rfl)⟩ ?_
    refine b_if_ne (tgt := 38) hx hb dX9_divorce_32 (by decide) (fun cq2 => ?_) (fun cq2 => ?_)
    · skip
      obtain ⟨mm, hmm, hme⟩ := inB_nat hT.2.1 (by omega) cq2
      have hm1 : ¬ n (44 + gg) = -1 := by rw [hme]; exact nI_m1 (by omega)
      obtain ⟨qq, hq1, hq2, hq3, hq4, hq5⟩ := (hO.2.2.2.2.1 gg hgg).resolve_left hm1
      obtain rfl : qq = mm := (nI_eq (by omega) (by omega)).mp (hq3.symm.trans hme)
      have hgm : gg ≠ qq := fun q => hq2 q.symm
      have hcl_mm : cl (n (44 + gg)) = qq := by rw [hme]; exact cl_nI (by omega)
      have hok : isG t (nI gg) ∧ ¬ n (44 + cl (nI gg)) = -1 := ⟨hGq, by rw [hcl_gg]; exact hm1⟩
      have hOd := okS_d hTT hO hgg hmm hgm hq3 hq4
      refine lv_aload_n hx hb dX9_divorce_38 rfl (lv_at hl 1 rfl) ?_
      refine va_get (D := G.1) (ci := 9) (v := .ref (a 26)) (C := RX9) (T := TX9) (N := 11) hx hb hts k1 hown hK hP 0 rfl rfl 4 (by decide) k5 (fun _ h9 => h9) rfl dX9_divorce_39 ?_
      refine lv_aload_n hx hb dX9_divorce_42 rfl (lv_at hl 1 rfl) ?_
      refine va_get (D := G.1) (ci := 9) (v := .ref (a 5)) (C := RX9) (T := TX9) (N := 11) hx hb hts k1 hown hK hP 0 rfl rfl 2 (by decide) k2 (fun _ h9 => h9) rfl dX9_divorce_43 ?_
      refine cX_VI (Cn := RX2) (n := 1) (As := [.ref (a 5)]) (rest := []) (wsn := dR G a ra nR s em (rmI i un) (upd eo 0 (nI (odN od un))) es t n d tx rt rn cd su bk co mo m0 m1 kp (rgN rg od un n)) C (c_X2_note_b l G a ra nR s em i eo es t n d tx rt rn cd su bk co mo m0 m1 kp rg un od  hun hul hod hol hnR) gX9_divorce_X2_note rfl ⟨rfl, rfl⟩ hd_X2_note ⟨(Nat.le_of_ble_eq_true rfl), (Nat.le_of_ble_eq_true rfl)⟩ hK hP hD hS (dR_f.trans dR_f.symm) (va_recv hK hP (ci := 2) (q0 := 26) rfl rfl) rfl hl.1 rfl (Nat.le_of_ble_eq_true rfl) dX9_divorce_46 ⟨(Nat.le_of_ble_eq_true rfl), (Nat.le_of_ble_eq_true rfl)⟩ (fun H locs hP hD hS => ?_)
      refine lv_aload_n hx hb dX9_divorce_49 rfl (lv_at hl 1 rfl) ?_
      refine va_get (D := G.1) (ci := 9) (v := .ref (a 5)) (C := RX9) (T := TX9) (N := 11) hx hb hts k1 hown hK hP 0 rfl rfl 2 (by decide) k2 (fun _ h9 => h9) rfl dX9_divorce_50 ?_
      refine lv_iload_n hx hb dX9_divorce_53 rfl (lv_at hl 2 rfl) ?_
      refine lv_iload_n hx hb dX9_divorce_54 rfl (lv_at hl 0 rfl) ?_
      refine cX_V (Cn := RX7) (n := 2) (As := [.int (nI gg), .int (nI qq)]) (rest := []) (wsn := dR G a ra nR s em (rmI i un) (upd eo 0 (nI (odN od un))) es t (divF n gg qq) d tx rt rn cd su bk co mo m0 m1 kp (rgN rg od un n)) C (c_X7_part l G (a 5) (a 6) (a 7) (a 8) (a 9) (a 1) (a 2) (a 3) (a 4) t n nc np gg qq hT hO (by omega) (by omega) hgm) gX9_divorce_X7_part rfl ⟨rfl, rfl⟩ hd_X7_part ⟨(Nat.le_of_ble_eq_true rfl), (Nat.le_of_ble_eq_true rfl)⟩ hK hP hD hS [5, 6, 7, 8, 9, 1, 2, 3, 4] (by decide) rfl (sW_f.trans sW_f.symm) rfl (dR_f.trans dR_f.symm) (va_recv hK hP (ci := 7) (q0 := 5) rfl rfl) rfl hl.1 (by rw [show (n (44 + gg) : Int32) = nI qq from hme]; rfl) (Nat.le_of_ble_eq_true rfl) dX9_divorce_55 ⟨(Nat.le_of_ble_eq_true rfl), (Nat.le_of_ble_eq_true rfl)⟩ (fun H locs hP hD hS => ?_)
      refine lv_aload_n hx hb dX9_divorce_58 rfl (lv_at hl 1 rfl) ?_
      refine va_get (D := G.1) (ci := 9) (v := .ref (a 5)) (C := RX9) (T := TX9) (N := 11) hx hb hts k1 hown hK hP 0 rfl rfl 2 (by decide) k2 (fun _ h9 => h9) rfl dX9_divorce_59 ?_
      refine lv_iload_n hx hb dX9_divorce_62 rfl (lv_at hl 0 rfl) ?_
      refine cR_V (Cn := RX7) (n := 1) (As := [.int (nI qq)]) (rest := []) C (c_X7_owedTogether l G (a 5) (a 6) (a 7) (a 8) (a 9) (a 1) (a 2) (a 3) (a 4) t (divF n gg qq) nc np qq hT (by omega)) gX9_divorce_X7_owedTogether rfl ⟨rfl, rfl⟩ hd_X7_owedTogether ⟨(Nat.le_of_ble_eq_true rfl), (Nat.le_of_ble_eq_true rfl)⟩ hK (hP.sub [5, 6, 7, 8, 9, 1, 2, 3, 4] rfl) (va_recv hK hP (ci := 7) (q0 := 5) rfl rfl) rfl hl.1 (by rw [show (n (44 + gg) : Int32) = nI qq from hme]; rfl) (Nat.le_of_ble_eq_true rfl) dX9_divorce_63 ⟨(Nat.le_of_ble_eq_true rfl), (Nat.le_of_ble_eq_true rfl)⟩ ?_
      have hP : va_P G.1 vwCl (dR G a ra nR s em (if isG t (nI gg) ∧ ¬ n (44 + cl (nI gg)) = -1 then rmI i un else i) (if isG t (nI gg) ∧ ¬ n (44 + cl (nI gg)) = -1 then upd eo 0 (nI (odN od un)) else eo) es t (if isG t (nI gg) ∧ ¬ n (44 + cl (nI gg)) = -1 then divF n (cl (nI gg)) (cl (n (44 + cl (nI gg)))) else n) d tx rt rn cd su bk co mo m0 m1 kp (if isG t (nI gg) ∧ ¬ n (44 + cl (nI gg)) = -1 then rgN rg od un n else rg)) H := by rw [show (if isG t (nI gg) ∧ ¬ n (44 + cl (nI gg)) = -1 then rmI i un else i) = (rmI i un) from by rw [if_pos hok]; first | done | rfl | (rw [hcl_gg, hcl_mm]; done), show (if isG t (nI gg) ∧ ¬ n (44 + cl (nI gg)) = -1 then upd eo 0 (nI (odN od un)) else eo) = (upd eo 0 (nI (odN od un))) from by rw [if_pos hok]; first | done | rfl | (rw [hcl_gg, hcl_mm]; done), show (if isG t (nI gg) ∧ ¬ n (44 + cl (nI gg)) = -1 then divF n (cl (nI gg)) (cl (n (44 + cl (nI gg)))) else n) = (divF n gg qq) from by rw [if_pos hok]; first | done | rfl | (rw [hcl_gg, hcl_mm]; done), show (if isG t (nI gg) ∧ ¬ n (44 + cl (nI gg)) = -1 then rgN rg od un n else rg) = (rgN rg od un n) from by rw [if_pos hok]; first | done | rfl | (rw [hcl_gg, hcl_mm]; done)]; exact hP
      exact mX_iret hAe C hP hS dX9_divorce_66 (by unfold dvR; rw [if_neg (not_not_intro hGq), hcl_gg, if_neg hm1, hcl_mm, owU_4 hOd hT2.1 (by omega)])
    · skip
      have hm1 : n (44 + gg) = -1 := (hO.2.2.2.2.1 gg hgg).resolve_right (fun ⟨q, q1, q2, q3, q4⟩ => cq2 (by rw [q3]; exact inB_of hT.2.1 (by omega) q1))
      have hno : ¬ (isG t (nI gg) ∧ ¬ n (44 + cl (nI gg)) = -1) := fun q => q.2 (by rw [hcl_gg]; exact hm1)
      refine lv_ldc hx hb hown k6 dX9_divorce_35 ?_
      have hP : va_P G.1 vwCl (dR G a ra nR s em (if isG t (nI gg) ∧ ¬ n (44 + cl (nI gg)) = -1 then rmI i un else i) (if isG t (nI gg) ∧ ¬ n (44 + cl (nI gg)) = -1 then upd eo 0 (nI (odN od un)) else eo) es t (if isG t (nI gg) ∧ ¬ n (44 + cl (nI gg)) = -1 then divF n (cl (nI gg)) (cl (n (44 + cl (nI gg)))) else n) d tx rt rn cd su bk co mo m0 m1 kp (if isG t (nI gg) ∧ ¬ n (44 + cl (nI gg)) = -1 then rgN rg od un n else rg)) zs.heap := by rw [show (if isG t (nI gg) ∧ ¬ n (44 + cl (nI gg)) = -1 then rmI i un else i) = i from (if_neg hno), show (if isG t (nI gg) ∧ ¬ n (44 + cl (nI gg)) = -1 then upd eo 0 (nI (odN od un)) else eo) = eo from (if_neg hno), show (if isG t (nI gg) ∧ ¬ n (44 + cl (nI gg)) = -1 then divF n (cl (nI gg)) (cl (n (44 + cl (nI gg)))) else n) = n from (if_neg hno), show (if isG t (nI gg) ∧ ¬ n (44 + cl (nI gg)) = -1 then rgN rg od un n else rg) = rg from (if_neg hno)]; exact hP
      exact mX_iret hAe C hP hS dX9_divorce_37 (by unfold dvR; rw [if_neg (not_not_intro hGq), hcl_gg, if_pos hm1])
  · skip
    have hno : ¬ (isG t g ∧ ¬ n (44 + cl g) = -1) := fun q => cq1 q.1
    refine lv_ldc hx hb hown k7 dX9_divorce_11 ?_
    have hP : va_P G.1 vwCl (dR G a ra nR s em (if isG t g ∧ ¬ n (44 + cl g) = -1 then rmI i un else i) (if isG t g ∧ ¬ n (44 + cl g) = -1 then upd eo 0 (nI (odN od un)) else eo) es t (if isG t g ∧ ¬ n (44 + cl g) = -1 then divF n (cl g) (cl (n (44 + cl g))) else n) d tx rt rn cd su bk co mo m0 m1 kp (if isG t g ∧ ¬ n (44 + cl g) = -1 then rgN rg od un n else rg)) zs.heap := by rw [show (if isG t g ∧ ¬ n (44 + cl g) = -1 then rmI i un else i) = i from (if_neg hno), show (if isG t g ∧ ¬ n (44 + cl g) = -1 then upd eo 0 (nI (odN od un)) else eo) = eo from (if_neg hno), show (if isG t g ∧ ¬ n (44 + cl g) = -1 then divF n (cl g) (cl (n (44 + cl g))) else n) = n from (if_neg hno), show (if isG t g ∧ ¬ n (44 + cl g) = -1 then rgN rg od un n else rg) = rg from (if_neg hno)]; exact hP
    exact mX_iret hAe C hP hS dX9_divorce_13 (by unfold dvR; rw [if_pos cq1])
