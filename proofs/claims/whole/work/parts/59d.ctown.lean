theorem ccX_0 {tx : Nat → Int32} {sz : Nat} {c : CSt} {x : Int32} (h : cl (c.2.1 3) ≤ 4) : (ccX tx sz c x).2.1 0 = c.2.1 0 := by
  unfold ccX
  by_cases e1 : x = 99
  · rw [if_pos e1]
    show rcT tx sz c.1 _ c.2.1 0 = _
    unfold rcT
    by_cases e2 : cdOK (cl (c.2.1 3)) c.2.1
    · rw [if_pos e2, upd_ne (by decide), upd_ne (by omega), upd_ne (by omega), upd_ne (by omega)]
    · rw [if_neg e2]
  rw [if_neg e1]
  by_cases e3 : x = 103 ∨ x = 109
  · rw [if_pos e3]
    show rpT (x = 103) _ _ c.2.1 0 = _
    unfold rpT
    by_cases e2 : psOK (cl (c.2.1 3)) (cl (c.2.1 4))
    · rw [if_pos e2, upd_ne (by decide)]
      by_cases e : x = 103
      · rw [if_pos e, upd_ne (by decide)]
      · rw [if_neg e]
    · rw [if_neg e2]
  · rw [if_neg e3]
theorem ccR_0 {tx : Nat → Int32} {sz : Nat} : ∀ f c, ccOK sz c → (ccR tx sz f c).2.1 0 = c.2.1 0
  | 0, c, _ => rfl
  | f + 1, c, hok => by
    show (if ¬ c.1.2.1 = 0 then c else if hv tx sz (sk tx sz c.1.1) = -1 then ccW tx sz c else ccR tx sz f (ccX tx sz (ccW tx sz c) (hv tx sz (sk tx sz c.1.1)))).2.1 0 = _
    by_cases h1 : ¬ c.1.2.1 = 0
    · rw [if_pos h1]
    rw [if_neg h1]
    by_cases h2 : hv tx sz (sk tx sz c.1.1) = -1
    · rw [if_pos h2]; rfl
    · rw [if_neg h2, ccR_0 f _ (ccX_ok (ccW_ok hok) (hv_in h2))]
      obtain ⟨-, cn, pn, q1, q2, q3, q4⟩ := ccW_ok (tx := tx) hok
      exact ccX_0 (by rw [q3, cl_nI (by omega)]; exact q1)
theorem ra_0 {tx rt rn : Nat → Int32} {sz : Nat} {em : Int32} : (raX tx sz rt rn em).2.1 0 = if hv tx sz (sk tx sz 0) = -1 then 0 else 1 := by
  unfold raX
  by_cases h : hv tx sz (sk tx sz 0) = -1
  · rw [if_pos h, if_pos h]; rfl
  · rw [if_neg h, if_neg h, ccR_0 240 _ ra_ok]
    exact (riT_o (by decide) (by decide)).trans rfl
theorem ra_b0 {tx rt rn : Nat → Int32} {sz : Nat} {em : Int32} : (raX tx sz rt rn em).2.1 0 = 0 ∨ (raX tx sz rt rn em).2.1 0 = 1 := by
  rw [ra_0]
  by_cases h : hv tx sz (sk tx sz 0) = -1
  · rw [if_pos h]; exact Or.inl rfl
  · rw [if_neg h]; exact Or.inr rfl
theorem hd_X9_feed : yX9_feed.cls = RX9 ∧ yX9_feed.cls ≠ "java/lang/invoke/MethodHandle" ∧ yX9_feed.cls ≠ "java/lang/invoke/VarHandle" ∧ (parseMethodDescriptor yX9_feed.desc).map (fun d => d.parameters.length) = some 1 := by decide +kernel
set_option maxRecDepth 100000 in
set_option maxHeartbeats 4000000 in
theorem c_X9_feed (l : Launch) (G : gG) (a : Nat → Nat) (ra : Nat → Nat → Nat) (s : RSt) (em : Int32) (i : Nat → Int32) (eo : Nat → Int32) (es : Nat → Int32) (t : Nat → Int32) (n : Nat → Int32) (d : Nat → Int32) (tx : Nat → Int32) (rt : Nat → Int32) (rn : Nat → Int32) (cd : Nat → Int32) (su : Nat → Int32) (bk : Nat → Int32) (co : Nat → Int32) (mo : Nat → Int32) (m0 : Nat → Int32) (m1 : Nat → Int32) (kp : Nat → Int32) (sz : Nat) (x : Int32) (hsz : i 10 = nI sz) (hs240 : sz ≤ 240) : mX l yX9_feed wsX9_feed ({ frames := 1, cells := 0, slots := 0, locals := 21 }) G (dW G a ra s em i eo es t n d tx rt rn cd su bk co mo m0 m1 kp) (dW G a ra s em (if okFd sz x then upd i 10 (nI (sz + 1)) else i) eo es t n d (if okFd sz x then upd tx sz x else tx) rt rn cd su bk co mo m0 m1 kp) [.ref (a 0), .int x] (.returned (some (.int (fdR sz x)))) := by
  refine mX.of (cc := cX9_feed) (maxL := 2) (ret := (some .int)) (by decide) rfl (Nat.le_of_ble_eq_true rfl) ?_
  intro zp ze zs zm zb zt zc ls A hAe C hP hK hD hS hl
  obtain ⟨hx, hb, hr, hml, hown, hts, hlk⟩ := id C
  have hl : lv_has ls 2 [(0, .ref (a 0)), (1, .int x)] := hl
  have k0 := hts (.constant RX9 81 (-1000000002)) (by decide +kernel)
  have k1 := hts (.fieldLink RX9 10 "DebtDowry" "reader" "LDebtDowry$Reader;") (by decide +kernel)
  have k2 := (fun w h => by revert w; decide +kernel : ∀ w ∈ wsX90, w ∈ wsX9_feed)
  have k3 := hts (.constant RX9 89 (-1000000004)) (by decide +kernel)
  have k4 := hts (.fieldLink RX9 86 "DebtDowry$Reader" "length" "I") (by decide +kernel)
  have k5 := (fun w h => by revert w; decide +kernel : ∀ w ∈ wsX60, w ∈ wsX9_feed)
  refine lv_iload_n hx hb dX9_feed_0 rfl (lv_at hl 1 rfl) ?_
  refine lv_if_lt (tgt := 11) hx hb dX9_feed_1 (by decide) (fun cq1 => ?_) (fun cq1 => ?_)
  · skip
    have hin : ¬ inB x 0 255 := fun z => i32_nle.mpr cq1 z.1
    have hno : ¬ okFd sz x := fun z => hin z.1
    refine lv_ldc hx hb hown k0 dX9_feed_11 ?_
    have hP : va_P G.1 vwCl (dW G a ra s em (if okFd sz x then upd i 10 (nI (sz + 1)) else i) eo es t n d (if okFd sz x then upd tx sz x else tx) rt rn cd su bk co mo m0 m1 kp) zs.heap := by rw [show (if okFd sz x then upd i 10 (nI (sz + 1)) else i) = i from (if_neg hno), show (if okFd sz x then upd tx sz x else tx) = tx from (if_neg hno)]; exact hP
    exact mX_iret hAe C hP hS dX9_feed_13 (by unfold fdR; rw [if_pos hin])
  · skip
    have hinl := i32_nlt.mp cq1
    refine lv_iload_n hx hb dX9_feed_4 rfl (lv_at hl 1 rfl) ?_
    refine lv_sipush (v := 255) hx hb dX9_feed_5 (by decide) ?_
    refine lv_icmp_le (tgt := 14) hx hb dX9_feed_8 (by decide) (fun cq2 => ?_) (fun cq2 => ?_)
    · skip
      have hin : inB x 0 255 := ⟨hinl, cq2⟩
      refine lv_aload_n hx hb dX9_feed_14 rfl (lv_at hl 0 rfl) ?_
      refine va_get (D := G.1) (ci := 9) (v := .ref (a 15)) (C := RX9) (T := TX9) (N := 11) hx hb hts k2 hown hK hP 0 rfl rfl 0 (by decide) k1 (fun _ h9 => h9) rfl dX9_feed_15 ?_
      refine lv_iload_n hx hb dX9_feed_18 rfl (lv_at hl 1 rfl) ?_
      refine cX_V (Cn := RX6) (n := 1) (As := [.int x]) (rest := []) (wsn := dW G a ra s em (upd i 10 (if sz = 240 then i 10 else nI (sz + 1))) eo es t n d (if sz = 240 then tx else upd tx sz x) rt rn cd su bk co mo m0 m1 kp) C (c_X6_add l G (a 15) (a 16) (a 17) (a 18) (a 19) (a 20) (a 21) (a 22) (a 23) (a 24) (a 25) s em i tx rt rn sz x hsz hs240) gX9_feed_X6_add rfl ⟨rfl, rfl⟩ hd_X6_add ⟨(Nat.le_of_ble_eq_true rfl), (Nat.le_of_ble_eq_true rfl)⟩ hK hP hD hS [15, 16, 17, 18, 19, 20, 21, 22, 23, 24, 25] (by decide) rfl (rdW_f.trans rdW_f.symm) rfl (dW_f.trans dW_f.symm) (va_recv hK hP (ci := 6) (q0 := 15) rfl rfl) rfl hl.1 rfl (Nat.le_of_ble_eq_true rfl) dX9_feed_19 ⟨(Nat.le_of_ble_eq_true rfl), (Nat.le_of_ble_eq_true rfl)⟩ (fun H locs hP hD hS => ?_)
      refine b_if_eq (tgt := 35) hx hb dX9_feed_22 (by decide) (fun cq3 => ?_) (fun cq3 => ?_)
      · skip
        have h6 : sz = 240 := Decidable.of_not_not cq3
        have hno : ¬ okFd sz x := fun z => z.2 h6
        refine lv_ldc hx hb hown k3 dX9_feed_35 ?_
        have hP : va_P G.1 vwCl (dW G a ra s em (if okFd sz x then upd i 10 (nI (sz + 1)) else i) eo es t n d (if okFd sz x then upd tx sz x else tx) rt rn cd su bk co mo m0 m1 kp) H := by rw [show (if okFd sz x then upd i 10 (nI (sz + 1)) else i) = (upd i 10 (if sz = 240 then i 10 else nI (sz + 1))) from by rw [if_neg hno, if_pos h6]; first | done | exact (upd_self rfl).symm, show (if okFd sz x then upd tx sz x else tx) = (if sz = 240 then tx else upd tx sz x) from by rw [if_neg hno, if_pos h6]; first | done | exact (upd_self rfl).symm]; exact hP
        exact mX_iret hAe C hP hS dX9_feed_37 (by unfold fdR; rw [if_neg (not_not_intro hin), if_pos h6])
      · skip
        have h6 : ¬ sz = 240 := cq3
        have hok : okFd sz x := ⟨hin, h6⟩
        refine lv_aload_n hx hb dX9_feed_25 rfl (lv_at hl 0 rfl) ?_
        refine va_get (D := G.1) (ci := 9) (v := .ref (a 15)) (C := RX9) (T := TX9) (N := 11) hx hb hts k2 hown hK hP 0 rfl rfl 0 (by decide) k1 (fun _ h9 => h9) rfl dX9_feed_26 ?_
        refine va_get (D := G.1) (ci := 6) (v := .int ((upd i 10 (if sz = 240 then i 10 else nI (sz + 1))) 10)) (C := RX6) (T := TX6) (N := 8) hx hb hts k5 hown hK hP 15 rfl rfl 3 (by decide) k4 (fun _ h9 => h9) rfl dX9_feed_29 ?_
        refine lv_goto (tgt := 37) hx hb dX9_feed_32 (by decide) ?_
        have hP : va_P G.1 vwCl (dW G a ra s em (if okFd sz x then upd i 10 (nI (sz + 1)) else i) eo es t n d (if okFd sz x then upd tx sz x else tx) rt rn cd su bk co mo m0 m1 kp) H := by rw [show (if okFd sz x then upd i 10 (nI (sz + 1)) else i) = (upd i 10 (if sz = 240 then i 10 else nI (sz + 1))) from by rw [if_pos hok, if_neg h6], show (if okFd sz x then upd tx sz x else tx) = (if sz = 240 then tx else upd tx sz x) from by rw [if_pos hok, if_neg h6]]; exact hP
        exact mX_iret hAe C hP hS dX9_feed_37 (by unfold fdR; rw [if_neg (not_not_intro hin), if_neg h6, if_neg h6]; rfl)
    · skip
      have hin : ¬ inB x 0 255 := fun z => cq2 z.2
      have hno : ¬ okFd sz x := fun z => hin z.1
      refine lv_ldc hx hb hown k0 dX9_feed_11 ?_
      have hP : va_P G.1 vwCl (dW G a ra s em (if okFd sz x then upd i 10 (nI (sz + 1)) else i) eo es t n d (if okFd sz x then upd tx sz x else tx) rt rn cd su bk co mo m0 m1 kp) zs.heap := by rw [show (if okFd sz x then upd i 10 (nI (sz + 1)) else i) = i from (if_neg hno), show (if okFd sz x then upd tx sz x else tx) = tx from (if_neg hno)]; exact hP
      exact mX_iret hAe C hP hS dX9_feed_13 (by unfold fdR; rw [if_pos hin])
theorem hd_X9_town : yX9_town.cls = RX9 ∧ yX9_town.cls ≠ "java/lang/invoke/MethodHandle" ∧ yX9_town.cls ≠ "java/lang/invoke/VarHandle" ∧ (parseMethodDescriptor yX9_town.desc).map (fun d => d.parameters.length) = some 0 := by decide +kernel
set_option maxRecDepth 100000 in
set_option maxHeartbeats 4000000 in
theorem c_X9_town (l : Launch) (G : gG) (a : Nat → Nat) (ra : Nat → Nat → Nat) (s : RSt) (em : Int32) (i : Nat → Int32) (eo : Nat → Int32) (es : Nat → Int32) (t : Nat → Int32) (n : Nat → Int32) (d : Nat → Int32) (tx : Nat → Int32) (rt : Nat → Int32) (rn : Nat → Int32) (cd : Nat → Int32) (su : Nat → Int32) (bk : Nat → Int32) (co : Nat → Int32) (mo : Nat → Int32) (m0 : Nat → Int32) (m1 : Nat → Int32) (kp : Nat → Int32) (sz : Nat) (hsz : i 10 = nI sz) (hs240 : sz ≤ 240) : mX l yX9_town wsX9_town ({ frames := 6, cells := 0, slots := 0, locals := 132 }) G (dW G a ra s em i eo es t n d tx rt rn cd su bk co mo m0 m1 kp) (dW G a ra ((raX tx sz rt rn em).1) ((raX tx sz rt rn em).2.2.2) (if (raX tx sz rt rn em).1.2.1 = 0 then upd (upd (upd (upd i 10 0) 5 0) 13 0) 15 0 else upd i 10 0) eo es (if (raX tx sz rt rn em).1.2.1 = 0 then (raX tx sz rt rn em).2.1 else t) (if (raX tx sz rt rn em).1.2.1 = 0 then (raX tx sz rt rn em).2.2.1 else n) d tx ((raX tx sz rt rn em).2.1) ((raX tx sz rt rn em).2.2.1) cd su bk co mo m0 m1 (if (raX tx sz rt rn em).1.2.1 = 0 then upd (upd kp 0 0) 1 0 else kp)) [.ref (a 0)] (.returned (some (.int (if (raX tx sz rt rn em).1.2.1 = 0 then (raX tx sz rt rn em).2.1 4 else -10 - (raX tx sz rt rn em).1.2.1)))) := by
  refine mX.of (cc := cX9_town) (maxL := 2) (ret := (some .int)) (by decide) rfl (Nat.le_of_ble_eq_true rfl) ?_
  intro zp ze zs zm zb zt zc ls A hAe C hP hK hD hS hl
  obtain ⟨hx, hb, hr, hml, hown, hts, hlk⟩ := id C
  have hl : lv_has ls 2 [(0, .ref (a 0))] := hl
  have k0 := hts (.fieldLink RX9 10 "DebtDowry" "reader" "LDebtDowry$Reader;") (by decide +kernel)
  have k1 := (fun w h => by revert w; decide +kernel : ∀ w ∈ wsX90, w ∈ wsX9_town)
  have k2 := hts (.fieldLink RX9 93 "DebtDowry$Reader" "faultKind" "I") (by decide +kernel)
  have k3 := (fun w h => by revert w; decide +kernel : ∀ w ∈ wsX60, w ∈ wsX9_town)
  have k4 := hts (.fieldLink RX9 19 "DebtDowry" "terms" "LDebtDowry$Terms;") (by decide +kernel)
  have k5 := hts (.fieldLink RX9 96 "DebtDowry$Reader" "terms" "LDebtDowry$Terms;") (by decide +kernel)
  have k6 := hts (.fieldLink RX9 28 "DebtDowry" "now" "LDebtDowry$State;") (by decide +kernel)
  have k7 := hts (.fieldLink RX9 100 "DebtDowry$Reader" "state" "LDebtDowry$State;") (by decide +kernel)
  have k8 := hts (.fieldLink RX9 38 "DebtDowry" "history" "LDebtDowry$History;") (by decide +kernel)
  have k9 := hts (.fieldLink RX9 59 "DebtDowry" "cards" "LDebtDowry$Cards;") (by decide +kernel)
  have k10 := hts (.fieldLink RX9 109 "DebtDowry$Cards" "count" "I") (by decide +kernel)
  have k11 := (fun w h => by revert w; decide +kernel : ∀ w ∈ wsX10, w ∈ wsX9_town)
  have k12 := hts (.fieldLink RX9 66 "DebtDowry" "book" "LDebtDowry$Book;") (by decide +kernel)
  have k13 := hts (.fieldLink RX9 112 "DebtDowry$Book" "count" "I") (by decide +kernel)
  have k14 := (fun w h => by revert w; decide +kernel : ∀ w ∈ wsX00, w ∈ wsX9_town)
  have k15 := hts (.fieldLink RX9 72 "DebtDowry" "images" "[LDebtDowry$Image;") (by decide +kernel)
  have k16 := hts (.fieldLink RX9 113 "DebtDowry$Image" "kept" "Z") (by decide +kernel)
  have k17 := (fun w h => by revert w; decide +kernel : ∀ w ∈ wsX30, w ∈ wsX9_town)
  have k18 := hts (.fieldLink RX9 117 "DebtDowry$Terms" "persons" "I") (by decide +kernel)
  have k19 := (fun w h => by revert w; decide +kernel : ∀ w ∈ wsX80, w ∈ wsX9_town)
  refine lv_aload_n hx hb dX9_town_0 rfl (lv_at hl 0 rfl) ?_
  refine va_get (D := G.1) (ci := 9) (v := .ref (a 15)) (C := RX9) (T := TX9) (N := 11) hx hb hts k1 hown hK hP 0 rfl rfl 0 (by decide) k0 (fun _ h9 => h9) rfl dX9_town_1 ?_
  refine cX_V (Cn := RX6) (n := 0) (As := []) (rest := []) (wsn := dW G a ra ((raX tx sz rt rn em).1) ((raX tx sz rt rn em).2.2.2) (upd i 10 0) eo es t n d tx ((raX tx sz rt rn em).2.1) ((raX tx sz rt rn em).2.2.1) cd su bk co mo m0 m1 kp) C (c_X6_readAll l G (a 15) (a 16) (a 17) (a 18) (a 19) (a 20) (a 21) (a 22) (a 23) (a 24) (a 25) s em i tx rt rn sz  hsz hs240) gX9_town_X6_readAll rfl ⟨rfl, rfl⟩ hd_X6_readAll ⟨(Nat.le_of_ble_eq_true rfl), (Nat.le_of_ble_eq_true rfl)⟩ hK hP hD hS [15, 16, 17, 18, 19, 20, 21, 22, 23, 24, 25] (by decide) rfl (rdW_f.trans rdW_f.symm) rfl (dW_f.trans dW_f.symm) (va_recv hK hP (ci := 6) (q0 := 15) rfl rfl) rfl hl.1 rfl (Nat.le_of_ble_eq_true rfl) dX9_town_4 ⟨(Nat.le_of_ble_eq_true rfl), (Nat.le_of_ble_eq_true rfl)⟩ (fun H locs hP hD hS => ?_)
  refine lv_aload_n hx hb dX9_town_7 rfl (lv_at hl 0 rfl) ?_
  refine va_get (D := G.1) (ci := 9) (v := .ref (a 15)) (C := RX9) (T := TX9) (N := 11) hx hb hts k1 hown hK hP 0 rfl rfl 0 (by decide) k0 (fun _ h9 => h9) rfl dX9_town_8 ?_
  refine va_get (D := G.1) (ci := 6) (v := .int (((raX tx sz rt rn em).1).2.1)) (C := RX6) (T := TX6) (N := 8) hx hb hts k3 hown hK hP 15 rfl rfl 4 (by decide) k2 (fun _ h9 => h9) rfl dX9_town_11 ?_
  refine lv_if_eq (tgt := 28) hx hb dX9_town_14 (by decide) (fun cq1 => ?_) (fun cq1 => ?_)
  · skip
    have hz := cq1
    refine lv_aload_n hx hb dX9_town_28 rfl (lv_at hl 0 rfl) ?_
    refine va_get (D := G.1) (ci := 9) (v := .ref (a 1)) (C := RX9) (T := TX9) (N := 11) hx hb hts k1 hown hK hP 0 rfl rfl 1 (by decide) k4 (fun _ h9 => h9) rfl dX9_town_29 ?_
    refine lv_aload_n hx hb dX9_town_32 rfl (lv_at hl 0 rfl) ?_
    refine va_get (D := G.1) (ci := 9) (v := .ref (a 15)) (C := RX9) (T := TX9) (N := 11) hx hb hts k1 hown hK hP 0 rfl rfl 0 (by decide) k0 (fun _ h9 => h9) rfl dX9_town_33 ?_
    refine va_get (D := G.1) (ci := 6) (v := .ref (a 17)) (C := RX6) (T := TX6) (N := 8) hx hb hts k3 hown hK hP 15 rfl rfl 0 (by decide) k5 (fun _ h9 => h9) rfl dX9_town_36 ?_
    refine cX_V (Cn := RX8) (n := 1) (As := [.ref (a 17)]) (rest := []) (wsn := dW G a ra ((raX tx sz rt rn em).1) ((raX tx sz rt rn em).2.2.2) (upd i 10 0) eo es ((raX tx sz rt rn em).2.1) n d tx ((raX tx sz rt rn em).2.1) ((raX tx sz rt rn em).2.2.1) cd su bk co mo m0 m1 kp) C (c_X8_take l G (a 1) (a 2) (a 3) (a 4) (a 17) (a 18) (a 19) (a 20) t ((raX tx sz rt rn em).2.1)   ra_b0) gX9_town_X8_take rfl ⟨rfl, rfl⟩ hd_X8_take ⟨(Nat.le_of_ble_eq_true rfl), (Nat.le_of_ble_eq_true rfl)⟩ hK hP hD hS [1, 2, 3, 4, 17, 18, 19, 20] (by decide) rfl (k2W_f.trans k2W_f.symm) rfl (dW_f.trans dW_f.symm) (va_recv hK hP (ci := 8) (q0 := 1) rfl rfl) rfl hl.1 rfl (Nat.le_of_ble_eq_true rfl) dX9_town_39 ⟨(Nat.le_of_ble_eq_true rfl), (Nat.le_of_ble_eq_true rfl)⟩ (fun H locs hP hD hS => ?_)
    refine lv_aload_n hx hb dX9_town_42 rfl (lv_at hl 0 rfl) ?_
    refine va_get (D := G.1) (ci := 9) (v := .ref (a 5)) (C := RX9) (T := TX9) (N := 11) hx hb hts k1 hown hK hP 0 rfl rfl 2 (by decide) k6 (fun _ h9 => h9) rfl dX9_town_43 ?_
    refine lv_aload_n hx hb dX9_town_46 rfl (lv_at hl 0 rfl) ?_
    refine va_get (D := G.1) (ci := 9) (v := .ref (a 15)) (C := RX9) (T := TX9) (N := 11) hx hb hts k1 hown hK hP 0 rfl rfl 0 (by decide) k0 (fun _ h9 => h9) rfl dX9_town_47 ?_
    refine va_get (D := G.1) (ci := 6) (v := .ref (a 21)) (C := RX6) (T := TX6) (N := 8) hx hb hts k3 hown hK hP 15 rfl rfl 1 (by decide) k7 (fun _ h9 => h9) rfl dX9_town_50 ?_
    refine cX_V (Cn := RX7) (n := 1) (As := [.ref (a 21)]) (rest := []) (wsn := dW G a ra ((raX tx sz rt rn em).1) ((raX tx sz rt rn em).2.2.2) (upd i 10 0) eo es ((raX tx sz rt rn em).2.1) ((raX tx sz rt rn em).2.2.1) d tx ((raX tx sz rt rn em).2.1) ((raX tx sz rt rn em).2.2.1) cd su bk co mo m0 m1 kp) C (c_X7_take l G (a 5) (a 6) (a 7) (a 8) (a 9) (a 21) (a 22) (a 23) (a 24) (a 25) (a 1) (a 17) n ((raX tx sz rt rn em).2.2.1)   ) gX9_town_X7_take rfl ⟨rfl, rfl⟩ hd_X7_take ⟨(Nat.le_of_ble_eq_true rfl), (Nat.le_of_ble_eq_true rfl)⟩ hK hP hD hS [5, 6, 7, 8, 9, 21, 22, 23, 24, 25] (by decide) rfl (s2W_f.trans s2W_f.symm) rfl (dW_f.trans dW_f.symm) (va_recv hK hP (ci := 7) (q0 := 5) rfl rfl) rfl hl.1 rfl (Nat.le_of_ble_eq_true rfl) dX9_town_53 ⟨(Nat.le_of_ble_eq_true rfl), (Nat.le_of_ble_eq_true rfl)⟩ (fun H locs hP hD hS => ?_)
    refine lv_aload_n hx hb dX9_town_56 rfl (lv_at hl 0 rfl) ?_
    refine va_get (D := G.1) (ci := 9) (v := .ref (a 26)) (C := RX9) (T := TX9) (N := 11) hx hb hts k1 hown hK hP 0 rfl rfl 4 (by decide) k8 (fun _ h9 => h9) rfl dX9_town_57 ?_
    refine cX_V (Cn := RX2) (n := 0) (As := []) (rest := []) (wsn := dW G a ra ((raX tx sz rt rn em).1) ((raX tx sz rt rn em).2.2.2) (upd (upd i 10 0) 5 0) eo es ((raX tx sz rt rn em).2.1) ((raX tx sz rt rn em).2.2.1) d tx ((raX tx sz rt rn em).2.1) ((raX tx sz rt rn em).2.2.1) cd su bk co mo m0 m1 kp) C (c_X2_forget l G (a 26) (a 27) (upd i 10 0) eo   ) gX9_town_X2_forget rfl ⟨rfl, rfl⟩ hd_X2_forget ⟨(Nat.le_of_ble_eq_true rfl), (Nat.le_of_ble_eq_true rfl)⟩ hK hP hD hS [26] (by decide) rfl (hfW_f.trans hfW_f.symm) rfl (dW_f.trans dW_f.symm) (va_recv hK hP (ci := 2) (q0 := 26) rfl rfl) rfl hl.1 rfl (Nat.le_of_ble_eq_true rfl) dX9_town_60 ⟨(Nat.le_of_ble_eq_true rfl), (Nat.le_of_ble_eq_true rfl)⟩ (fun H locs hP hD hS => ?_)
    refine lv_aload_n hx hb dX9_town_63 rfl (lv_at hl 0 rfl) ?_
    refine va_get (D := G.1) (ci := 9) (v := .ref (a 32)) (C := RX9) (T := TX9) (N := 11) hx hb hts k1 hown hK hP 0 rfl rfl 7 (by decide) k9 (fun _ h9 => h9) rfl dX9_town_64 ?_
    refine lv_iconst (v := 0) hx hb dX9_town_67 (by decide) ?_
    refine n_putQ (D := G.1) (wsn := dW G a ra ((raX tx sz rt rn em).1) ((raX tx sz rt rn em).2.2.2) (upd (upd (upd i 10 0) 5 0) 13 0) eo es ((raX tx sz rt rn em).2.1) ((raX tx sz rt rn em).2.2.1) d tx ((raX tx sz rt rn em).2.1) ((raX tx sz rt rn em).2.2.1) cd su bk co mo m0 m1 kp) (ci := 1) (v := .int 0) (ty := .int) (C := RX1) (T := TX1) (N := 7) hx hb hts k11 tyX1 tyX1_ok nmX1 hown hK hP hD hS 32 rfl rfl 4 (by decide) k10 (fun _ h9 => h9) rfl (by decide +kernel) rfl rfl (Nat.le_of_ble_eq_true rfl) dW_p32_4 dX9_town_68 (fun H locs hP hD hS => ?_)
    refine lv_aload_n hx hb dX9_town_71 rfl (lv_at hl 0 rfl) ?_
    refine va_get (D := G.1) (ci := 9) (v := .ref (a 38)) (C := RX9) (T := TX9) (N := 11) hx hb hts k1 hown hK hP 0 rfl rfl 8 (by decide) k12 (fun _ h9 => h9) rfl dX9_town_72 ?_
    refine lv_iconst (v := 0) hx hb dX9_town_75 (by decide) ?_
    refine n_putQ (D := G.1) (wsn := dW G a ra ((raX tx sz rt rn em).1) ((raX tx sz rt rn em).2.2.2) (upd (upd (upd (upd i 10 0) 5 0) 13 0) 15 0) eo es ((raX tx sz rt rn em).2.1) ((raX tx sz rt rn em).2.2.1) d tx ((raX tx sz rt rn em).2.1) ((raX tx sz rt rn em).2.2.1) cd su bk co mo m0 m1 kp) (ci := 0) (v := .int 0) (ty := .int) (C := RX0) (T := TX0) (N := 3) hx hb hts k14 tyX0 tyX0_ok nmX0 hown hK hP hD hS 38 rfl rfl 2 (by decide) k13 (fun _ h9 => h9) rfl (by decide +kernel) rfl rfl (Nat.le_of_ble_eq_true rfl) dW_p38_2 dX9_town_76 (fun H locs hP hD hS => ?_)
    refine lv_iconst (v := 0) hx hb dX9_town_79 (by decide) ?_
    refine lv_istore_n (lv' := [(1, .int 0), (0, .ref (a 0))]) hx hb dX9_town_80 rfl hl (by decide) rfl (fun ls hl => ?_)
    refine lv_iload_n hx hb dX9_town_81 rfl (lv_at hl 0 rfl) ?_
    refine lv_iconst (v := 2) hx hb dX9_town_82 (by decide) ?_
    refine n_icmp_ge (tgt := 102) hx hb dX9_town_83 (by decide) (u := 0) (v := 2) rfl rfl (by decide) (by decide) (fun cq2 => ?_) (fun cq2 => ?_)
    · exact absurd cq2 (by decide)
    refine lv_aload_n hx hb dX9_town_86 rfl (lv_at hl 1 rfl) ?_
    refine va_get (D := G.1) (ci := 9) (v := .ref (a 41)) (C := RX9) (T := TX9) (N := 11) hx hb hts k1 hown hK hP 0 rfl rfl 9 (by decide) k15 (fun _ h9 => h9) rfl dX9_town_87 ?_
    refine lv_iload_n hx hb dX9_town_90 rfl (lv_at hl 0 rfl) ?_
    refine n_aald hx hb hK hP 41 3 rfl rfl (j := 0) (r := (a 42)) rfl (by decide) (by decide) (rfl) dX9_town_91 ?_
    refine lv_iconst (v := 0) hx hb dX9_town_92 (by decide) ?_
    refine n_putQ (D := G.1) (wsn := dW G a ra ((raX tx sz rt rn em).1) ((raX tx sz rt rn em).2.2.2) (upd (upd (upd (upd i 10 0) 5 0) 13 0) 15 0) eo es ((raX tx sz rt rn em).2.1) ((raX tx sz rt rn em).2.2.1) d tx ((raX tx sz rt rn em).2.1) ((raX tx sz rt rn em).2.2.1) cd su bk co mo m0 m1 (upd kp 0 0)) (ci := 3) (v := .int 0) (ty := .boolean) (C := RX3) (T := TX3) (N := 3) hx hb hts k17 tyX3 tyX3_ok nmX3 hown hK hP hD hS 42 rfl rfl 2 (by decide) k16 (fun _ h9 => h9) rfl (by decide +kernel) (by decide) rfl (Nat.le_of_ble_eq_true rfl) dW_p42_2 dX9_town_93 (fun H locs hP hD hS => ?_)
    refine lv_iinc (v := 1) (lv' := [(1, .int 1), (0, .ref (a 0))]) hx hb dX9_town_96 hl (k := 0) rfl (by decide) (by decide) rfl (fun ls hl => ?_)
    refine lv_goto (tgt := 81) hx hb dX9_town_99 (by decide) ?_
    refine lv_iload_n hx hb dX9_town_81 rfl (lv_at hl 0 rfl) ?_
    refine lv_iconst (v := 2) hx hb dX9_town_82 (by decide) ?_
    refine n_icmp_ge (tgt := 102) hx hb dX9_town_83 (by decide) (u := 1) (v := 2) rfl rfl (by decide) (by decide) (fun cq3 => ?_) (fun cq3 => ?_)
    · exact absurd cq3 (by decide)
    refine lv_aload_n hx hb dX9_town_86 rfl (lv_at hl 1 rfl) ?_
    refine va_get (D := G.1) (ci := 9) (v := .ref (a 41)) (C := RX9) (T := TX9) (N := 11) hx hb hts k1 hown hK hP 0 rfl rfl 9 (by decide) k15 (fun _ h9 => h9) rfl dX9_town_87 ?_
    refine lv_iload_n hx hb dX9_town_90 rfl (lv_at hl 0 rfl) ?_
    refine n_aald hx hb hK hP 41 3 rfl rfl (j := 1) (r := (a 48)) rfl (by decide) (by decide) (rfl) dX9_town_91 ?_
    refine lv_iconst (v := 0) hx hb dX9_town_92 (by decide) ?_
    refine n_putQ (D := G.1) (wsn := dW G a ra ((raX tx sz rt rn em).1) ((raX tx sz rt rn em).2.2.2) (upd (upd (upd (upd i 10 0) 5 0) 13 0) 15 0) eo es ((raX tx sz rt rn em).2.1) ((raX tx sz rt rn em).2.2.1) d tx ((raX tx sz rt rn em).2.1) ((raX tx sz rt rn em).2.2.1) cd su bk co mo m0 m1 (upd (upd kp 0 0) 1 0)) (ci := 3) (v := .int 0) (ty := .boolean) (C := RX3) (T := TX3) (N := 3) hx hb hts k17 tyX3 tyX3_ok nmX3 hown hK hP hD hS 48 rfl rfl 2 (by decide) k16 (fun _ h9 => h9) rfl (by decide +kernel) (by decide) rfl (Nat.le_of_ble_eq_true rfl) dW_p48_2 dX9_town_93 (fun H locs hP hD hS => ?_)
    refine lv_iinc (v := 2) (lv' := [(1, .int 2), (0, .ref (a 0))]) hx hb dX9_town_96 hl (k := 0) rfl (by decide) (by decide) rfl (fun ls hl => ?_)
    refine lv_goto (tgt := 81) hx hb dX9_town_99 (by decide) ?_
    refine lv_iload_n hx hb dX9_town_81 rfl (lv_at hl 0 rfl) ?_
    refine lv_iconst (v := 2) hx hb dX9_town_82 (by decide) ?_
    refine n_icmp_ge (tgt := 102) hx hb dX9_town_83 (by decide) (u := 2) (v := 2) rfl rfl (by decide) (by decide) (fun cq4 => ?_) (fun cq4 => ?_)
    rotate_left
    · exact absurd cq4 (by decide)
    refine lv_aload_n hx hb dX9_town_102 rfl (lv_at hl 1 rfl) ?_
    refine va_get (D := G.1) (ci := 9) (v := .ref (a 1)) (C := RX9) (T := TX9) (N := 11) hx hb hts k1 hown hK hP 0 rfl rfl 1 (by decide) k4 (fun _ h9 => h9) rfl dX9_town_103 ?_
    refine va_get (D := G.1) (ci := 8) (v := .int (((raX tx sz rt rn em).2.1) 4)) (C := RX8) (T := TX8) (N := 9) hx hb hts k19 hown hK hP 1 rfl rfl 4 (by decide) k18 (fun _ h9 => h9) rfl dX9_town_106 ?_
    have hP : va_P G.1 vwCl (dW G a ra ((raX tx sz rt rn em).1) ((raX tx sz rt rn em).2.2.2) (if (raX tx sz rt rn em).1.2.1 = 0 then upd (upd (upd (upd i 10 0) 5 0) 13 0) 15 0 else upd i 10 0) eo es (if (raX tx sz rt rn em).1.2.1 = 0 then (raX tx sz rt rn em).2.1 else t) (if (raX tx sz rt rn em).1.2.1 = 0 then (raX tx sz rt rn em).2.2.1 else n) d tx ((raX tx sz rt rn em).2.1) ((raX tx sz rt rn em).2.2.1) cd su bk co mo m0 m1 (if (raX tx sz rt rn em).1.2.1 = 0 then upd (upd kp 0 0) 1 0 else kp)) H := by rw [show (if (raX tx sz rt rn em).1.2.1 = 0 then upd (upd (upd (upd i 10 0) 5 0) 13 0) 15 0 else upd i 10 0) = (upd (upd (upd (upd i 10 0) 5 0) 13 0) 15 0) from (if_pos hz), show (if (raX tx sz rt rn em).1.2.1 = 0 then (raX tx sz rt rn em).2.1 else t) = ((raX tx sz rt rn em).2.1) from (if_pos hz), show (if (raX tx sz rt rn em).1.2.1 = 0 then (raX tx sz rt rn em).2.2.1 else n) = ((raX tx sz rt rn em).2.2.1) from (if_pos hz), show (if (raX tx sz rt rn em).1.2.1 = 0 then upd (upd kp 0 0) 1 0 else kp) = (upd (upd kp 0 0) 1 0) from (if_pos hz)]; exact hP
    exact mX_iret hAe C hP hS dX9_town_109 ((if_pos hz).symm)
  · skip
    have hz := cq1
    refine lv_bipush (v := (-10)) hx hb dX9_town_17 (by decide) ?_
    refine lv_aload_n hx hb dX9_town_19 rfl (lv_at hl 0 rfl) ?_
    refine va_get (D := G.1) (ci := 9) (v := .ref (a 15)) (C := RX9) (T := TX9) (N := 11) hx hb hts k1 hown hK hP 0 rfl rfl 0 (by decide) k0 (fun _ h9 => h9) rfl dX9_town_20 ?_
    refine va_get (D := G.1) (ci := 6) (v := .int (((raX tx sz rt rn em).1).2.1)) (C := RX6) (T := TX6) (N := 8) hx hb hts k3 hown hK hP 15 rfl rfl 4 (by decide) k2 (fun _ h9 => h9) rfl dX9_town_23 ?_
    refine lv_isub hx hb dX9_town_26 ?_
    have hP : va_P G.1 vwCl (dW G a ra ((raX tx sz rt rn em).1) ((raX tx sz rt rn em).2.2.2) (if (raX tx sz rt rn em).1.2.1 = 0 then upd (upd (upd (upd i 10 0) 5 0) 13 0) 15 0 else upd i 10 0) eo es (if (raX tx sz rt rn em).1.2.1 = 0 then (raX tx sz rt rn em).2.1 else t) (if (raX tx sz rt rn em).1.2.1 = 0 then (raX tx sz rt rn em).2.2.1 else n) d tx ((raX tx sz rt rn em).2.1) ((raX tx sz rt rn em).2.2.1) cd su bk co mo m0 m1 (if (raX tx sz rt rn em).1.2.1 = 0 then upd (upd kp 0 0) 1 0 else kp)) H := by rw [show (if (raX tx sz rt rn em).1.2.1 = 0 then upd (upd (upd (upd i 10 0) 5 0) 13 0) 15 0 else upd i 10 0) = (upd i 10 0) from (if_neg hz), show (if (raX tx sz rt rn em).1.2.1 = 0 then (raX tx sz rt rn em).2.1 else t) = t from (if_neg hz), show (if (raX tx sz rt rn em).1.2.1 = 0 then (raX tx sz rt rn em).2.2.1 else n) = n from (if_neg hz), show (if (raX tx sz rt rn em).1.2.1 = 0 then upd (upd kp 0 0) 1 0 else kp) = kp from (if_neg hz)]; exact hP
    exact mX_iret hAe C hP hS dX9_town_27 ((if_neg hz).symm)
