def jnW (t n : Nat → Int32) (g m c : Nat) : Int32 := wrG (mdG (n 52) (hasB (n (36 + g)) c ∨ hasB (n (36 + m)) c) (lessI (n (4 * g + c) + n (4 * m + c)) 9999) (t (9 + c)) (t (13 + c)) c) (t (17 + c))
theorem mdG_b {fl o lo hi : Int32} {c : Nat} {b b' : Prop} [Decidable b] [Decidable b'] (h : b ↔ b') : mdG fl b o lo hi c = mdG fl b' o lo hi c := by
  unfold mdG
  by_cases e : b
  · have e2 : b' := h.mp e
    simp [e, e2]
  · have e2 : ¬ b' := fun q => e (h.mpr q)
    simp [e, e2]
theorem wdU_o {f : Nat → Int32} {g m k : Nat} : ∀ c, (∀ j, j < c → k ≠ 4 * g + j ∧ k ≠ 4 * m + j) → wdU f g m c k = f k
  | 0, _ => rfl
  | c + 1, h => by
    show upd (upd (wdU f g m c) (4 * g + c) _) (4 * m + c) 0 k = f k
    rw [upd_ne (h c (by omega)).2, upd_ne (h c (by omega)).1, wdU_o c (fun j hj => h j (by omega))]
theorem wdU_g {f : Nat → Int32} {g m : Nat} (hg : g < 8) (hm : m < 8) (hne : g ≠ m) {j : Nat} (hj : j < 4) : ∀ c, c ≤ 4 → j < c → wdU f g m c (4 * g + j) = lessI (f (4 * g + j) + f (4 * m + j)) 9999
  | 0, _, h => absurd h (by omega)
  | c + 1, hc, h => by
    show upd (upd (wdU f g m c) (4 * g + c) (lessI (wdU f g m c (4 * g + c) + wdU f g m c (4 * m + c)) 9999)) (4 * m + c) 0 (4 * g + j) = _
    rw [upd_ne (by omega)]
    by_cases e : j = c
    · subst e
      rw [upd_at, wdU_o j (fun i hi => ⟨by omega, by omega⟩), wdU_o j (fun i hi => ⟨by omega, by omega⟩)]
    · rw [upd_ne (by omega), wdU_g hg hm hne hj c (by omega) (by omega)]
theorem wedF_lo {f : Nat → Int32} {g m k : Nat} (hk : k < 36) : wedF f g m k = wdU f g m 4 k := by
  unfold wedF wd1; rw [upd_ne (by omega), upd_ne (by omega), upd_ne (by omega), upd_ne (by omega)]
theorem wedF_36 {f : Nat → Int32} {g m : Nat} (hg : g < 8) (hm : m < 8) (hne : g ≠ m) : wedF f g m (36 + g) = f (36 + g) ||| f (36 + m) := by
  unfold wedF wd1; rw [upd_ne (by omega), upd_ne (by omega), upd_ne (by omega), upd_at, wdU_o 4 (fun i hi => ⟨by omega, by omega⟩), wdU_o 4 (fun i hi => ⟨by omega, by omega⟩)]
theorem wedF_52 {f : Nat → Int32} {g m : Nat} (hg : g < 8) (hm : m < 8) : wedF f g m 52 = f 52 := by
  unfold wedF wd1; rw [upd_ne (by omega), upd_ne (by omega), upd_ne (by omega), upd_ne (by omega), wdU_o 4 (fun i hi => ⟨by omega, by omega⟩)]
theorem jnV_eq {t n : Nat → Int32} {g m nc : Nat} (hg : g < 8) (hm : m < 8) (hne : g ≠ m) (hc : nc ≤ 4) : sumU (jnW t n g m) nc = jnV t n nc g m := by
  refine sumU_c (fun c hc' => ?_)
  show wrG (mdG _ _ _ _ _ _) _ = wrG (tmG (wedF n g m 52) (wedF n g m (36 + g)) (wedF n g m (4 * g + c)) (t (9 + c)) (t (13 + c)) c) _
  rw [wedF_52 hg hm, wedF_36 hg hm hne, wedF_lo (by omega), wdU_g hg hm hne (by omega) 4 (by omega) (by omega)]
  rw [show tmG (n 52) (n (36 + g) ||| n (36 + m)) (lessI (n (4 * g + c) + n (4 * m + c)) 9999) (t (9 + c)) (t (13 + c)) c = mdG (n 52) (hasB (n (36 + g) ||| n (36 + m)) c) (lessI (n (4 * g + c) + n (4 * m + c)) 9999) (t (9 + c)) (t (13 + c)) c from rfl, mdG_b (has_or (by omega))]
theorem hd_X7_owedTo : yX7_owedTo.cls = RX7 ∧ yX7_owedTo.cls ≠ "java/lang/invoke/MethodHandle" ∧ yX7_owedTo.cls ≠ "java/lang/invoke/VarHandle" ∧ (parseMethodDescriptor yX7_owedTo.desc).map (fun d => d.parameters.length) = some 2 := by decide +kernel
set_option maxRecDepth 100000 in
set_option maxHeartbeats 4000000 in
theorem c_X7_owedTo (l : Launch) (G : gG) (s0 : Nat) (s1 : Nat) (s2 : Nat) (s3 : Nat) (s4 : Nat) (b0 : Nat) (b1 : Nat) (b2 : Nat) (b3 : Nat) (t : Nat → Int32) (n : Nat → Int32) (p : Nat) (c : Nat) (hp : p < 8) (hc : c < 4) : mR l yX7_owedTo wsX7_owedTo ({ frames := 0, cells := 0, slots := 0, locals := 0 }) G (sW G s0 s1 s2 s3 s4 b0 b1 b2 b3 t n) [.ref s0, .int (nI p), .int (nI c)] (n (4 * p + c)) := by
  refine mR.of (cc := cX7_owedTo) (maxL := 3) (ret := (some .int)) (by decide) rfl (Nat.le_of_ble_eq_true rfl) ?_
  intro zp ze zs zm zb zt zc ls C hP hK hl
  obtain ⟨hx, hb, hr, hml, hown, hts, hlk⟩ := id C
  have hl : lv_has ls 3 [(0, .ref s0), (1, .int (nI p)), (2, .int (nI c))] := hl
  have k0 := hts (.fieldLink RX7 9 "DebtDowry$State" "owed" "[I") (by decide +kernel)
  have k1 := (fun w h => by revert w; decide +kernel : ∀ w ∈ wsX70, w ∈ wsX7_owedTo)
  refine lv_aload_n hx hb dX7_owedTo_0 rfl (lv_at hl 0 rfl) ?_
  refine va_get (D := G.1) (ci := 7) (v := .ref s1) (C := RX7) (T := TX7) (N := 7) hx hb hts k1 hown hK hP 0 rfl rfl 1 (by decide) k0 (fun _ h9 => h9) rfl dX7_owedTo_1 ?_
  refine lv_iload_n hx hb dX7_owedTo_4 rfl (lv_at hl 1 rfl) ?_
  refine lv_iconst (v := 4) hx hb dX7_owedTo_5 (by decide) ?_
  refine n_imul hx hb dX7_owedTo_6 (u := p) (v := 4) rfl rfl (j := p * 4) (by omega) ?_
  refine lv_iload_n hx hb dX7_owedTo_7 rfl (lv_at hl 2 rfl) ?_
  refine n_iadd hx hb dX7_owedTo_8 (u := p * 4) (v := c) rfl rfl (j := (p * 4) + c) (by omega) ?_
  refine n_iald hx hb hK hP 1 0 rfl rfl (j := (p * 4) + c) rfl (by omega) (by decide) dX7_owedTo_9 ?_
  exact mR_iret C dX7_owedTo_10 (by rw [Nat.mul_comm p 4])
theorem hd_X7_setOwed : yX7_setOwed.cls = RX7 ∧ yX7_setOwed.cls ≠ "java/lang/invoke/MethodHandle" ∧ yX7_setOwed.cls ≠ "java/lang/invoke/VarHandle" ∧ (parseMethodDescriptor yX7_setOwed.desc).map (fun d => d.parameters.length) = some 3 := by decide +kernel
set_option maxRecDepth 100000 in
set_option maxHeartbeats 4000000 in
theorem c_X7_setOwed (l : Launch) (G : gG) (s0 : Nat) (s1 : Nat) (s2 : Nat) (s3 : Nat) (s4 : Nat) (b0 : Nat) (b1 : Nat) (b2 : Nat) (b3 : Nat) (t : Nat → Int32) (n : Nat → Int32) (p : Nat) (c : Nat) (v : Int32) (hp : p < 8) (hc : c < 4) : mX l yX7_setOwed wsX7_setOwed ({ frames := 1, cells := 0, slots := 0, locals := 21 }) G (sW G s0 s1 s2 s3 s4 b0 b1 b2 b3 t n) (sW G s0 s1 s2 s3 s4 b0 b1 b2 b3 t (upd n (4 * p + c) (lessI v 9999))) [.ref s0, .int (nI p), .int (nI c), .int v] (.returned none) := by
  refine mX.of (cc := cX7_setOwed) (maxL := 4) (ret := none) (by decide) rfl (Nat.le_of_ble_eq_true rfl) ?_
  intro zp ze zs zm zb zt zc ls A hAe C hP hK hD hS hl
  obtain ⟨hx, hb, hr, hml, hown, hts, hlk⟩ := id C
  have hl : lv_has ls 4 [(0, .ref s0), (1, .int (nI p)), (2, .int (nI c)), (3, .int v)] := hl
  have k0 := hts (.fieldLink RX7 9 "DebtDowry$State" "owed" "[I") (by decide +kernel)
  have k1 := (fun w h => by revert w; decide +kernel : ∀ w ∈ wsX70, w ∈ wsX7_setOwed)
  have k2 := hts (.methodLink RX7 41 Lib.Math.min.name) (by decide +kernel)
  have k3 := hts (.static Lib.Math.min.name) (by decide +kernel)
  have k4 := hts (.initialized "java/lang/Math") (by decide +kernel)
  have k5 := hts (.code Lib.Math.min.name Lib.Math.min.code 2 (some .int)) (by decide +kernel)
  refine lv_aload_n hx hb dX7_setOwed_0 rfl (lv_at hl 0 rfl) ?_
  refine va_get (D := G.1) (ci := 7) (v := .ref s1) (C := RX7) (T := TX7) (N := 7) hx hb hts k1 hown hK hP 0 rfl rfl 1 (by decide) k0 (fun _ h9 => h9) rfl dX7_setOwed_1 ?_
  refine lv_iload_n hx hb dX7_setOwed_4 rfl (lv_at hl 1 rfl) ?_
  refine lv_iconst (v := 4) hx hb dX7_setOwed_5 (by decide) ?_
  refine n_imul hx hb dX7_setOwed_6 (u := p) (v := 4) rfl rfl (j := p * 4) (by omega) ?_
  refine lv_iload_n hx hb dX7_setOwed_7 rfl (lv_at hl 2 rfl) ?_
  refine n_iadd hx hb dX7_setOwed_8 (u := p * 4) (v := c) rfl rfl (j := (p * 4) + c) (by omega) ?_
  refine lv_sipush (v := 9999) hx hb dX7_setOwed_9 (by decide) ?_
  refine lv_iload_n hx hb dX7_setOwed_12 rfl (lv_at hl 3 rfl) ?_
  refine va_mmin hx hb (hml.trans hl.1.symm) hown k2 k3 k4 k5 (Nat.le_of_ble_eq_true rfl) (Nat.le_of_ble_eq_true rfl) (Nat.le_of_ble_eq_true rfl) (Nat.le_of_ble_eq_true rfl) dX7_setOwed_13 ?_
  refine n_iastQ hx hb hK hP hD hS 1 0 rfl rfl (x := (if v < 9999 then v else 9999)) (j := (p * 4) + c) rfl (by omega) (by decide) dX7_setOwed_16 (wsn := sW G s0 s1 s2 s3 s4 b0 b1 b2 b3 t (upd n ((p * 4) + c) (if v < 9999 then v else 9999))) (sW_r1 (by omega)) (fun H locs hP hD hS => ?_)
  have hP : va_P G.1 vwCl (sW G s0 s1 s2 s3 s4 b0 b1 b2 b3 t (upd n (4 * p + c) (lessI v 9999))) H := by rw [show (upd n (4 * p + c) (lessI v 9999)) = (upd n ((p * 4) + c) (if v < 9999 then v else 9999)) from by rw [Nat.mul_comm 4 p]; rfl]; exact hP
  exact mX_vret hAe C hP hS dX7_setOwed_17
theorem hd_X7_owedTogether : yX7_owedTogether.cls = RX7 ∧ yX7_owedTogether.cls ≠ "java/lang/invoke/MethodHandle" ∧ yX7_owedTogether.cls ≠ "java/lang/invoke/VarHandle" ∧ (parseMethodDescriptor yX7_owedTogether.desc).map (fun d => d.parameters.length) = some 1 := by decide +kernel
set_option maxRecDepth 100000 in
set_option maxHeartbeats 4000000 in
theorem c_X7_owedTogether (l : Launch) (G : gG) (s0 : Nat) (s1 : Nat) (s2 : Nat) (s3 : Nat) (s4 : Nat) (b0 : Nat) (b1 : Nat) (b2 : Nat) (b3 : Nat) (t : Nat → Int32) (n : Nat → Int32) (nc : Nat) (np : Nat) (p : Nat) (hT : tw t nc np) (hp : p < 8) : mR l yX7_owedTogether wsX7_owedTogether ({ frames := 1, cells := 0, slots := 0, locals := 22 }) G (sW G s0 s1 s2 s3 s4 b0 b1 b2 b3 t n) [.ref s0, .int (nI p)] (owU n p nc) := by
  refine mR.of (cc := cX7_owedTogether) (maxL := 4) (ret := (some .int)) (by decide) rfl (Nat.le_of_ble_eq_true rfl) ?_
  intro zp ze zs zm zb zt zc ls C hP hK hl
  obtain ⟨hx, hb, hr, hml, hown, hts, hlk⟩ := id C
  have hl : lv_has ls 4 [(0, .ref s0), (1, .int (nI p))] := hl
  have hT2 := hT.2.2
  have k0 := hts (.fieldLink RX7 24 "DebtDowry$State" "terms" "LDebtDowry$Terms;") (by decide +kernel)
  have k1 := (fun w h => by revert w; decide +kernel : ∀ w ∈ wsX70, w ∈ wsX7_owedTogether)
  have k2 := hts (.fieldLink RX7 47 "DebtDowry$Terms" "creditors" "I") (by decide +kernel)
  have k3 := (fun w h => by revert w; decide +kernel : ∀ w ∈ wsX80, w ∈ wsX7_owedTogether)
  refine lv_iconst (v := 0) hx hb dX7_owedTogether_0 (by decide) ?_
  refine lv_istore_n (lv' := [(2, .int 0), (0, .ref s0), (1, .int (nI p))]) hx hb dX7_owedTogether_1 rfl hl (by decide) rfl (fun ls hl => ?_)
  refine lv_iconst (v := 0) hx hb dX7_owedTogether_2 (by decide) ?_
  refine lv_istore_n (lv' := [(3, .int 0), (2, .int 0), (0, .ref s0), (1, .int (nI p))]) hx hb dX7_owedTogether_3 rfl hl (by decide) rfl (fun ls hl => ?_)
  refine wl_R (B := nc) (i0 := 0) (Inv := fun i1 ls => lv_has ls 4 [(0, .ref s0), (1, .int (nI p)), (2, .int (owU n p i1)), (3, .int (nI i1))] ∧ True) (by omega) ⟨lv_sub hl [2, 3, 1, 0] (rfl), trivial⟩ ?_
  rintro i1 ls hle4 ⟨hl, -⟩ ih4
  refine lv_iload_n hx hb dX7_owedTogether_4 rfl (lv_at hl 3 rfl) ?_
  refine lv_aload_n hx hb dX7_owedTogether_5 rfl (lv_at hl 0 rfl) ?_
  refine va_get (D := G.1) (ci := 7) (v := .ref b0) (C := RX7) (T := TX7) (N := 7) hx hb hts k1 hown hK hP 0 rfl rfl 0 (by decide) k0 (fun _ h9 => h9) rfl dX7_owedTogether_6 ?_
  refine va_get (D := G.1) (ci := 8) (v := .int (t 3)) (C := RX8) (T := TX8) (N := 9) hx hb hts k3 hown hK hP 5 rfl rfl 3 (by decide) k2 (fun _ h9 => h9) rfl dX7_owedTogether_9 ?_
  refine n_icmp_ge (tgt := 30) hx hb dX7_owedTogether_12 (by decide) (u := i1) (v := nc) rfl hT.1 (by omega) (by omega) (fun cq1 => ?_) (fun cq1 => ?_)
  · skip
    obtain rfl : nc = i1 := by omega
    refine lv_iload_n hx hb dX7_owedTogether_30 rfl (lv_at hl 2 rfl) ?_
    exact mR_iret C dX7_owedTogether_31 (rfl)
  · skip
    refine lv_iload_n hx hb dX7_owedTogether_15 rfl (lv_at hl 2 rfl) ?_
    refine lv_aload_n hx hb dX7_owedTogether_16 rfl (lv_at hl 0 rfl) ?_
    refine lv_iload_n hx hb dX7_owedTogether_17 rfl (lv_at hl 1 rfl) ?_
    refine lv_iload_n hx hb dX7_owedTogether_18 rfl (lv_at hl 3 rfl) ?_
    refine cR_V (Cn := RX7) (n := 2) (As := [.int (nI p), .int (nI i1)]) (rest := [.int (owU n p i1)]) C (c_X7_owedTo l G s0 s1 s2 s3 s4 b0 b1 b2 b3 t n  p i1 (by omega) (by omega)) gX7_owedTogether_X7_owedTo rfl ⟨rfl, rfl⟩ hd_X7_owedTo ⟨(Nat.le_of_ble_eq_true rfl), (Nat.le_of_ble_eq_true rfl)⟩ hK hP (va_recv hK hP (ci := 7) (q0 := 0) rfl rfl) rfl hl.1 rfl (Nat.le_of_ble_eq_true rfl) dX7_owedTogether_19 ⟨(Nat.le_of_ble_eq_true rfl), (Nat.le_of_ble_eq_true rfl)⟩ ?_
    refine lv_iadd hx hb dX7_owedTogether_22 ?_
    refine lv_istore_n (lv' := [(2, .int ((owU n p i1) + (n (4 * p + i1)))), (0, .ref s0), (1, .int (nI p)), (3, .int (nI i1))]) hx hb dX7_owedTogether_23 rfl hl (by decide) rfl (fun ls hl => ?_)
    refine lv_iinc (v := nI (i1 + 1)) (lv' := [(3, .int (nI (i1 + 1))), (2, .int ((owU n p i1) + (n (4 * p + i1)))), (0, .ref s0), (1, .int (nI p))]) hx hb dX7_owedTogether_24 hl (k := 3) rfl (by rw [show (nI i1 : Int32) = nI i1 from rfl]; exact nI_add _ 1) (by decide) rfl (fun ls hl => ?_)
    refine lv_goto (tgt := 4) hx hb dX7_owedTogether_27 (by decide) ?_
    exact ih4 _ (by omega) ⟨lv_sub hl [2, 3, 1, 0] (rfl), trivial⟩
theorem hd_X7_owedInAll : yX7_owedInAll.cls = RX7 ∧ yX7_owedInAll.cls ≠ "java/lang/invoke/MethodHandle" ∧ yX7_owedInAll.cls ≠ "java/lang/invoke/VarHandle" ∧ (parseMethodDescriptor yX7_owedInAll.desc).map (fun d => d.parameters.length) = some 0 := by decide +kernel
set_option maxRecDepth 100000 in
set_option maxHeartbeats 4000000 in
theorem c_X7_owedInAll (l : Launch) (G : gG) (s0 : Nat) (s1 : Nat) (s2 : Nat) (s3 : Nat) (s4 : Nat) (b0 : Nat) (b1 : Nat) (b2 : Nat) (b3 : Nat) (t : Nat → Int32) (n : Nat → Int32) (nc : Nat) (np : Nat) (hT : tw t nc np) : mR l yX7_owedInAll wsX7_owedInAll ({ frames := 2, cells := 0, slots := 0, locals := 45 }) G (sW G s0 s1 s2 s3 s4 b0 b1 b2 b3 t n) [.ref s0] (sumU (fun q => owU n q nc) np) := by
  refine mR.of (cc := cX7_owedInAll) (maxL := 3) (ret := (some .int)) (by decide) rfl (Nat.le_of_ble_eq_true rfl) ?_
  intro zp ze zs zm zb zt zc ls C hP hK hl
  obtain ⟨hx, hb, hr, hml, hown, hts, hlk⟩ := id C
  have hl : lv_has ls 3 [(0, .ref s0)] := hl
  have hT2 := hT.2.2
  have k0 := hts (.fieldLink RX7 24 "DebtDowry$State" "terms" "LDebtDowry$Terms;") (by decide +kernel)
  have k1 := (fun w h => by revert w; decide +kernel : ∀ w ∈ wsX70, w ∈ wsX7_owedInAll)
  have k2 := hts (.fieldLink RX7 55 "DebtDowry$Terms" "persons" "I") (by decide +kernel)
  have k3 := (fun w h => by revert w; decide +kernel : ∀ w ∈ wsX80, w ∈ wsX7_owedInAll)
  refine lv_iconst (v := 0) hx hb dX7_owedInAll_0 (by decide) ?_
  refine lv_istore_n (lv' := [(1, .int 0), (0, .ref s0)]) hx hb dX7_owedInAll_1 rfl hl (by decide) rfl (fun ls hl => ?_)
  refine lv_iconst (v := 0) hx hb dX7_owedInAll_2 (by decide) ?_
  refine lv_istore_n (lv' := [(2, .int 0), (1, .int 0), (0, .ref s0)]) hx hb dX7_owedInAll_3 rfl hl (by decide) rfl (fun ls hl => ?_)
  refine wl_R (B := np) (i0 := 0) (Inv := fun i1 ls => lv_has ls 3 [(0, .ref s0), (1, .int (sumU (fun q => owU n q nc) i1)), (2, .int (nI i1))] ∧ True) (by omega) ⟨lv_sub hl [2, 1, 0] (rfl), trivial⟩ ?_
  rintro i1 ls hle4 ⟨hl, -⟩ ih4
  refine lv_iload_n hx hb dX7_owedInAll_4 rfl (lv_at hl 2 rfl) ?_
  refine lv_aload_n hx hb dX7_owedInAll_5 rfl (lv_at hl 0 rfl) ?_
  refine va_get (D := G.1) (ci := 7) (v := .ref b0) (C := RX7) (T := TX7) (N := 7) hx hb hts k1 hown hK hP 0 rfl rfl 0 (by decide) k0 (fun _ h9 => h9) rfl dX7_owedInAll_6 ?_
  refine va_get (D := G.1) (ci := 8) (v := .int (t 4)) (C := RX8) (T := TX8) (N := 9) hx hb hts k3 hown hK hP 5 rfl rfl 4 (by decide) k2 (fun _ h9 => h9) rfl dX7_owedInAll_9 ?_
  refine n_icmp_ge (tgt := 29) hx hb dX7_owedInAll_12 (by decide) (u := i1) (v := np) rfl hT.2.1 (by omega) (by omega) (fun cq1 => ?_) (fun cq1 => ?_)
  · skip
    obtain rfl : np = i1 := by omega
    refine lv_iload_n hx hb dX7_owedInAll_29 rfl (lv_at hl 1 rfl) ?_
    exact mR_iret C dX7_owedInAll_30 (rfl)
  · skip
    refine lv_iload_n hx hb dX7_owedInAll_15 rfl (lv_at hl 1 rfl) ?_
    refine lv_aload_n hx hb dX7_owedInAll_16 rfl (lv_at hl 0 rfl) ?_
    refine lv_iload_n hx hb dX7_owedInAll_17 rfl (lv_at hl 2 rfl) ?_
    refine cR_V (Cn := RX7) (n := 1) (As := [.int (nI i1)]) (rest := [.int (sumU (fun q => owU n q nc) i1)]) C (c_X7_owedTogether l G s0 s1 s2 s3 s4 b0 b1 b2 b3 t n nc np i1 hT (by omega)) gX7_owedInAll_X7_owedTogether rfl ⟨rfl, rfl⟩ hd_X7_owedTogether ⟨(Nat.le_of_ble_eq_true rfl), (Nat.le_of_ble_eq_true rfl)⟩ hK hP (va_recv hK hP (ci := 7) (q0 := 0) rfl rfl) rfl hl.1 rfl (Nat.le_of_ble_eq_true rfl) dX7_owedInAll_18 ⟨(Nat.le_of_ble_eq_true rfl), (Nat.le_of_ble_eq_true rfl)⟩ ?_
    refine lv_iadd hx hb dX7_owedInAll_21 ?_
    refine lv_istore_n (lv' := [(1, .int ((sumU (fun q => owU n q nc) i1) + (owU n i1 nc))), (0, .ref s0), (2, .int (nI i1))]) hx hb dX7_owedInAll_22 rfl hl (by decide) rfl (fun ls hl => ?_)
    refine lv_iinc (v := nI (i1 + 1)) (lv' := [(2, .int (nI (i1 + 1))), (1, .int ((sumU (fun q => owU n q nc) i1) + (owU n i1 nc))), (0, .ref s0)]) hx hb dX7_owedInAll_23 hl (k := 2) rfl (by rw [show (nI i1 : Int32) = nI i1 from rfl]; exact nI_add _ 1) (by decide) rfl (fun ls hl => ?_)
    refine lv_goto (tgt := 4) hx hb dX7_owedInAll_26 (by decide) ?_
    exact ih4 _ (by omega) ⟨lv_sub hl [2, 1, 0] (rfl), trivial⟩
theorem hd_X7_wedSet : yX7_wedSet.cls = RX7 ∧ yX7_wedSet.cls ≠ "java/lang/invoke/MethodHandle" ∧ yX7_wedSet.cls ≠ "java/lang/invoke/VarHandle" ∧ (parseMethodDescriptor yX7_wedSet.desc).map (fun d => d.parameters.length) = some 0 := by decide +kernel
set_option maxRecDepth 100000 in
set_option maxHeartbeats 4000000 in
theorem c_X7_wedSet (l : Launch) (G : gG) (s0 : Nat) (s1 : Nat) (s2 : Nat) (s3 : Nat) (s4 : Nat) (b0 : Nat) (b1 : Nat) (b2 : Nat) (b3 : Nat) (t : Nat → Int32) (n : Nat → Int32) (nc : Nat) (np : Nat) (hT : tw t nc np) : mR l yX7_wedSet wsX7_wedSet ({ frames := 0, cells := 0, slots := 0, locals := 0 }) G (sW G s0 s1 s2 s3 s4 b0 b1 b2 b3 t n) [.ref s0] (wedS n np) := by
  refine mR.of (cc := cX7_wedSet) (maxL := 3) (ret := (some .int)) (by decide) rfl (Nat.le_of_ble_eq_true rfl) ?_
  intro zp ze zs zm zb zt zc ls C hP hK hl
  obtain ⟨hx, hb, hr, hml, hown, hts, hlk⟩ := id C
  have hl : lv_has ls 3 [(0, .ref s0)] := hl
  have hT2 := hT.2.2
  have k0 := hts (.fieldLink RX7 24 "DebtDowry$State" "terms" "LDebtDowry$Terms;") (by decide +kernel)
  have k1 := (fun w h => by revert w; decide +kernel : ∀ w ∈ wsX70, w ∈ wsX7_wedSet)
  have k2 := hts (.fieldLink RX7 55 "DebtDowry$Terms" "persons" "I") (by decide +kernel)
  have k3 := (fun w h => by revert w; decide +kernel : ∀ w ∈ wsX80, w ∈ wsX7_wedSet)
  have k4 := hts (.fieldLink RX7 21 "DebtDowry$State" "spouse" "[I") (by decide +kernel)
  refine lv_iconst (v := 0) hx hb dX7_wedSet_0 (by decide) ?_
  refine lv_istore_n (lv' := [(1, .int 0), (0, .ref s0)]) hx hb dX7_wedSet_1 rfl hl (by decide) rfl (fun ls hl => ?_)
  refine lv_iconst (v := 0) hx hb dX7_wedSet_2 (by decide) ?_
  refine lv_istore_n (lv' := [(2, .int 0), (1, .int 0), (0, .ref s0)]) hx hb dX7_wedSet_3 rfl hl (by decide) rfl (fun ls hl => ?_)
  refine wl_R (B := np) (i0 := 0) (Inv := fun i1 ls => lv_has ls 3 [(0, .ref s0), (1, .int (wedS n i1)), (2, .int (nI i1))] ∧ True) (by omega) ⟨lv_sub hl [2, 1, 0] (rfl), trivial⟩ ?_
  rintro i1 ls hle4 ⟨hl, -⟩ ih4
  refine lv_iload_n hx hb dX7_wedSet_4 rfl (lv_at hl 2 rfl) ?_
  refine lv_aload_n hx hb dX7_wedSet_5 rfl (lv_at hl 0 rfl) ?_
  refine va_get (D := G.1) (ci := 7) (v := .ref b0) (C := RX7) (T := TX7) (N := 7) hx hb hts k1 hown hK hP 0 rfl rfl 0 (by decide) k0 (fun _ h9 => h9) rfl dX7_wedSet_6 ?_
  refine va_get (D := G.1) (ci := 8) (v := .int (t 4)) (C := RX8) (T := TX8) (N := 9) hx hb hts k3 hown hK hP 5 rfl rfl 4 (by decide) k2 (fun _ h9 => h9) rfl dX7_wedSet_9 ?_
  refine n_icmp_ge (tgt := 37) hx hb dX7_wedSet_12 (by decide) (u := i1) (v := np) rfl hT.2.1 (by omega) (by omega) (fun cq1 => ?_) (fun cq1 => ?_)
  · skip
    obtain rfl : np = i1 := by omega
    refine lv_iload_n hx hb dX7_wedSet_37 rfl (lv_at hl 1 rfl) ?_
    exact mR_iret C dX7_wedSet_38 (rfl)
  · skip
    refine lv_aload_n hx hb dX7_wedSet_15 rfl (lv_at hl 0 rfl) ?_
    refine va_get (D := G.1) (ci := 7) (v := .ref s4) (C := RX7) (T := TX7) (N := 7) hx hb hts k1 hown hK hP 0 rfl rfl 4 (by decide) k4 (fun _ h9 => h9) rfl dX7_wedSet_16 ?_
    refine lv_iload_n hx hb dX7_wedSet_19 rfl (lv_at hl 2 rfl) ?_
    refine n_iald hx hb hK hP 4 0 rfl rfl (j := i1) rfl (by omega) (by decide) dX7_wedSet_20 ?_
    refine lv_iconst (v := (-1)) hx hb dX7_wedSet_21 (by decide) ?_
    refine lv_icmp_eq (tgt := 31) hx hb dX7_wedSet_22 (by decide) (fun cq2 => ?_) (fun cq2 => ?_)
    · skip
      refine lv_iinc (v := nI (i1 + 1)) (lv' := [(2, .int (nI (i1 + 1))), (0, .ref s0), (1, .int (wedS n i1))]) hx hb dX7_wedSet_31 hl (k := 2) rfl (by rw [show (nI i1 : Int32) = nI i1 from rfl]; exact nI_add _ 1) (by decide) rfl (fun ls hl => ?_)
      refine lv_goto (tgt := 4) hx hb dX7_wedSet_34 (by decide) ?_
      have e3 : wedS n i1 = wedS n (i1 + 1) := by first | exact setU_t (by simp only [wedP]; simp [cq1, cq2]) | exact setU_f' (by simp only [wedP]; simp [cq1, cq2])
      exact ih4 _ (by omega) ⟨lv_sub hl [1, 2, 0] (by rw [← e3]; rfl), trivial⟩
    · skip
      refine lv_iload_n hx hb dX7_wedSet_25 rfl (lv_at hl 1 rfl) ?_
      refine lv_iconst (v := 1) hx hb dX7_wedSet_26 (by decide) ?_
      refine lv_iload_n hx hb dX7_wedSet_27 rfl (lv_at hl 2 rfl) ?_
      refine lv_ishl hx hb dX7_wedSet_28 ?_
      refine lv_ior hx hb dX7_wedSet_29 ?_
      refine lv_istore_n (lv' := [(1, .int ((wedS n i1) ||| (1 <<< ((nI i1) &&& 31)))), (0, .ref s0), (2, .int (nI i1))]) hx hb dX7_wedSet_30 rfl hl (by decide) rfl (fun ls hl => ?_)
      refine lv_iinc (v := nI (i1 + 1)) (lv' := [(2, .int (nI (i1 + 1))), (1, .int ((wedS n i1) ||| (1 <<< ((nI i1) &&& 31)))), (0, .ref s0)]) hx hb dX7_wedSet_31 hl (k := 2) rfl (by rw [show (nI i1 : Int32) = nI i1 from rfl]; exact nI_add _ 1) (by decide) rfl (fun ls hl => ?_)
      refine lv_goto (tgt := 4) hx hb dX7_wedSet_34 (by decide) ?_
      have e4 : (wedS n i1) ||| (1 <<< ((nI i1) &&& 31)) = wedS n (i1 + 1) := by first | exact setU_t (by simp only [wedP]; simp [cq1, cq2]) | exact setU_f' (by simp only [wedP]; simp [cq1, cq2])
      exact ih4 _ (by omega) ⟨lv_sub hl [2, 1, 0] (by rw [← e4]; rfl), trivial⟩
theorem hd_X7_isWedMan : yX7_isWedMan.cls = RX7 ∧ yX7_isWedMan.cls ≠ "java/lang/invoke/MethodHandle" ∧ yX7_isWedMan.cls ≠ "java/lang/invoke/VarHandle" ∧ (parseMethodDescriptor yX7_isWedMan.desc).map (fun d => d.parameters.length) = some 1 := by decide +kernel
set_option maxRecDepth 100000 in
set_option maxHeartbeats 4000000 in
theorem c_X7_isWedMan (l : Launch) (G : gG) (s0 : Nat) (s1 : Nat) (s2 : Nat) (s3 : Nat) (s4 : Nat) (b0 : Nat) (b1 : Nat) (b2 : Nat) (b3 : Nat) (t : Nat → Int32) (n : Nat → Int32) (nc : Nat) (np : Nat) (p : Nat) (hT : tw t nc np) (hp : p < np) : mR l yX7_isWedMan wsX7_isWedMan ({ frames := 2, cells := 0, slots := 0, locals := 42 }) G (sW G s0 s1 s2 s3 s4 b0 b1 b2 b3 t n) [.ref s0, .int (nI p)] (bI (wedM t n p)) := by
  refine mR.of (cc := cX7_isWedMan) (maxL := 2) (ret := (some .boolean)) (by decide) rfl (Nat.le_of_ble_eq_true rfl) ?_
  intro zp ze zs zm zb zt zc ls C hP hK hl
  obtain ⟨hx, hb, hr, hml, hown, hts, hlk⟩ := id C
  have hl : lv_has ls 2 [(0, .ref s0), (1, .int (nI p))] := hl
  have hT2 := hT.2.2
  have hin := inB_of hT.2.1 (by omega) hp
  have k0 := hts (.fieldLink RX7 24 "DebtDowry$State" "terms" "LDebtDowry$Terms;") (by decide +kernel)
  have k1 := (fun w h => by revert w; decide +kernel : ∀ w ∈ wsX70, w ∈ wsX7_isWedMan)
  have k2 := hts (.fieldLink RX7 21 "DebtDowry$State" "spouse" "[I") (by decide +kernel)
  refine lv_aload_n hx hb dX7_isWedMan_0 rfl (lv_at hl 0 rfl) ?_
  refine va_get (D := G.1) (ci := 7) (v := .ref b0) (C := RX7) (T := TX7) (N := 7) hx hb hts k1 hown hK hP 0 rfl rfl 0 (by decide) k0 (fun _ h9 => h9) rfl dX7_isWedMan_1 ?_
  refine lv_iload_n hx hb dX7_isWedMan_4 rfl (lv_at hl 1 rfl) ?_
  refine cR_V (Cn := RX8) (n := 1) (As := [.int (nI p)]) (rest := []) C (c_X8_isMan l G b0 b1 b2 b3 t nc np (nI p) hT) gX7_isWedMan_X8_isMan rfl ⟨rfl, rfl⟩ hd_X8_isMan ⟨(Nat.le_of_ble_eq_true rfl), (Nat.le_of_ble_eq_true rfl)⟩ hK (hP.sub [5, 6, 7, 8] rfl) (va_recv hK hP (ci := 8) (q0 := 5) rfl rfl) rfl hl.1 rfl (Nat.le_of_ble_eq_true rfl) dX7_isWedMan_5 ⟨(Nat.le_of_ble_eq_true rfl), (Nat.le_of_ble_eq_true rfl)⟩ ?_
  refine b_if_eq (tgt := 25) hx hb dX7_isWedMan_8 (by decide) (fun cq1 => ?_) (fun cq1 => ?_)
  · skip
    refine lv_iconst (v := 0) hx hb dX7_isWedMan_25 (by decide) ?_
    exact mR_zret C dX7_isWedMan_26 (by decide) ((bI_f (fun h => cq1 ⟨hin, h.1⟩)).symm)
  · skip
    refine lv_aload_n hx hb dX7_isWedMan_11 rfl (lv_at hl 0 rfl) ?_
    refine va_get (D := G.1) (ci := 7) (v := .ref s4) (C := RX7) (T := TX7) (N := 7) hx hb hts k1 hown hK hP 0 rfl rfl 4 (by decide) k2 (fun _ h9 => h9) rfl dX7_isWedMan_12 ?_
    refine lv_iload_n hx hb dX7_isWedMan_15 rfl (lv_at hl 1 rfl) ?_
    refine n_iald hx hb hK hP 4 0 rfl rfl (j := p) rfl (by omega) (by decide) dX7_isWedMan_16 ?_
    refine lv_iconst (v := (-1)) hx hb dX7_isWedMan_17 (by decide) ?_
    refine lv_icmp_eq (tgt := 25) hx hb dX7_isWedMan_18 (by decide) (fun cq2 => ?_) (fun cq2 => ?_)
    · skip
      refine lv_iconst (v := 0) hx hb dX7_isWedMan_25 (by decide) ?_
      exact mR_zret C dX7_isWedMan_26 (by decide) ((bI_f (fun h => h.2 cq2)).symm)
    · skip
      refine lv_iconst (v := 1) hx hb dX7_isWedMan_21 (by decide) ?_
      refine lv_goto (tgt := 26) hx hb dX7_isWedMan_22 (by decide) ?_
      exact mR_zret C dX7_isWedMan_26 (by decide) ((bI_t ⟨cq1.2, cq2⟩).symm)
theorem hd_X7_hasFailed : yX7_hasFailed.cls = RX7 ∧ yX7_hasFailed.cls ≠ "java/lang/invoke/MethodHandle" ∧ yX7_hasFailed.cls ≠ "java/lang/invoke/VarHandle" ∧ (parseMethodDescriptor yX7_hasFailed.desc).map (fun d => d.parameters.length) = some 1 := by decide +kernel
set_option maxRecDepth 100000 in
set_option maxHeartbeats 4000000 in
theorem c_X7_hasFailed (l : Launch) (G : gG) (s0 : Nat) (s1 : Nat) (s2 : Nat) (s3 : Nat) (s4 : Nat) (b0 : Nat) (b1 : Nat) (b2 : Nat) (b3 : Nat) (t : Nat → Int32) (n : Nat → Int32) (c : Nat) : mR l yX7_hasFailed wsX7_hasFailed ({ frames := 0, cells := 0, slots := 0, locals := 0 }) G (sW G s0 s1 s2 s3 s4 b0 b1 b2 b3 t n) [.ref s0, .int (nI c)] (bI (hasB (n 52) c)) := by
  refine mR.of (cc := cX7_hasFailed) (maxL := 2) (ret := (some .boolean)) (by decide) rfl (Nat.le_of_ble_eq_true rfl) ?_
  intro zp ze zs zm zb zt zc ls C hP hK hl
  obtain ⟨hx, hb, hr, hml, hown, hts, hlk⟩ := id C
  have hl : lv_has ls 2 [(0, .ref s0), (1, .int (nI c))] := hl
  have k0 := hts (.fieldLink RX7 28 "DebtDowry$State" "failed" "I") (by decide +kernel)
  have k1 := (fun w h => by revert w; decide +kernel : ∀ w ∈ wsX70, w ∈ wsX7_hasFailed)
  refine lv_aload_n hx hb dX7_hasFailed_0 rfl (lv_at hl 0 rfl) ?_
  refine va_get (D := G.1) (ci := 7) (v := .int (n 52)) (C := RX7) (T := TX7) (N := 7) hx hb hts k1 hown hK hP 0 rfl rfl 5 (by decide) k0 (fun _ h9 => h9) rfl dX7_hasFailed_1 ?_
  refine lv_iload_n hx hb dX7_hasFailed_4 rfl (lv_at hl 1 rfl) ?_
  refine lv_ishr hx hb dX7_hasFailed_5 ?_
  refine lv_iconst (v := 1) hx hb dX7_hasFailed_6 (by decide) ?_
  refine lv_iand hx hb dX7_hasFailed_7 ?_
  refine lv_iconst (v := 1) hx hb dX7_hasFailed_8 (by decide) ?_
  refine lv_icmp_ne (tgt := 16) hx hb dX7_hasFailed_9 (by decide) (fun cq1 => ?_) (fun cq1 => ?_)
  · skip
    refine lv_iconst (v := 0) hx hb dX7_hasFailed_16 (by decide) ?_
    exact mR_zret C dX7_hasFailed_17 (by decide) ((bI_f cq1).symm)
  · skip
    refine lv_iconst (v := 1) hx hb dX7_hasFailed_12 (by decide) ?_
    refine lv_goto (tgt := 17) hx hb dX7_hasFailed_13 (by decide) ?_
    exact mR_zret C dX7_hasFailed_17 (by decide) ((bI_t cq1).symm)
theorem hd_X7_hasInsulted : yX7_hasInsulted.cls = RX7 ∧ yX7_hasInsulted.cls ≠ "java/lang/invoke/MethodHandle" ∧ yX7_hasInsulted.cls ≠ "java/lang/invoke/VarHandle" ∧ (parseMethodDescriptor yX7_hasInsulted.desc).map (fun d => d.parameters.length) = some 2 := by decide +kernel
set_option maxRecDepth 100000 in
set_option maxHeartbeats 4000000 in
theorem c_X7_hasInsulted (l : Launch) (G : gG) (s0 : Nat) (s1 : Nat) (s2 : Nat) (s3 : Nat) (s4 : Nat) (b0 : Nat) (b1 : Nat) (b2 : Nat) (b3 : Nat) (t : Nat → Int32) (n : Nat → Int32) (p : Nat) (c : Nat) (hp : p < 8) : mR l yX7_hasInsulted wsX7_hasInsulted ({ frames := 0, cells := 0, slots := 0, locals := 0 }) G (sW G s0 s1 s2 s3 s4 b0 b1 b2 b3 t n) [.ref s0, .int (nI p), .int (nI c)] (bI (hasB (n (36 + p)) c)) := by
  refine mR.of (cc := cX7_hasInsulted) (maxL := 3) (ret := (some .boolean)) (by decide) rfl (Nat.le_of_ble_eq_true rfl) ?_
  intro zp ze zs zm zb zt zc ls C hP hK hl
  obtain ⟨hx, hb, hr, hml, hown, hts, hlk⟩ := id C
  have hl : lv_has ls 3 [(0, .ref s0), (1, .int (nI p)), (2, .int (nI c))] := hl
  have k0 := hts (.fieldLink RX7 18 "DebtDowry$State" "insults" "[I") (by decide +kernel)
  have k1 := (fun w h => by revert w; decide +kernel : ∀ w ∈ wsX70, w ∈ wsX7_hasInsulted)
  refine lv_aload_n hx hb dX7_hasInsulted_0 rfl (lv_at hl 0 rfl) ?_
  refine va_get (D := G.1) (ci := 7) (v := .ref s3) (C := RX7) (T := TX7) (N := 7) hx hb hts k1 hown hK hP 0 rfl rfl 3 (by decide) k0 (fun _ h9 => h9) rfl dX7_hasInsulted_1 ?_
  refine lv_iload_n hx hb dX7_hasInsulted_4 rfl (lv_at hl 1 rfl) ?_
  refine n_iald hx hb hK hP 3 0 rfl rfl (j := p) rfl (by omega) (by decide) dX7_hasInsulted_5 ?_
  refine lv_iload_n hx hb dX7_hasInsulted_6 rfl (lv_at hl 2 rfl) ?_
  refine lv_ishr hx hb dX7_hasInsulted_7 ?_
  refine lv_iconst (v := 1) hx hb dX7_hasInsulted_8 (by decide) ?_
  refine lv_iand hx hb dX7_hasInsulted_9 ?_
  refine lv_iconst (v := 1) hx hb dX7_hasInsulted_10 (by decide) ?_
  refine lv_icmp_ne (tgt := 18) hx hb dX7_hasInsulted_11 (by decide) (fun cq1 => ?_) (fun cq1 => ?_)
  · skip
    refine lv_iconst (v := 0) hx hb dX7_hasInsulted_18 (by decide) ?_
    exact mR_zret C dX7_hasInsulted_19 (by decide) ((bI_f cq1).symm)
  · skip
    refine lv_iconst (v := 1) hx hb dX7_hasInsulted_14 (by decide) ?_
    refine lv_goto (tgt := 19) hx hb dX7_hasInsulted_15 (by decide) ?_
    exact mR_zret C dX7_hasInsulted_19 (by decide) ((bI_t cq1).symm)
theorem hd_X7_moodBy : yX7_moodBy.cls = RX7 ∧ yX7_moodBy.cls ≠ "java/lang/invoke/MethodHandle" ∧ yX7_moodBy.cls ≠ "java/lang/invoke/VarHandle" ∧ (parseMethodDescriptor yX7_moodBy.desc).map (fun d => d.parameters.length) = some 3 := by decide +kernel
set_option maxRecDepth 100000 in
set_option maxHeartbeats 4000000 in
theorem c_X7_moodBy (l : Launch) (G : gG) (s0 : Nat) (s1 : Nat) (s2 : Nat) (s3 : Nat) (s4 : Nat) (b0 : Nat) (b1 : Nat) (b2 : Nat) (b3 : Nat) (t : Nat → Int32) (n : Nat → Int32) (c : Nat) (v : Int32) (b : Prop) [Decidable b] (hc : c < 4) : mR l yX7_moodBy wsX7_moodBy ({ frames := 1, cells := 0, slots := 0, locals := 21 }) G (sW G s0 s1 s2 s3 s4 b0 b1 b2 b3 t n) [.ref s0, .int (nI c), .int v, .int (bI (b))] (mdG (n 52) b v (t (9 + c)) (t (13 + c)) c) := by
  refine mR.of (cc := cX7_moodBy) (maxL := 4) (ret := (some .int)) (by decide) rfl (Nat.le_of_ble_eq_true rfl) ?_
  intro zp ze zs zm zb zt zc ls C hP hK hl
  obtain ⟨hx, hb, hr, hml, hown, hts, hlk⟩ := id C
  have hl : lv_has ls 4 [(0, .ref s0), (1, .int (nI c)), (2, .int v), (3, .int (bI (b)))] := hl
  have k0 := hts (.fieldLink RX7 24 "DebtDowry$State" "terms" "LDebtDowry$Terms;") (by decide +kernel)
  have k1 := (fun w h => by revert w; decide +kernel : ∀ w ∈ wsX70, w ∈ wsX7_moodBy)
  have k2 := hts (.fieldLink RX7 69 "DebtDowry$Terms" "low" "[I") (by decide +kernel)
  have k3 := (fun w h => by revert w; decide +kernel : ∀ w ∈ wsX80, w ∈ wsX7_moodBy)
  have k4 := hts (.fieldLink RX7 72 "DebtDowry$Terms" "high" "[I") (by decide +kernel)
  refine lv_aload_n hx hb dX7_moodBy_0 rfl (lv_at hl 0 rfl) ?_
  refine lv_iload_n hx hb dX7_moodBy_1 rfl (lv_at hl 1 rfl) ?_
  refine cR_V (Cn := RX7) (n := 1) (As := [.int (nI c)]) (rest := []) C (c_X7_hasFailed l G s0 s1 s2 s3 s4 b0 b1 b2 b3 t n  c ) gX7_moodBy_X7_hasFailed rfl ⟨rfl, rfl⟩ hd_X7_hasFailed ⟨(Nat.le_of_ble_eq_true rfl), (Nat.le_of_ble_eq_true rfl)⟩ hK hP (va_recv hK hP (ci := 7) (q0 := 0) rfl rfl) rfl hl.1 rfl (Nat.le_of_ble_eq_true rfl) dX7_moodBy_2 ⟨(Nat.le_of_ble_eq_true rfl), (Nat.le_of_ble_eq_true rfl)⟩ ?_
  refine b_if_eq (tgt := 10) hx hb dX7_moodBy_5 (by decide) (fun cq1 => ?_) (fun cq1 => ?_)
  · skip
    refine lv_iload_n hx hb dX7_moodBy_10 rfl (lv_at hl 3 rfl) ?_
    refine b_if_ne (tgt := 27) hx hb dX7_moodBy_11 (by decide) (fun cq2 => ?_) (fun cq2 => ?_)
    · skip
      refine lv_iconst (v := 0) hx hb dX7_moodBy_27 (by decide) ?_
      exact mR_iret C dX7_moodBy_28 (by simp [mdG, cq1, cq2])
    · skip
      refine lv_iload_n hx hb dX7_moodBy_14 rfl (lv_at hl 2 rfl) ?_
      refine lv_aload_n hx hb dX7_moodBy_15 rfl (lv_at hl 0 rfl) ?_
      refine va_get (D := G.1) (ci := 7) (v := .ref b0) (C := RX7) (T := TX7) (N := 7) hx hb hts k1 hown hK hP 0 rfl rfl 0 (by decide) k0 (fun _ h9 => h9) rfl dX7_moodBy_16 ?_
      refine va_get (D := G.1) (ci := 8) (v := .ref b1) (C := RX8) (T := TX8) (N := 9) hx hb hts k3 hown hK hP 5 rfl rfl 6 (by decide) k2 (fun _ h9 => h9) rfl dX7_moodBy_19 ?_
      refine lv_iload_n hx hb dX7_moodBy_22 rfl (lv_at hl 1 rfl) ?_
      refine n_iald hx hb hK hP 6 0 rfl rfl (j := c) rfl (by omega) (by decide) dX7_moodBy_23 ?_
      refine lv_icmp_ge (tgt := 29) hx hb dX7_moodBy_24 (by decide) (fun cq3 => ?_) (fun cq3 => ?_)
      · skip
        refine lv_iload_n hx hb dX7_moodBy_29 rfl (lv_at hl 2 rfl) ?_
        refine lv_aload_n hx hb dX7_moodBy_30 rfl (lv_at hl 0 rfl) ?_
        refine va_get (D := G.1) (ci := 7) (v := .ref b0) (C := RX7) (T := TX7) (N := 7) hx hb hts k1 hown hK hP 0 rfl rfl 0 (by decide) k0 (fun _ h9 => h9) rfl dX7_moodBy_31 ?_
        refine va_get (D := G.1) (ci := 8) (v := .ref b2) (C := RX8) (T := TX8) (N := 9) hx hb hts k3 hown hK hP 5 rfl rfl 7 (by decide) k4 (fun _ h9 => h9) rfl dX7_moodBy_34 ?_
        refine lv_iload_n hx hb dX7_moodBy_37 rfl (lv_at hl 1 rfl) ?_
        refine n_iald hx hb hK hP 7 0 rfl rfl (j := c) rfl (by omega) (by decide) dX7_moodBy_38 ?_
        refine lv_icmp_gt (tgt := 46) hx hb dX7_moodBy_39 (by decide) (fun cq4 => ?_) (fun cq4 => ?_)
        · skip
          refine lv_iconst (v := 2) hx hb dX7_moodBy_46 (by decide) ?_
          exact mR_iret C dX7_moodBy_47 (by simp [mdG, cq1, cq2, cq3, (i32_nlt.mpr cq3), cq4, (i32_nle.mpr cq4)])
        · skip
          refine lv_iconst (v := 1) hx hb dX7_moodBy_42 (by decide) ?_
          refine lv_goto (tgt := 47) hx hb dX7_moodBy_43 (by decide) ?_
          exact mR_iret C dX7_moodBy_47 (by simp [mdG, cq1, cq2, cq3, (i32_nlt.mpr cq3), cq4, (i32_nlt.mp cq4)])
      · skip
        refine lv_iconst (v := 0) hx hb dX7_moodBy_27 (by decide) ?_
        exact mR_iret C dX7_moodBy_28 (by simp [mdG, cq1, cq2, cq3, (i32_nle.mp cq3)])
  · skip
    refine lv_iconst (v := 3) hx hb dX7_moodBy_8 (by decide) ?_
    exact mR_iret C dX7_moodBy_9 (by simp [mdG, cq1])
theorem hd_X7_moodTo : yX7_moodTo.cls = RX7 ∧ yX7_moodTo.cls ≠ "java/lang/invoke/MethodHandle" ∧ yX7_moodTo.cls ≠ "java/lang/invoke/VarHandle" ∧ (parseMethodDescriptor yX7_moodTo.desc).map (fun d => d.parameters.length) = some 2 := by decide +kernel
set_option maxRecDepth 100000 in
set_option maxHeartbeats 4000000 in
theorem c_X7_moodTo (l : Launch) (G : gG) (s0 : Nat) (s1 : Nat) (s2 : Nat) (s3 : Nat) (s4 : Nat) (b0 : Nat) (b1 : Nat) (b2 : Nat) (b3 : Nat) (t : Nat → Int32) (n : Nat → Int32) (p : Nat) (c : Nat) (hp : p < 8) (hc : c < 4) : mR l yX7_moodTo wsX7_moodTo ({ frames := 2, cells := 0, slots := 0, locals := 44 }) G (sW G s0 s1 s2 s3 s4 b0 b1 b2 b3 t n) [.ref s0, .int (nI p), .int (nI c)] (tm t n p c) := by
  refine mR.of (cc := cX7_moodTo) (maxL := 3) (ret := (some .int)) (by decide) rfl (Nat.le_of_ble_eq_true rfl) ?_
  intro zp ze zs zm zb zt zc ls C hP hK hl
  obtain ⟨hx, hb, hr, hml, hown, hts, hlk⟩ := id C
  have hl : lv_has ls 3 [(0, .ref s0), (1, .int (nI p)), (2, .int (nI c))] := hl
  refine lv_aload_n hx hb dX7_moodTo_0 rfl (lv_at hl 0 rfl) ?_
  refine lv_iload_n hx hb dX7_moodTo_1 rfl (lv_at hl 2 rfl) ?_
  refine lv_aload_n hx hb dX7_moodTo_2 rfl (lv_at hl 0 rfl) ?_
  refine lv_iload_n hx hb dX7_moodTo_3 rfl (lv_at hl 1 rfl) ?_
  refine lv_iload_n hx hb dX7_moodTo_4 rfl (lv_at hl 2 rfl) ?_
  refine cR_V (Cn := RX7) (n := 2) (As := [.int (nI p), .int (nI c)]) (rest := [.int (nI c), .ref s0]) C (c_X7_owedTo l G s0 s1 s2 s3 s4 b0 b1 b2 b3 t n  p c (by omega) (by omega)) gX7_moodTo_X7_owedTo rfl ⟨rfl, rfl⟩ hd_X7_owedTo ⟨(Nat.le_of_ble_eq_true rfl), (Nat.le_of_ble_eq_true rfl)⟩ hK hP (va_recv hK hP (ci := 7) (q0 := 0) rfl rfl) rfl hl.1 rfl (Nat.le_of_ble_eq_true rfl) dX7_moodTo_5 ⟨(Nat.le_of_ble_eq_true rfl), (Nat.le_of_ble_eq_true rfl)⟩ ?_
  refine lv_aload_n hx hb dX7_moodTo_8 rfl (lv_at hl 0 rfl) ?_
  refine lv_iload_n hx hb dX7_moodTo_9 rfl (lv_at hl 1 rfl) ?_
  refine lv_iload_n hx hb dX7_moodTo_10 rfl (lv_at hl 2 rfl) ?_
  refine cR_V (Cn := RX7) (n := 2) (As := [.int (nI p), .int (nI c)]) (rest := [.int (n (4 * p + c)), .int (nI c), .ref s0]) C (c_X7_hasInsulted l G s0 s1 s2 s3 s4 b0 b1 b2 b3 t n  p c (by omega)) gX7_moodTo_X7_hasInsulted rfl ⟨rfl, rfl⟩ hd_X7_hasInsulted ⟨(Nat.le_of_ble_eq_true rfl), (Nat.le_of_ble_eq_true rfl)⟩ hK hP (va_recv hK hP (ci := 7) (q0 := 0) rfl rfl) rfl hl.1 rfl (Nat.le_of_ble_eq_true rfl) dX7_moodTo_11 ⟨(Nat.le_of_ble_eq_true rfl), (Nat.le_of_ble_eq_true rfl)⟩ ?_
  refine cR_V (Cn := RX7) (n := 3) (As := [.int (nI c), .int (n (4 * p + c)), .int (bI (hasB (n (36 + p)) c))]) (rest := []) C (c_X7_moodBy l G s0 s1 s2 s3 s4 b0 b1 b2 b3 t n  c (n (4 * p + c)) (hasB (n (36 + p)) c) (by omega)) gX7_moodTo_X7_moodBy rfl ⟨rfl, rfl⟩ hd_X7_moodBy ⟨(Nat.le_of_ble_eq_true rfl), (Nat.le_of_ble_eq_true rfl)⟩ hK hP (va_recv hK hP (ci := 7) (q0 := 0) rfl rfl) rfl hl.1 rfl (Nat.le_of_ble_eq_true rfl) dX7_moodTo_14 ⟨(Nat.le_of_ble_eq_true rfl), (Nat.le_of_ble_eq_true rfl)⟩ ?_
  exact mR_iret C dX7_moodTo_17 (rfl)
theorem hd_X7_personsByMood : yX7_personsByMood.cls = RX7 ∧ yX7_personsByMood.cls ≠ "java/lang/invoke/MethodHandle" ∧ yX7_personsByMood.cls ≠ "java/lang/invoke/VarHandle" ∧ (parseMethodDescriptor yX7_personsByMood.desc).map (fun d => d.parameters.length) = some 2 := by decide +kernel
set_option maxRecDepth 100000 in
set_option maxHeartbeats 4000000 in
theorem c_X7_personsByMood (l : Launch) (G : gG) (s0 : Nat) (s1 : Nat) (s2 : Nat) (s3 : Nat) (s4 : Nat) (b0 : Nat) (b1 : Nat) (b2 : Nat) (b3 : Nat) (t : Nat → Int32) (n : Nat → Int32) (nc : Nat) (np : Nat) (c : Nat) (k : Int32) (hT : tw t nc np) (hc : c < 4) : mR l yX7_personsByMood wsX7_personsByMood ({ frames := 3, cells := 0, slots := 0, locals := 66 }) G (sW G s0 s1 s2 s3 s4 b0 b1 b2 b3 t n) [.ref s0, .int (nI c), .int k] (whoU t n c k np) := by
  refine mR.of (cc := cX7_personsByMood) (maxL := 5) (ret := (some .int)) (by decide) rfl (Nat.le_of_ble_eq_true rfl) ?_
  intro zp ze zs zm zb zt zc ls C hP hK hl
  obtain ⟨hx, hb, hr, hml, hown, hts, hlk⟩ := id C
  have hl : lv_has ls 5 [(0, .ref s0), (1, .int (nI c)), (2, .int k)] := hl
  have hT2 := hT.2.2
  have k0 := hts (.fieldLink RX7 24 "DebtDowry$State" "terms" "LDebtDowry$Terms;") (by decide +kernel)
  have k1 := (fun w h => by revert w; decide +kernel : ∀ w ∈ wsX70, w ∈ wsX7_personsByMood)
  have k2 := hts (.fieldLink RX7 55 "DebtDowry$Terms" "persons" "I") (by decide +kernel)
  have k3 := (fun w h => by revert w; decide +kernel : ∀ w ∈ wsX80, w ∈ wsX7_personsByMood)
  refine lv_iconst (v := 0) hx hb dX7_personsByMood_0 (by decide) ?_
  refine lv_istore_n (lv' := [(3, .int 0), (0, .ref s0), (1, .int (nI c)), (2, .int k)]) hx hb dX7_personsByMood_1 rfl hl (by decide) rfl (fun ls hl => ?_)
  refine lv_iconst (v := 0) hx hb dX7_personsByMood_2 (by decide) ?_
  refine lv_istore (lv' := [(4, .int 0), (3, .int 0), (0, .ref s0), (1, .int (nI c)), (2, .int k)]) hx hb dX7_personsByMood_3 hl (by decide) rfl (fun ls hl => ?_)
  refine wl_R (B := np) (i0 := 0) (Inv := fun i1 ls => lv_has ls 5 [(0, .ref s0), (1, .int (nI c)), (2, .int k), (3, .int (whoU t n c k i1)), (4, .int (nI i1))] ∧ True) (by omega) ⟨lv_sub hl [2, 3, 4, 1, 0] (rfl), trivial⟩ ?_
  rintro i1 ls hle5 ⟨hl, -⟩ ih5
  refine lv_iload hx hb dX7_personsByMood_5 (lv_at hl 4 rfl) ?_
  refine lv_aload_n hx hb dX7_personsByMood_7 rfl (lv_at hl 0 rfl) ?_
  refine va_get (D := G.1) (ci := 7) (v := .ref b0) (C := RX7) (T := TX7) (N := 7) hx hb hts k1 hown hK hP 0 rfl rfl 0 (by decide) k0 (fun _ h9 => h9) rfl dX7_personsByMood_8 ?_
  refine va_get (D := G.1) (ci := 8) (v := .int (t 4)) (C := RX8) (T := TX8) (N := 9) hx hb hts k3 hown hK hP 5 rfl rfl 4 (by decide) k2 (fun _ h9 => h9) rfl dX7_personsByMood_11 ?_
  refine n_icmp_ge (tgt := 41) hx hb dX7_personsByMood_14 (by decide) (u := i1) (v := np) rfl hT.2.1 (by omega) (by omega) (fun cq1 => ?_) (fun cq1 => ?_)
  · skip
    obtain rfl : np = i1 := by omega
    refine lv_iload_n hx hb dX7_personsByMood_41 rfl (lv_at hl 3 rfl) ?_
    exact mR_iret C dX7_personsByMood_42 (rfl)
  · skip
    refine lv_aload_n hx hb dX7_personsByMood_17 rfl (lv_at hl 0 rfl) ?_
    refine lv_iload hx hb dX7_personsByMood_18 (lv_at hl 4 rfl) ?_
    refine lv_iload_n hx hb dX7_personsByMood_20 rfl (lv_at hl 1 rfl) ?_
    refine cR_V (Cn := RX7) (n := 2) (As := [.int (nI i1), .int (nI c)]) (rest := []) C (c_X7_moodTo l G s0 s1 s2 s3 s4 b0 b1 b2 b3 t n  i1 c (by omega) (by omega)) gX7_personsByMood_X7_moodTo rfl ⟨rfl, rfl⟩ hd_X7_moodTo ⟨(Nat.le_of_ble_eq_true rfl), (Nat.le_of_ble_eq_true rfl)⟩ hK hP (va_recv hK hP (ci := 7) (q0 := 0) rfl rfl) rfl hl.1 rfl (Nat.le_of_ble_eq_true rfl) dX7_personsByMood_21 ⟨(Nat.le_of_ble_eq_true rfl), (Nat.le_of_ble_eq_true rfl)⟩ ?_
    refine lv_iload_n hx hb dX7_personsByMood_24 rfl (lv_at hl 2 rfl) ?_
    refine lv_icmp_ne (tgt := 35) hx hb dX7_personsByMood_25 (by decide) (fun cq2 => ?_) (fun cq2 => ?_)
    · skip
      refine lv_iinc (v := nI (i1 + 1)) (lv' := [(4, .int (nI (i1 + 1))), (0, .ref s0), (1, .int (nI c)), (2, .int k), (3, .int (whoU t n c k i1))]) hx hb dX7_personsByMood_35 hl (k := 4) rfl (by rw [show (nI i1 : Int32) = nI i1 from rfl]; exact nI_add _ 1) (by decide) rfl (fun ls hl => ?_)
      refine lv_goto (tgt := 5) hx hb dX7_personsByMood_38 (by decide) ?_
      have e3 : whoU t n c k i1 = whoU t n c k (i1 + 1) := by first | exact setU_t (by simp only [whoP]; simp [cq1, cq2]) | exact setU_f' (by simp only [whoP]; simp [cq1, cq2])
      exact ih5 _ (by omega) ⟨lv_sub hl [1, 2, 3, 4, 0] (by rw [← e3]; rfl), trivial⟩
    · skip
      refine lv_iload_n hx hb dX7_personsByMood_28 rfl (lv_at hl 3 rfl) ?_
      refine lv_iconst (v := 1) hx hb dX7_personsByMood_29 (by decide) ?_
      refine lv_iload hx hb dX7_personsByMood_30 (lv_at hl 4 rfl) ?_
      refine lv_ishl hx hb dX7_personsByMood_32 ?_
      refine lv_ior hx hb dX7_personsByMood_33 ?_
      refine lv_istore_n (lv' := [(3, .int ((whoU t n c k i1) ||| (1 <<< ((nI i1) &&& 31)))), (0, .ref s0), (1, .int (nI c)), (2, .int k), (4, .int (nI i1))]) hx hb dX7_personsByMood_34 rfl hl (by decide) rfl (fun ls hl => ?_)
      refine lv_iinc (v := nI (i1 + 1)) (lv' := [(4, .int (nI (i1 + 1))), (3, .int ((whoU t n c k i1) ||| (1 <<< ((nI i1) &&& 31)))), (0, .ref s0), (1, .int (nI c)), (2, .int k)]) hx hb dX7_personsByMood_35 hl (k := 4) rfl (by rw [show (nI i1 : Int32) = nI i1 from rfl]; exact nI_add _ 1) (by decide) rfl (fun ls hl => ?_)
      refine lv_goto (tgt := 5) hx hb dX7_personsByMood_38 (by decide) ?_
      have e4 : (whoU t n c k i1) ||| (1 <<< ((nI i1) &&& 31)) = whoU t n c k (i1 + 1) := by first | exact setU_t (by simp only [whoP]; simp [cq1, cq2]) | exact setU_f' (by simp only [whoP]; simp [cq1, cq2])
      exact ih5 _ (by omega) ⟨lv_sub hl [2, 3, 4, 1, 0] (by rw [← e4]; rfl), trivial⟩
theorem hd_X7_worthOf : yX7_worthOf.cls = RX7 ∧ yX7_worthOf.cls ≠ "java/lang/invoke/MethodHandle" ∧ yX7_worthOf.cls ≠ "java/lang/invoke/VarHandle" ∧ (parseMethodDescriptor yX7_worthOf.desc).map (fun d => d.parameters.length) = some 2 := by decide +kernel
set_option maxRecDepth 100000 in
set_option maxHeartbeats 4000000 in
theorem c_X7_worthOf (l : Launch) (G : gG) (s0 : Nat) (s1 : Nat) (s2 : Nat) (s3 : Nat) (s4 : Nat) (b0 : Nat) (b1 : Nat) (b2 : Nat) (b3 : Nat) (t : Nat → Int32) (n : Nat → Int32) (c : Nat) (m : Int32) (hc : c < 4) : mR l yX7_worthOf wsX7_worthOf ({ frames := 0, cells := 0, slots := 0, locals := 0 }) G (sW G s0 s1 s2 s3 s4 b0 b1 b2 b3 t n) [.ref s0, .int (nI c), .int m] (wrG m (t (17 + c))) := by
  refine mR.of (cc := cX7_worthOf) (maxL := 3) (ret := (some .int)) (by decide) rfl (Nat.le_of_ble_eq_true rfl) ?_
  intro zp ze zs zm zb zt zc ls C hP hK hl
  obtain ⟨hx, hb, hr, hml, hown, hts, hlk⟩ := id C
  have hl : lv_has ls 3 [(0, .ref s0), (1, .int (nI c)), (2, .int m)] := hl
  have k0 := hts (.fieldLink RX7 24 "DebtDowry$State" "terms" "LDebtDowry$Terms;") (by decide +kernel)
  have k1 := (fun w h => by revert w; decide +kernel : ∀ w ∈ wsX70, w ∈ wsX7_worthOf)
  have k2 := hts (.fieldLink RX7 86 "DebtDowry$Terms" "great" "[I") (by decide +kernel)
  have k3 := (fun w h => by revert w; decide +kernel : ∀ w ∈ wsX80, w ∈ wsX7_worthOf)
  refine lv_iload_n hx hb dX7_worthOf_0 rfl (lv_at hl 2 rfl) ?_
  refine lv_iconst (v := 1) hx hb dX7_worthOf_1 (by decide) ?_
  refine lv_icmp_ne (tgt := 17) hx hb dX7_worthOf_2 (by decide) (fun cq1 => ?_) (fun cq1 => ?_)
  · skip
    refine lv_iload_n hx hb dX7_worthOf_17 rfl (lv_at hl 2 rfl) ?_
    refine lv_iconst (v := 2) hx hb dX7_worthOf_18 (by decide) ?_
    refine lv_icmp_ne (tgt := 26) hx hb dX7_worthOf_19 (by decide) (fun cq2 => ?_) (fun cq2 => ?_)
    · skip
      refine lv_iconst (v := 0) hx hb dX7_worthOf_26 (by decide) ?_
      exact mR_iret C dX7_worthOf_27 (by simp [wrG, cq1, cq2])
    · skip
      refine lv_iconst (v := (-1)) hx hb dX7_worthOf_22 (by decide) ?_
      refine lv_goto (tgt := 27) hx hb dX7_worthOf_23 (by decide) ?_
      exact mR_iret C dX7_worthOf_27 (by simp [wrG, cq1, cq2])
  · skip
    refine lv_aload_n hx hb dX7_worthOf_5 rfl (lv_at hl 0 rfl) ?_
    refine va_get (D := G.1) (ci := 7) (v := .ref b0) (C := RX7) (T := TX7) (N := 7) hx hb hts k1 hown hK hP 0 rfl rfl 0 (by decide) k0 (fun _ h9 => h9) rfl dX7_worthOf_6 ?_
    refine va_get (D := G.1) (ci := 8) (v := .ref b3) (C := RX8) (T := TX8) (N := 9) hx hb hts k3 hown hK hP 5 rfl rfl 8 (by decide) k2 (fun _ h9 => h9) rfl dX7_worthOf_9 ?_
    refine lv_iload_n hx hb dX7_worthOf_12 rfl (lv_at hl 1 rfl) ?_
    refine n_iald hx hb hK hP 8 0 rfl rfl (j := c) rfl (by omega) (by decide) dX7_worthOf_13 ?_
    refine lv_goto (tgt := 27) hx hb dX7_worthOf_14 (by decide) ?_
    exact mR_iret C dX7_worthOf_27 (by simp [wrG, cq1])
theorem hd_X7_standingOf : yX7_standingOf.cls = RX7 ∧ yX7_standingOf.cls ≠ "java/lang/invoke/MethodHandle" ∧ yX7_standingOf.cls ≠ "java/lang/invoke/VarHandle" ∧ (parseMethodDescriptor yX7_standingOf.desc).map (fun d => d.parameters.length) = some 1 := by decide +kernel
set_option maxRecDepth 100000 in
set_option maxHeartbeats 4000000 in
theorem c_X7_standingOf (l : Launch) (G : gG) (s0 : Nat) (s1 : Nat) (s2 : Nat) (s3 : Nat) (s4 : Nat) (b0 : Nat) (b1 : Nat) (b2 : Nat) (b3 : Nat) (t : Nat → Int32) (n : Nat → Int32) (nc : Nat) (np : Nat) (p : Nat) (hT : tw t nc np) (hp : p < 8) : mR l yX7_standingOf wsX7_standingOf ({ frames := 3, cells := 0, slots := 0, locals := 66 }) G (sW G s0 s1 s2 s3 s4 b0 b1 b2 b3 t n) [.ref s0, .int (nI p)] (stU t n p nc) := by
  refine mR.of (cc := cX7_standingOf) (maxL := 4) (ret := (some .int)) (by decide) rfl (Nat.le_of_ble_eq_true rfl) ?_
  intro zp ze zs zm zb zt zc ls C hP hK hl
  obtain ⟨hx, hb, hr, hml, hown, hts, hlk⟩ := id C
  have hl : lv_has ls 4 [(0, .ref s0), (1, .int (nI p))] := hl
  have hT2 := hT.2.2
  have k0 := hts (.fieldLink RX7 24 "DebtDowry$State" "terms" "LDebtDowry$Terms;") (by decide +kernel)
  have k1 := (fun w h => by revert w; decide +kernel : ∀ w ∈ wsX70, w ∈ wsX7_standingOf)
  have k2 := hts (.fieldLink RX7 47 "DebtDowry$Terms" "creditors" "I") (by decide +kernel)
  have k3 := (fun w h => by revert w; decide +kernel : ∀ w ∈ wsX80, w ∈ wsX7_standingOf)
  refine lv_iconst (v := 0) hx hb dX7_standingOf_0 (by decide) ?_
  refine lv_istore_n (lv' := [(2, .int 0), (0, .ref s0), (1, .int (nI p))]) hx hb dX7_standingOf_1 rfl hl (by decide) rfl (fun ls hl => ?_)
  refine lv_iconst (v := 0) hx hb dX7_standingOf_2 (by decide) ?_
  refine lv_istore_n (lv' := [(3, .int 0), (2, .int 0), (0, .ref s0), (1, .int (nI p))]) hx hb dX7_standingOf_3 rfl hl (by decide) rfl (fun ls hl => ?_)
  refine wl_R (B := nc) (i0 := 0) (Inv := fun i1 ls => lv_has ls 4 [(0, .ref s0), (1, .int (nI p)), (2, .int (stU t n p i1)), (3, .int (nI i1))] ∧ True) (by omega) ⟨lv_sub hl [2, 3, 1, 0] (rfl), trivial⟩ ?_
  rintro i1 ls hle4 ⟨hl, -⟩ ih4
  refine lv_iload_n hx hb dX7_standingOf_4 rfl (lv_at hl 3 rfl) ?_
  refine lv_aload_n hx hb dX7_standingOf_5 rfl (lv_at hl 0 rfl) ?_
  refine va_get (D := G.1) (ci := 7) (v := .ref b0) (C := RX7) (T := TX7) (N := 7) hx hb hts k1 hown hK hP 0 rfl rfl 0 (by decide) k0 (fun _ h9 => h9) rfl dX7_standingOf_6 ?_
  refine va_get (D := G.1) (ci := 8) (v := .int (t 3)) (C := RX8) (T := TX8) (N := 9) hx hb hts k3 hown hK hP 5 rfl rfl 3 (by decide) k2 (fun _ h9 => h9) rfl dX7_standingOf_9 ?_
  refine n_icmp_ge (tgt := 35) hx hb dX7_standingOf_12 (by decide) (u := i1) (v := nc) rfl hT.1 (by omega) (by omega) (fun cq1 => ?_) (fun cq1 => ?_)
  · skip
    obtain rfl : nc = i1 := by omega
    refine lv_iload_n hx hb dX7_standingOf_35 rfl (lv_at hl 2 rfl) ?_
    exact mR_iret C dX7_standingOf_36 (rfl)
  · skip
    refine lv_iload_n hx hb dX7_standingOf_15 rfl (lv_at hl 2 rfl) ?_
    refine lv_aload_n hx hb dX7_standingOf_16 rfl (lv_at hl 0 rfl) ?_
    refine lv_iload_n hx hb dX7_standingOf_17 rfl (lv_at hl 3 rfl) ?_
    refine lv_aload_n hx hb dX7_standingOf_18 rfl (lv_at hl 0 rfl) ?_
    refine lv_iload_n hx hb dX7_standingOf_19 rfl (lv_at hl 1 rfl) ?_
    refine lv_iload_n hx hb dX7_standingOf_20 rfl (lv_at hl 3 rfl) ?_
    refine cR_V (Cn := RX7) (n := 2) (As := [.int (nI p), .int (nI i1)]) (rest := [.int (nI i1), .ref s0, .int (stU t n p i1)]) C (c_X7_moodTo l G s0 s1 s2 s3 s4 b0 b1 b2 b3 t n  p i1 (by omega) (by omega)) gX7_standingOf_X7_moodTo rfl ⟨rfl, rfl⟩ hd_X7_moodTo ⟨(Nat.le_of_ble_eq_true rfl), (Nat.le_of_ble_eq_true rfl)⟩ hK hP (va_recv hK hP (ci := 7) (q0 := 0) rfl rfl) rfl hl.1 rfl (Nat.le_of_ble_eq_true rfl) dX7_standingOf_21 ⟨(Nat.le_of_ble_eq_true rfl), (Nat.le_of_ble_eq_true rfl)⟩ ?_
    refine cR_V (Cn := RX7) (n := 2) (As := [.int (nI i1), .int (tm t n p i1)]) (rest := [.int (stU t n p i1)]) C (c_X7_worthOf l G s0 s1 s2 s3 s4 b0 b1 b2 b3 t n  i1 (tm t n p i1) (by omega)) gX7_standingOf_X7_worthOf rfl ⟨rfl, rfl⟩ hd_X7_worthOf ⟨(Nat.le_of_ble_eq_true rfl), (Nat.le_of_ble_eq_true rfl)⟩ hK hP (va_recv hK hP (ci := 7) (q0 := 0) rfl rfl) rfl hl.1 rfl (Nat.le_of_ble_eq_true rfl) dX7_standingOf_24 ⟨(Nat.le_of_ble_eq_true rfl), (Nat.le_of_ble_eq_true rfl)⟩ ?_
    refine lv_iadd hx hb dX7_standingOf_27 ?_
    refine lv_istore_n (lv' := [(2, .int ((stU t n p i1) + (wrG (tm t n p i1) (t (17 + i1))))), (0, .ref s0), (1, .int (nI p)), (3, .int (nI i1))]) hx hb dX7_standingOf_28 rfl hl (by decide) rfl (fun ls hl => ?_)
    refine lv_iinc (v := nI (i1 + 1)) (lv' := [(3, .int (nI (i1 + 1))), (2, .int ((stU t n p i1) + (wrG (tm t n p i1) (t (17 + i1))))), (0, .ref s0), (1, .int (nI p))]) hx hb dX7_standingOf_29 hl (k := 3) rfl (by rw [show (nI i1 : Int32) = nI i1 from rfl]; exact nI_add _ 1) (by decide) rfl (fun ls hl => ?_)
    refine lv_goto (tgt := 4) hx hb dX7_standingOf_32 (by decide) ?_
    exact ih4 _ (by omega) ⟨lv_sub hl [2, 3, 1, 0] (rfl), trivial⟩
theorem hd_X7_standingJoined : yX7_standingJoined.cls = RX7 ∧ yX7_standingJoined.cls ≠ "java/lang/invoke/MethodHandle" ∧ yX7_standingJoined.cls ≠ "java/lang/invoke/VarHandle" ∧ (parseMethodDescriptor yX7_standingJoined.desc).map (fun d => d.parameters.length) = some 2 := by decide +kernel
set_option maxRecDepth 100000 in
set_option maxHeartbeats 4000000 in
theorem c_X7_standingJoined (l : Launch) (G : gG) (s0 : Nat) (s1 : Nat) (s2 : Nat) (s3 : Nat) (s4 : Nat) (b0 : Nat) (b1 : Nat) (b2 : Nat) (b3 : Nat) (t : Nat → Int32) (n : Nat → Int32) (nc : Nat) (np : Nat) (g : Nat) (m : Nat) (hT : tw t nc np) (hg : g < 8) (hm : m < 8) (hne : g ≠ m) : mR l yX7_standingJoined wsX7_standingJoined ({ frames := 2, cells := 0, slots := 0, locals := 44 }) G (sW G s0 s1 s2 s3 s4 b0 b1 b2 b3 t n) [.ref s0, .int (nI g), .int (nI m)] (jnV t n nc g m) := by
  refine mR.of (cc := cX7_standingJoined) (maxL := 7) (ret := (some .int)) (by decide) rfl (Nat.le_of_ble_eq_true rfl) ?_
  intro zp ze zs zm zb zt zc ls C hP hK hl
  obtain ⟨hx, hb, hr, hml, hown, hts, hlk⟩ := id C
  have hl : lv_has ls 7 [(0, .ref s0), (1, .int (nI g)), (2, .int (nI m))] := hl
  have hT2 := hT.2.2
  have k0 := hts (.fieldLink RX7 24 "DebtDowry$State" "terms" "LDebtDowry$Terms;") (by decide +kernel)
  have k1 := (fun w h => by revert w; decide +kernel : ∀ w ∈ wsX70, w ∈ wsX7_standingJoined)
  have k2 := hts (.fieldLink RX7 47 "DebtDowry$Terms" "creditors" "I") (by decide +kernel)
  have k3 := (fun w h => by revert w; decide +kernel : ∀ w ∈ wsX80, w ∈ wsX7_standingJoined)
  have k4 := hts (.methodLink RX7 41 Lib.Math.min.name) (by decide +kernel)
  have k5 := hts (.static Lib.Math.min.name) (by decide +kernel)
  have k6 := hts (.initialized "java/lang/Math") (by decide +kernel)
  have k7 := hts (.code Lib.Math.min.name Lib.Math.min.code 2 (some .int)) (by decide +kernel)
  refine lv_iconst (v := 0) hx hb dX7_standingJoined_0 (by decide) ?_
  refine lv_istore_n (lv' := [(3, .int 0), (0, .ref s0), (1, .int (nI g)), (2, .int (nI m))]) hx hb dX7_standingJoined_1 rfl hl (by decide) rfl (fun ls hl => ?_)
  refine lv_iconst (v := 0) hx hb dX7_standingJoined_2 (by decide) ?_
  refine lv_istore (lv' := [(4, .int 0), (3, .int 0), (0, .ref s0), (1, .int (nI g)), (2, .int (nI m))]) hx hb dX7_standingJoined_3 hl (by decide) rfl (fun ls hl => ?_)
  refine wl_R (B := nc) (i0 := 0) (Inv := fun i1 ls => lv_has ls 7 [(0, .ref s0), (1, .int (nI g)), (2, .int (nI m)), (3, .int (sumU (jnW t n g m) i1)), (4, .int (nI i1))] ∧ True) (by omega) ⟨lv_sub hl [2, 3, 4, 1, 0] (rfl), trivial⟩ ?_
  rintro i1 ls hle5 ⟨hl, -⟩ ih5
  refine lv_iload hx hb dX7_standingJoined_5 (lv_at hl 4 rfl) ?_
  refine lv_aload_n hx hb dX7_standingJoined_7 rfl (lv_at hl 0 rfl) ?_
  refine va_get (D := G.1) (ci := 7) (v := .ref b0) (C := RX7) (T := TX7) (N := 7) hx hb hts k1 hown hK hP 0 rfl rfl 0 (by decide) k0 (fun _ h9 => h9) rfl dX7_standingJoined_8 ?_
  refine va_get (D := G.1) (ci := 8) (v := .int (t 3)) (C := RX8) (T := TX8) (N := 9) hx hb hts k3 hown hK hP 5 rfl rfl 3 (by decide) k2 (fun _ h9 => h9) rfl dX7_standingJoined_11 ?_
  refine n_icmp_ge (tgt := 92) hx hb dX7_standingJoined_14 (by decide) (u := i1) (v := nc) rfl hT.1 (by omega) (by omega) (fun cq1 => ?_) (fun cq1 => ?_)
  · skip
    obtain rfl : nc = i1 := by omega
    refine lv_iload_n hx hb dX7_standingJoined_92 rfl (lv_at hl 3 rfl) ?_
    exact mR_iret C dX7_standingJoined_93 (jnV_eq hg hm hne hT2.1)
  · skip
    refine lv_aload_n hx hb dX7_standingJoined_17 rfl (lv_at hl 0 rfl) ?_
    refine lv_iload_n hx hb dX7_standingJoined_18 rfl (lv_at hl 1 rfl) ?_
    refine lv_iload hx hb dX7_standingJoined_19 (lv_at hl 4 rfl) ?_
    refine cR_V (Cn := RX7) (n := 2) (As := [.int (nI g), .int (nI i1)]) (rest := []) C (c_X7_hasInsulted l G s0 s1 s2 s3 s4 b0 b1 b2 b3 t n  g i1 (by omega)) gX7_standingJoined_X7_hasInsulted rfl ⟨rfl, rfl⟩ hd_X7_hasInsulted ⟨(Nat.le_of_ble_eq_true rfl), (Nat.le_of_ble_eq_true rfl)⟩ hK hP (va_recv hK hP (ci := 7) (q0 := 0) rfl rfl) rfl hl.1 rfl (Nat.le_of_ble_eq_true rfl) dX7_standingJoined_21 ⟨(Nat.le_of_ble_eq_true rfl), (Nat.le_of_ble_eq_true rfl)⟩ ?_
    refine b_if_ne (tgt := 37) hx hb dX7_standingJoined_24 (by decide) (fun cq2 => ?_) (fun cq2 => ?_)
    · skip
      refine lv_iconst (v := 1) hx hb dX7_standingJoined_37 (by decide) ?_
      refine lv_goto (tgt := 42) hx hb dX7_standingJoined_38 (by decide) ?_
      refine lv_istore (lv' := [(5, .int 1), (0, .ref s0), (1, .int (nI g)), (2, .int (nI m)), (3, .int (sumU (jnW t n g m) i1)), (4, .int (nI i1))]) hx hb dX7_standingJoined_42 hl (by decide) rfl (fun ls hl => ?_)
      refine lv_sipush (v := 9999) hx hb dX7_standingJoined_44 (by decide) ?_
      refine lv_aload_n hx hb dX7_standingJoined_47 rfl (lv_at hl 1 rfl) ?_
      refine lv_iload_n hx hb dX7_standingJoined_48 rfl (lv_at hl 2 rfl) ?_
      refine lv_iload hx hb dX7_standingJoined_49 (lv_at hl 5 rfl) ?_
      refine cR_V (Cn := RX7) (n := 2) (As := [.int (nI g), .int (nI i1)]) (rest := [.int 9999]) C (c_X7_owedTo l G s0 s1 s2 s3 s4 b0 b1 b2 b3 t n  g i1 (by omega) (by omega)) gX7_standingJoined_X7_owedTo rfl ⟨rfl, rfl⟩ hd_X7_owedTo ⟨(Nat.le_of_ble_eq_true rfl), (Nat.le_of_ble_eq_true rfl)⟩ hK hP (va_recv hK hP (ci := 7) (q0 := 0) rfl rfl) rfl hl.1 rfl (Nat.le_of_ble_eq_true rfl) dX7_standingJoined_51 ⟨(Nat.le_of_ble_eq_true rfl), (Nat.le_of_ble_eq_true rfl)⟩ ?_
      refine lv_aload_n hx hb dX7_standingJoined_54 rfl (lv_at hl 1 rfl) ?_
      refine lv_iload_n hx hb dX7_standingJoined_55 rfl (lv_at hl 3 rfl) ?_
      refine lv_iload hx hb dX7_standingJoined_56 (lv_at hl 5 rfl) ?_
      refine cR_V (Cn := RX7) (n := 2) (As := [.int (nI m), .int (nI i1)]) (rest := [.int (n (4 * g + i1)), .int 9999]) C (c_X7_owedTo l G s0 s1 s2 s3 s4 b0 b1 b2 b3 t n  m i1 (by omega) (by omega)) gX7_standingJoined_X7_owedTo rfl ⟨rfl, rfl⟩ hd_X7_owedTo ⟨(Nat.le_of_ble_eq_true rfl), (Nat.le_of_ble_eq_true rfl)⟩ hK hP (va_recv hK hP (ci := 7) (q0 := 0) rfl rfl) rfl hl.1 rfl (Nat.le_of_ble_eq_true rfl) dX7_standingJoined_58 ⟨(Nat.le_of_ble_eq_true rfl), (Nat.le_of_ble_eq_true rfl)⟩ ?_
      refine lv_iadd hx hb dX7_standingJoined_61 ?_
      refine va_mmin hx hb (hml.trans hl.1.symm) hown k4 k5 k6 k7 (Nat.le_of_ble_eq_true rfl) (Nat.le_of_ble_eq_true rfl) (Nat.le_of_ble_eq_true rfl) (Nat.le_of_ble_eq_true rfl) dX7_standingJoined_62 ?_
      refine lv_istore (lv' := [(6, .int (if ((n (4 * g + i1)) + (n (4 * m + i1))) < 9999 then ((n (4 * g + i1)) + (n (4 * m + i1))) else 9999)), (5, .int 1), (0, .ref s0), (1, .int (nI g)), (2, .int (nI m)), (3, .int (sumU (jnW t n g m) i1)), (4, .int (nI i1))]) hx hb dX7_standingJoined_65 hl (by decide) rfl (fun ls hl => ?_)
      refine lv_iload_n hx hb dX7_standingJoined_67 rfl (lv_at hl 5 rfl) ?_
      refine lv_aload_n hx hb dX7_standingJoined_68 rfl (lv_at hl 2 rfl) ?_
      refine lv_iload hx hb dX7_standingJoined_69 (lv_at hl 6 rfl) ?_
      refine lv_aload_n hx hb dX7_standingJoined_71 rfl (lv_at hl 2 rfl) ?_
      refine lv_iload hx hb dX7_standingJoined_72 (lv_at hl 6 rfl) ?_
      refine lv_iload hx hb dX7_standingJoined_74 (lv_at hl 0 rfl) ?_
      refine lv_iload hx hb dX7_standingJoined_76 (lv_at hl 1 rfl) ?_
      refine cR_V (Cn := RX7) (n := 3) (As := [.int (nI i1), .int (if ((n (4 * g + i1)) + (n (4 * m + i1))) < 9999 then ((n (4 * g + i1)) + (n (4 * m + i1))) else 9999), .int (bI True)]) (rest := [.int (nI i1), .ref s0, .int (sumU (jnW t n g m) i1)]) C (c_X7_moodBy l G s0 s1 s2 s3 s4 b0 b1 b2 b3 t n  i1 (if ((n (4 * g + i1)) + (n (4 * m + i1))) < 9999 then ((n (4 * g + i1)) + (n (4 * m + i1))) else 9999) True (by omega)) gX7_standingJoined_X7_moodBy rfl ⟨rfl, rfl⟩ hd_X7_moodBy ⟨(Nat.le_of_ble_eq_true rfl), (Nat.le_of_ble_eq_true rfl)⟩ hK hP (va_recv hK hP (ci := 7) (q0 := 0) rfl rfl) rfl hl.1 rfl (Nat.le_of_ble_eq_true rfl) dX7_standingJoined_78 ⟨(Nat.le_of_ble_eq_true rfl), (Nat.le_of_ble_eq_true rfl)⟩ ?_
      refine cR_V (Cn := RX7) (n := 2) (As := [.int (nI i1), .int (mdG (n 52) True (if ((n (4 * g + i1)) + (n (4 * m + i1))) < 9999 then ((n (4 * g + i1)) + (n (4 * m + i1))) else 9999) (t (9 + i1)) (t (13 + i1)) i1)]) (rest := [.int (sumU (jnW t n g m) i1)]) C (c_X7_worthOf l G s0 s1 s2 s3 s4 b0 b1 b2 b3 t n  i1 (mdG (n 52) True (if ((n (4 * g + i1)) + (n (4 * m + i1))) < 9999 then ((n (4 * g + i1)) + (n (4 * m + i1))) else 9999) (t (9 + i1)) (t (13 + i1)) i1) (by omega)) gX7_standingJoined_X7_worthOf rfl ⟨rfl, rfl⟩ hd_X7_worthOf ⟨(Nat.le_of_ble_eq_true rfl), (Nat.le_of_ble_eq_true rfl)⟩ hK hP (va_recv hK hP (ci := 7) (q0 := 0) rfl rfl) rfl hl.1 rfl (Nat.le_of_ble_eq_true rfl) dX7_standingJoined_81 ⟨(Nat.le_of_ble_eq_true rfl), (Nat.le_of_ble_eq_true rfl)⟩ ?_
      refine lv_iadd hx hb dX7_standingJoined_84 ?_
      refine lv_istore_n (lv' := [(3, .int ((sumU (jnW t n g m) i1) + (wrG (mdG (n 52) True (if ((n (4 * g + i1)) + (n (4 * m + i1))) < 9999 then ((n (4 * g + i1)) + (n (4 * m + i1))) else 9999) (t (9 + i1)) (t (13 + i1)) i1) (t (17 + i1))))), (6, .int (if ((n (4 * g + i1)) + (n (4 * m + i1))) < 9999 then ((n (4 * g + i1)) + (n (4 * m + i1))) else 9999)), (5, .int 1), (0, .ref s0), (1, .int (nI g)), (2, .int (nI m)), (4, .int (nI i1))]) hx hb dX7_standingJoined_85 rfl hl (by decide) rfl (fun ls hl => ?_)
      refine lv_iinc (v := nI (i1 + 1)) (lv' := [(4, .int (nI (i1 + 1))), (3, .int ((sumU (jnW t n g m) i1) + (wrG (mdG (n 52) True (if ((n (4 * g + i1)) + (n (4 * m + i1))) < 9999 then ((n (4 * g + i1)) + (n (4 * m + i1))) else 9999) (t (9 + i1)) (t (13 + i1)) i1) (t (17 + i1))))), (6, .int (if ((n (4 * g + i1)) + (n (4 * m + i1))) < 9999 then ((n (4 * g + i1)) + (n (4 * m + i1))) else 9999)), (5, .int 1), (0, .ref s0), (1, .int (nI g)), (2, .int (nI m))]) hx hb dX7_standingJoined_86 hl (k := 6) rfl (by rw [show (nI i1 : Int32) = nI i1 from rfl]; exact nI_add _ 1) (by decide) rfl (fun ls hl => ?_)
      refine lv_goto (tgt := 5) hx hb dX7_standingJoined_89 (by decide) ?_
      have e3 : (sumU (jnW t n g m) i1) + (wrG (mdG (n 52) True (if ((n (4 * g + i1)) + (n (4 * m + i1))) < 9999 then ((n (4 * g + i1)) + (n (4 * m + i1))) else 9999) (t (9 + i1)) (t (13 + i1)) i1) (t (17 + i1))) = sumU (jnW t n g m) (i1 + 1) := by show _ + wrG (mdG _ _ _ _ _ _) _ = sumU _ _ + wrG (mdG _ _ _ _ _ _) _; rw [mdG_b (b' := hasB (n (36 + g)) i1 ∨ hasB (n (36 + m)) i1) (by first | exact iff_of_true trivial (Or.inl (by assumption)) | exact iff_of_true trivial (Or.inr (by assumption)) | exact iff_of_false id (fun q => q.elim (by assumption) (by assumption)))]; rfl
      exact ih5 _ (by omega) ⟨lv_sub hl [4, 5, 6, 1, 0] (by rw [← e3]; rfl), trivial⟩
    · skip
      refine lv_aload_n hx hb dX7_standingJoined_27 rfl (lv_at hl 0 rfl) ?_
      refine lv_iload_n hx hb dX7_standingJoined_28 rfl (lv_at hl 2 rfl) ?_
      refine lv_iload hx hb dX7_standingJoined_29 (lv_at hl 4 rfl) ?_
      refine cR_V (Cn := RX7) (n := 2) (As := [.int (nI m), .int (nI i1)]) (rest := []) C (c_X7_hasInsulted l G s0 s1 s2 s3 s4 b0 b1 b2 b3 t n  m i1 (by omega)) gX7_standingJoined_X7_hasInsulted rfl ⟨rfl, rfl⟩ hd_X7_hasInsulted ⟨(Nat.le_of_ble_eq_true rfl), (Nat.le_of_ble_eq_true rfl)⟩ hK hP (va_recv hK hP (ci := 7) (q0 := 0) rfl rfl) rfl hl.1 rfl (Nat.le_of_ble_eq_true rfl) dX7_standingJoined_31 ⟨(Nat.le_of_ble_eq_true rfl), (Nat.le_of_ble_eq_true rfl)⟩ ?_
      refine b_if_eq (tgt := 41) hx hb dX7_standingJoined_34 (by decide) (fun cq4 => ?_) (fun cq4 => ?_)
      · skip
        refine lv_iconst (v := 0) hx hb dX7_standingJoined_41 (by decide) ?_
        refine lv_istore (lv' := [(5, .int 0), (0, .ref s0), (1, .int (nI g)), (2, .int (nI m)), (3, .int (sumU (jnW t n g m) i1)), (4, .int (nI i1))]) hx hb dX7_standingJoined_42 hl (by decide) rfl (fun ls hl => ?_)
        refine lv_sipush (v := 9999) hx hb dX7_standingJoined_44 (by decide) ?_
        refine lv_aload_n hx hb dX7_standingJoined_47 rfl (lv_at hl 1 rfl) ?_
        refine lv_iload_n hx hb dX7_standingJoined_48 rfl (lv_at hl 2 rfl) ?_
        refine lv_iload hx hb dX7_standingJoined_49 (lv_at hl 5 rfl) ?_
        refine cR_V (Cn := RX7) (n := 2) (As := [.int (nI g), .int (nI i1)]) (rest := [.int 9999]) C (c_X7_owedTo l G s0 s1 s2 s3 s4 b0 b1 b2 b3 t n  g i1 (by omega) (by omega)) gX7_standingJoined_X7_owedTo rfl ⟨rfl, rfl⟩ hd_X7_owedTo ⟨(Nat.le_of_ble_eq_true rfl), (Nat.le_of_ble_eq_true rfl)⟩ hK hP (va_recv hK hP (ci := 7) (q0 := 0) rfl rfl) rfl hl.1 rfl (Nat.le_of_ble_eq_true rfl) dX7_standingJoined_51 ⟨(Nat.le_of_ble_eq_true rfl), (Nat.le_of_ble_eq_true rfl)⟩ ?_
        refine lv_aload_n hx hb dX7_standingJoined_54 rfl (lv_at hl 1 rfl) ?_
        refine lv_iload_n hx hb dX7_standingJoined_55 rfl (lv_at hl 3 rfl) ?_
        refine lv_iload hx hb dX7_standingJoined_56 (lv_at hl 5 rfl) ?_
        refine cR_V (Cn := RX7) (n := 2) (As := [.int (nI m), .int (nI i1)]) (rest := [.int (n (4 * g + i1)), .int 9999]) C (c_X7_owedTo l G s0 s1 s2 s3 s4 b0 b1 b2 b3 t n  m i1 (by omega) (by omega)) gX7_standingJoined_X7_owedTo rfl ⟨rfl, rfl⟩ hd_X7_owedTo ⟨(Nat.le_of_ble_eq_true rfl), (Nat.le_of_ble_eq_true rfl)⟩ hK hP (va_recv hK hP (ci := 7) (q0 := 0) rfl rfl) rfl hl.1 rfl (Nat.le_of_ble_eq_true rfl) dX7_standingJoined_58 ⟨(Nat.le_of_ble_eq_true rfl), (Nat.le_of_ble_eq_true rfl)⟩ ?_
        refine lv_iadd hx hb dX7_standingJoined_61 ?_
        refine va_mmin hx hb (hml.trans hl.1.symm) hown k4 k5 k6 k7 (Nat.le_of_ble_eq_true rfl) (Nat.le_of_ble_eq_true rfl) (Nat.le_of_ble_eq_true rfl) (Nat.le_of_ble_eq_true rfl) dX7_standingJoined_62 ?_
        refine lv_istore (lv' := [(6, .int (if ((n (4 * g + i1)) + (n (4 * m + i1))) < 9999 then ((n (4 * g + i1)) + (n (4 * m + i1))) else 9999)), (5, .int 0), (0, .ref s0), (1, .int (nI g)), (2, .int (nI m)), (3, .int (sumU (jnW t n g m) i1)), (4, .int (nI i1))]) hx hb dX7_standingJoined_65 hl (by decide) rfl (fun ls hl => ?_)
        refine lv_iload_n hx hb dX7_standingJoined_67 rfl (lv_at hl 5 rfl) ?_
        refine lv_aload_n hx hb dX7_standingJoined_68 rfl (lv_at hl 2 rfl) ?_
        refine lv_iload hx hb dX7_standingJoined_69 (lv_at hl 6 rfl) ?_
        refine lv_aload_n hx hb dX7_standingJoined_71 rfl (lv_at hl 2 rfl) ?_
        refine lv_iload hx hb dX7_standingJoined_72 (lv_at hl 6 rfl) ?_
        refine lv_iload hx hb dX7_standingJoined_74 (lv_at hl 0 rfl) ?_
        refine lv_iload hx hb dX7_standingJoined_76 (lv_at hl 1 rfl) ?_
        refine cR_V (Cn := RX7) (n := 3) (As := [.int (nI i1), .int (if ((n (4 * g + i1)) + (n (4 * m + i1))) < 9999 then ((n (4 * g + i1)) + (n (4 * m + i1))) else 9999), .int (bI False)]) (rest := [.int (nI i1), .ref s0, .int (sumU (jnW t n g m) i1)]) C (c_X7_moodBy l G s0 s1 s2 s3 s4 b0 b1 b2 b3 t n  i1 (if ((n (4 * g + i1)) + (n (4 * m + i1))) < 9999 then ((n (4 * g + i1)) + (n (4 * m + i1))) else 9999) False (by omega)) gX7_standingJoined_X7_moodBy rfl ⟨rfl, rfl⟩ hd_X7_moodBy ⟨(Nat.le_of_ble_eq_true rfl), (Nat.le_of_ble_eq_true rfl)⟩ hK hP (va_recv hK hP (ci := 7) (q0 := 0) rfl rfl) rfl hl.1 rfl (Nat.le_of_ble_eq_true rfl) dX7_standingJoined_78 ⟨(Nat.le_of_ble_eq_true rfl), (Nat.le_of_ble_eq_true rfl)⟩ ?_
        refine cR_V (Cn := RX7) (n := 2) (As := [.int (nI i1), .int (mdG (n 52) False (if ((n (4 * g + i1)) + (n (4 * m + i1))) < 9999 then ((n (4 * g + i1)) + (n (4 * m + i1))) else 9999) (t (9 + i1)) (t (13 + i1)) i1)]) (rest := [.int (sumU (jnW t n g m) i1)]) C (c_X7_worthOf l G s0 s1 s2 s3 s4 b0 b1 b2 b3 t n  i1 (mdG (n 52) False (if ((n (4 * g + i1)) + (n (4 * m + i1))) < 9999 then ((n (4 * g + i1)) + (n (4 * m + i1))) else 9999) (t (9 + i1)) (t (13 + i1)) i1) (by omega)) gX7_standingJoined_X7_worthOf rfl ⟨rfl, rfl⟩ hd_X7_worthOf ⟨(Nat.le_of_ble_eq_true rfl), (Nat.le_of_ble_eq_true rfl)⟩ hK hP (va_recv hK hP (ci := 7) (q0 := 0) rfl rfl) rfl hl.1 rfl (Nat.le_of_ble_eq_true rfl) dX7_standingJoined_81 ⟨(Nat.le_of_ble_eq_true rfl), (Nat.le_of_ble_eq_true rfl)⟩ ?_
        refine lv_iadd hx hb dX7_standingJoined_84 ?_
        refine lv_istore_n (lv' := [(3, .int ((sumU (jnW t n g m) i1) + (wrG (mdG (n 52) False (if ((n (4 * g + i1)) + (n (4 * m + i1))) < 9999 then ((n (4 * g + i1)) + (n (4 * m + i1))) else 9999) (t (9 + i1)) (t (13 + i1)) i1) (t (17 + i1))))), (6, .int (if ((n (4 * g + i1)) + (n (4 * m + i1))) < 9999 then ((n (4 * g + i1)) + (n (4 * m + i1))) else 9999)), (5, .int 0), (0, .ref s0), (1, .int (nI g)), (2, .int (nI m)), (4, .int (nI i1))]) hx hb dX7_standingJoined_85 rfl hl (by decide) rfl (fun ls hl => ?_)
        refine lv_iinc (v := nI (i1 + 1)) (lv' := [(4, .int (nI (i1 + 1))), (3, .int ((sumU (jnW t n g m) i1) + (wrG (mdG (n 52) False (if ((n (4 * g + i1)) + (n (4 * m + i1))) < 9999 then ((n (4 * g + i1)) + (n (4 * m + i1))) else 9999) (t (9 + i1)) (t (13 + i1)) i1) (t (17 + i1))))), (6, .int (if ((n (4 * g + i1)) + (n (4 * m + i1))) < 9999 then ((n (4 * g + i1)) + (n (4 * m + i1))) else 9999)), (5, .int 0), (0, .ref s0), (1, .int (nI g)), (2, .int (nI m))]) hx hb dX7_standingJoined_86 hl (k := 6) rfl (by rw [show (nI i1 : Int32) = nI i1 from rfl]; exact nI_add _ 1) (by decide) rfl (fun ls hl => ?_)
        refine lv_goto (tgt := 5) hx hb dX7_standingJoined_89 (by decide) ?_
        have e5 : (sumU (jnW t n g m) i1) + (wrG (mdG (n 52) False (if ((n (4 * g + i1)) + (n (4 * m + i1))) < 9999 then ((n (4 * g + i1)) + (n (4 * m + i1))) else 9999) (t (9 + i1)) (t (13 + i1)) i1) (t (17 + i1))) = sumU (jnW t n g m) (i1 + 1) := by show _ + wrG (mdG _ _ _ _ _ _) _ = sumU _ _ + wrG (mdG _ _ _ _ _ _) _; rw [mdG_b (b' := hasB (n (36 + g)) i1 ∨ hasB (n (36 + m)) i1) (by first | exact iff_of_true trivial (Or.inl (by assumption)) | exact iff_of_true trivial (Or.inr (by assumption)) | exact iff_of_false id (fun q => q.elim (by assumption) (by assumption)))]; rfl
        exact ih5 _ (by omega) ⟨lv_sub hl [4, 5, 6, 1, 0] (by rw [← e5]; rfl), trivial⟩
      · skip
        refine lv_iconst (v := 1) hx hb dX7_standingJoined_37 (by decide) ?_
        refine lv_goto (tgt := 42) hx hb dX7_standingJoined_38 (by decide) ?_
        refine lv_istore (lv' := [(5, .int 1), (0, .ref s0), (1, .int (nI g)), (2, .int (nI m)), (3, .int (sumU (jnW t n g m) i1)), (4, .int (nI i1))]) hx hb dX7_standingJoined_42 hl (by decide) rfl (fun ls hl => ?_)
        refine lv_sipush (v := 9999) hx hb dX7_standingJoined_44 (by decide) ?_
        refine lv_aload_n hx hb dX7_standingJoined_47 rfl (lv_at hl 1 rfl) ?_
        refine lv_iload_n hx hb dX7_standingJoined_48 rfl (lv_at hl 2 rfl) ?_
        refine lv_iload hx hb dX7_standingJoined_49 (lv_at hl 5 rfl) ?_
        refine cR_V (Cn := RX7) (n := 2) (As := [.int (nI g), .int (nI i1)]) (rest := [.int 9999]) C (c_X7_owedTo l G s0 s1 s2 s3 s4 b0 b1 b2 b3 t n  g i1 (by omega) (by omega)) gX7_standingJoined_X7_owedTo rfl ⟨rfl, rfl⟩ hd_X7_owedTo ⟨(Nat.le_of_ble_eq_true rfl), (Nat.le_of_ble_eq_true rfl)⟩ hK hP (va_recv hK hP (ci := 7) (q0 := 0) rfl rfl) rfl hl.1 rfl (Nat.le_of_ble_eq_true rfl) dX7_standingJoined_51 ⟨(Nat.le_of_ble_eq_true rfl), (Nat.le_of_ble_eq_true rfl)⟩ ?_
        refine lv_aload_n hx hb dX7_standingJoined_54 rfl (lv_at hl 1 rfl) ?_
        refine lv_iload_n hx hb dX7_standingJoined_55 rfl (lv_at hl 3 rfl) ?_
        refine lv_iload hx hb dX7_standingJoined_56 (lv_at hl 5 rfl) ?_
        refine cR_V (Cn := RX7) (n := 2) (As := [.int (nI m), .int (nI i1)]) (rest := [.int (n (4 * g + i1)), .int 9999]) C (c_X7_owedTo l G s0 s1 s2 s3 s4 b0 b1 b2 b3 t n  m i1 (by omega) (by omega)) gX7_standingJoined_X7_owedTo rfl ⟨rfl, rfl⟩ hd_X7_owedTo ⟨(Nat.le_of_ble_eq_true rfl), (Nat.le_of_ble_eq_true rfl)⟩ hK hP (va_recv hK hP (ci := 7) (q0 := 0) rfl rfl) rfl hl.1 rfl (Nat.le_of_ble_eq_true rfl) dX7_standingJoined_58 ⟨(Nat.le_of_ble_eq_true rfl), (Nat.le_of_ble_eq_true rfl)⟩ ?_
        refine lv_iadd hx hb dX7_standingJoined_61 ?_
        refine va_mmin hx hb (hml.trans hl.1.symm) hown k4 k5 k6 k7 (Nat.le_of_ble_eq_true rfl) (Nat.le_of_ble_eq_true rfl) (Nat.le_of_ble_eq_true rfl) (Nat.le_of_ble_eq_true rfl) dX7_standingJoined_62 ?_
        refine lv_istore (lv' := [(6, .int (if ((n (4 * g + i1)) + (n (4 * m + i1))) < 9999 then ((n (4 * g + i1)) + (n (4 * m + i1))) else 9999)), (5, .int 1), (0, .ref s0), (1, .int (nI g)), (2, .int (nI m)), (3, .int (sumU (jnW t n g m) i1)), (4, .int (nI i1))]) hx hb dX7_standingJoined_65 hl (by decide) rfl (fun ls hl => ?_)
        refine lv_iload_n hx hb dX7_standingJoined_67 rfl (lv_at hl 5 rfl) ?_
        refine lv_aload_n hx hb dX7_standingJoined_68 rfl (lv_at hl 2 rfl) ?_
        refine lv_iload hx hb dX7_standingJoined_69 (lv_at hl 6 rfl) ?_
        refine lv_aload_n hx hb dX7_standingJoined_71 rfl (lv_at hl 2 rfl) ?_
        refine lv_iload hx hb dX7_standingJoined_72 (lv_at hl 6 rfl) ?_
        refine lv_iload hx hb dX7_standingJoined_74 (lv_at hl 0 rfl) ?_
        refine lv_iload hx hb dX7_standingJoined_76 (lv_at hl 1 rfl) ?_
        refine cR_V (Cn := RX7) (n := 3) (As := [.int (nI i1), .int (if ((n (4 * g + i1)) + (n (4 * m + i1))) < 9999 then ((n (4 * g + i1)) + (n (4 * m + i1))) else 9999), .int (bI True)]) (rest := [.int (nI i1), .ref s0, .int (sumU (jnW t n g m) i1)]) C (c_X7_moodBy l G s0 s1 s2 s3 s4 b0 b1 b2 b3 t n  i1 (if ((n (4 * g + i1)) + (n (4 * m + i1))) < 9999 then ((n (4 * g + i1)) + (n (4 * m + i1))) else 9999) True (by omega)) gX7_standingJoined_X7_moodBy rfl ⟨rfl, rfl⟩ hd_X7_moodBy ⟨(Nat.le_of_ble_eq_true rfl), (Nat.le_of_ble_eq_true rfl)⟩ hK hP (va_recv hK hP (ci := 7) (q0 := 0) rfl rfl) rfl hl.1 rfl (Nat.le_of_ble_eq_true rfl) dX7_standingJoined_78 ⟨(Nat.le_of_ble_eq_true rfl), (Nat.le_of_ble_eq_true rfl)⟩ ?_
        refine cR_V (Cn := RX7) (n := 2) (As := [.int (nI i1), .int (mdG (n 52) True (if ((n (4 * g + i1)) + (n (4 * m + i1))) < 9999 then ((n (4 * g + i1)) + (n (4 * m + i1))) else 9999) (t (9 + i1)) (t (13 + i1)) i1)]) (rest := [.int (sumU (jnW t n g m) i1)]) C (c_X7_worthOf l G s0 s1 s2 s3 s4 b0 b1 b2 b3 t n  i1 (mdG (n 52) True (if ((n (4 * g + i1)) + (n (4 * m + i1))) < 9999 then ((n (4 * g + i1)) + (n (4 * m + i1))) else 9999) (t (9 + i1)) (t (13 + i1)) i1) (by omega)) gX7_standingJoined_X7_worthOf rfl ⟨rfl, rfl⟩ hd_X7_worthOf ⟨(Nat.le_of_ble_eq_true rfl), (Nat.le_of_ble_eq_true rfl)⟩ hK hP (va_recv hK hP (ci := 7) (q0 := 0) rfl rfl) rfl hl.1 rfl (Nat.le_of_ble_eq_true rfl) dX7_standingJoined_81 ⟨(Nat.le_of_ble_eq_true rfl), (Nat.le_of_ble_eq_true rfl)⟩ ?_
        refine lv_iadd hx hb dX7_standingJoined_84 ?_
        refine lv_istore_n (lv' := [(3, .int ((sumU (jnW t n g m) i1) + (wrG (mdG (n 52) True (if ((n (4 * g + i1)) + (n (4 * m + i1))) < 9999 then ((n (4 * g + i1)) + (n (4 * m + i1))) else 9999) (t (9 + i1)) (t (13 + i1)) i1) (t (17 + i1))))), (6, .int (if ((n (4 * g + i1)) + (n (4 * m + i1))) < 9999 then ((n (4 * g + i1)) + (n (4 * m + i1))) else 9999)), (5, .int 1), (0, .ref s0), (1, .int (nI g)), (2, .int (nI m)), (4, .int (nI i1))]) hx hb dX7_standingJoined_85 rfl hl (by decide) rfl (fun ls hl => ?_)
        refine lv_iinc (v := nI (i1 + 1)) (lv' := [(4, .int (nI (i1 + 1))), (3, .int ((sumU (jnW t n g m) i1) + (wrG (mdG (n 52) True (if ((n (4 * g + i1)) + (n (4 * m + i1))) < 9999 then ((n (4 * g + i1)) + (n (4 * m + i1))) else 9999) (t (9 + i1)) (t (13 + i1)) i1) (t (17 + i1))))), (6, .int (if ((n (4 * g + i1)) + (n (4 * m + i1))) < 9999 then ((n (4 * g + i1)) + (n (4 * m + i1))) else 9999)), (5, .int 1), (0, .ref s0), (1, .int (nI g)), (2, .int (nI m))]) hx hb dX7_standingJoined_86 hl (k := 6) rfl (by rw [show (nI i1 : Int32) = nI i1 from rfl]; exact nI_add _ 1) (by decide) rfl (fun ls hl => ?_)
        refine lv_goto (tgt := 5) hx hb dX7_standingJoined_89 (by decide) ?_
        have e6 : (sumU (jnW t n g m) i1) + (wrG (mdG (n 52) True (if ((n (4 * g + i1)) + (n (4 * m + i1))) < 9999 then ((n (4 * g + i1)) + (n (4 * m + i1))) else 9999) (t (9 + i1)) (t (13 + i1)) i1) (t (17 + i1))) = sumU (jnW t n g m) (i1 + 1) := by show _ + wrG (mdG _ _ _ _ _ _) _ = sumU _ _ + wrG (mdG _ _ _ _ _ _) _; rw [mdG_b (b' := hasB (n (36 + g)) i1 ∨ hasB (n (36 + m)) i1) (by first | exact iff_of_true trivial (Or.inl (by assumption)) | exact iff_of_true trivial (Or.inr (by assumption)) | exact iff_of_false id (fun q => q.elim (by assumption) (by assumption)))]; rfl
        exact ih5 _ (by omega) ⟨lv_sub hl [4, 5, 6, 1, 0] (by rw [← e6]; rfl), trivial⟩
theorem hd_X7_mayBorrow : yX7_mayBorrow.cls = RX7 ∧ yX7_mayBorrow.cls ≠ "java/lang/invoke/MethodHandle" ∧ yX7_mayBorrow.cls ≠ "java/lang/invoke/VarHandle" ∧ (parseMethodDescriptor yX7_mayBorrow.desc).map (fun d => d.parameters.length) = some 3 := by decide +kernel
set_option maxRecDepth 100000 in
set_option maxHeartbeats 4000000 in
theorem c_X7_mayBorrow (l : Launch) (G : gG) (s0 : Nat) (s1 : Nat) (s2 : Nat) (s3 : Nat) (s4 : Nat) (b0 : Nat) (b1 : Nat) (b2 : Nat) (b3 : Nat) (t : Nat → Int32) (n : Nat → Int32) (nc : Nat) (np : Nat) (p : Nat) (c : Nat) (k : Int32) (hT : tw t nc np) (hp : p < np) (hc : c < 4) : mR l yX7_mayBorrow wsX7_mayBorrow ({ frames := 3, cells := 0, slots := 0, locals := 63 }) G (sW G s0 s1 s2 s3 s4 b0 b1 b2 b3 t n) [.ref s0, .int (nI p), .int (nI c), .int k] (bI (mayB t n p c k)) := by
  refine mR.of (cc := cX7_mayBorrow) (maxL := 4) (ret := (some .boolean)) (by decide) rfl (Nat.le_of_ble_eq_true rfl) ?_
  intro zp ze zs zm zb zt zc ls C hP hK hl
  obtain ⟨hx, hb, hr, hml, hown, hts, hlk⟩ := id C
  have hl : lv_has ls 4 [(0, .ref s0), (1, .int (nI p)), (2, .int (nI c)), (3, .int k)] := hl
  have hT2 := hT.2.2
  have k0 := hts (.fieldLink RX7 15 "DebtDowry$State" "purse" "[I") (by decide +kernel)
  have k1 := (fun w h => by revert w; decide +kernel : ∀ w ∈ wsX70, w ∈ wsX7_mayBorrow)
  refine lv_aload_n hx hb dX7_mayBorrow_0 rfl (lv_at hl 0 rfl) ?_
  refine lv_iload_n hx hb dX7_mayBorrow_1 rfl (lv_at hl 1 rfl) ?_
  refine cR_V (Cn := RX7) (n := 1) (As := [.int (nI p)]) (rest := []) C (c_X7_isWedMan l G s0 s1 s2 s3 s4 b0 b1 b2 b3 t n nc np p hT (by omega)) gX7_mayBorrow_X7_isWedMan rfl ⟨rfl, rfl⟩ hd_X7_isWedMan ⟨(Nat.le_of_ble_eq_true rfl), (Nat.le_of_ble_eq_true rfl)⟩ hK hP (va_recv hK hP (ci := 7) (q0 := 0) rfl rfl) rfl hl.1 rfl (Nat.le_of_ble_eq_true rfl) dX7_mayBorrow_2 ⟨(Nat.le_of_ble_eq_true rfl), (Nat.le_of_ble_eq_true rfl)⟩ ?_
  refine b_if_ne (tgt := 30) hx hb dX7_mayBorrow_5 (by decide) (fun cq1 => ?_) (fun cq1 => ?_)
  · skip
    refine lv_iconst (v := 0) hx hb dX7_mayBorrow_30 (by decide) ?_
    exact mR_zret C dX7_mayBorrow_31 (by decide) ((bI_f (fun h => h.1 cq1)).symm)
  · skip
    refine lv_aload_n hx hb dX7_mayBorrow_8 rfl (lv_at hl 0 rfl) ?_
    refine lv_iload_n hx hb dX7_mayBorrow_9 rfl (lv_at hl 2 rfl) ?_
    refine cR_V (Cn := RX7) (n := 1) (As := [.int (nI c)]) (rest := []) C (c_X7_hasFailed l G s0 s1 s2 s3 s4 b0 b1 b2 b3 t n  c ) gX7_mayBorrow_X7_hasFailed rfl ⟨rfl, rfl⟩ hd_X7_hasFailed ⟨(Nat.le_of_ble_eq_true rfl), (Nat.le_of_ble_eq_true rfl)⟩ hK hP (va_recv hK hP (ci := 7) (q0 := 0) rfl rfl) rfl hl.1 rfl (Nat.le_of_ble_eq_true rfl) dX7_mayBorrow_10 ⟨(Nat.le_of_ble_eq_true rfl), (Nat.le_of_ble_eq_true rfl)⟩ ?_
    refine b_if_ne (tgt := 30) hx hb dX7_mayBorrow_13 (by decide) (fun cq2 => ?_) (fun cq2 => ?_)
    · skip
      refine lv_iconst (v := 0) hx hb dX7_mayBorrow_30 (by decide) ?_
      exact mR_zret C dX7_mayBorrow_31 (by decide) ((bI_f (fun h => h.2.1 cq2)).symm)
    · skip
      refine lv_aload_n hx hb dX7_mayBorrow_16 rfl (lv_at hl 0 rfl) ?_
      refine va_get (D := G.1) (ci := 7) (v := .ref s2) (C := RX7) (T := TX7) (N := 7) hx hb hts k1 hown hK hP 0 rfl rfl 2 (by decide) k0 (fun _ h9 => h9) rfl dX7_mayBorrow_17 ?_
      refine lv_iload_n hx hb dX7_mayBorrow_20 rfl (lv_at hl 2 rfl) ?_
      refine n_iald hx hb hK hP 2 0 rfl rfl (j := c) rfl (by omega) (by decide) dX7_mayBorrow_21 ?_
      refine lv_iload_n hx hb dX7_mayBorrow_22 rfl (lv_at hl 3 rfl) ?_
      refine lv_icmp_lt (tgt := 30) hx hb dX7_mayBorrow_23 (by decide) (fun cq3 => ?_) (fun cq3 => ?_)
      · skip
        refine lv_iconst (v := 0) hx hb dX7_mayBorrow_30 (by decide) ?_
        exact mR_zret C dX7_mayBorrow_31 (by decide) ((bI_f (fun h => i32_nle.mpr cq3 h.2.2)).symm)
      · skip
        refine lv_iconst (v := 1) hx hb dX7_mayBorrow_26 (by decide) ?_
        refine lv_goto (tgt := 31) hx hb dX7_mayBorrow_27 (by decide) ?_
        exact mR_zret C dX7_mayBorrow_31 (by decide) ((bI_t ⟨cq1, cq2, i32_nlt.mp cq3⟩).symm)
theorem hd_X7_lend : yX7_lend.cls = RX7 ∧ yX7_lend.cls ≠ "java/lang/invoke/MethodHandle" ∧ yX7_lend.cls ≠ "java/lang/invoke/VarHandle" ∧ (parseMethodDescriptor yX7_lend.desc).map (fun d => d.parameters.length) = some 3 := by decide +kernel
set_option maxRecDepth 100000 in
set_option maxHeartbeats 4000000 in
theorem c_X7_lend (l : Launch) (G : gG) (s0 : Nat) (s1 : Nat) (s2 : Nat) (s3 : Nat) (s4 : Nat) (b0 : Nat) (b1 : Nat) (b2 : Nat) (b3 : Nat) (t : Nat → Int32) (n : Nat → Int32) (p : Nat) (c : Nat) (k : Int32) (hp : p < 8) (hc : c < 4) : mX l yX7_lend wsX7_lend ({ frames := 2, cells := 0, slots := 0, locals := 44 }) G (sW G s0 s1 s2 s3 s4 b0 b1 b2 b3 t n) (sW G s0 s1 s2 s3 s4 b0 b1 b2 b3 t (borF n p c k)) [.ref s0, .int (nI p), .int (nI c), .int k] (.returned none) := by
  refine mX.of (cc := cX7_lend) (maxL := 4) (ret := none) (by decide) rfl (Nat.le_of_ble_eq_true rfl) ?_
  intro zp ze zs zm zb zt zc ls A hAe C hP hK hD hS hl
  obtain ⟨hx, hb, hr, hml, hown, hts, hlk⟩ := id C
  have hl : lv_has ls 4 [(0, .ref s0), (1, .int (nI p)), (2, .int (nI c)), (3, .int k)] := hl
  have k0 := hts (.fieldLink RX7 15 "DebtDowry$State" "purse" "[I") (by decide +kernel)
  have k1 := (fun w h => by revert w; decide +kernel : ∀ w ∈ wsX70, w ∈ wsX7_lend)
  refine lv_aload_n hx hb dX7_lend_0 rfl (lv_at hl 0 rfl) ?_
  refine lv_iload_n hx hb dX7_lend_1 rfl (lv_at hl 1 rfl) ?_
  refine lv_iload_n hx hb dX7_lend_2 rfl (lv_at hl 2 rfl) ?_
  refine lv_aload_n hx hb dX7_lend_3 rfl (lv_at hl 0 rfl) ?_
  refine lv_iload_n hx hb dX7_lend_4 rfl (lv_at hl 1 rfl) ?_
  refine lv_iload_n hx hb dX7_lend_5 rfl (lv_at hl 2 rfl) ?_
  refine cR_V (Cn := RX7) (n := 2) (As := [.int (nI p), .int (nI c)]) (rest := [.int (nI c), .int (nI p), .ref s0]) C (c_X7_owedTo l G s0 s1 s2 s3 s4 b0 b1 b2 b3 t n  p c (by omega) (by omega)) gX7_lend_X7_owedTo rfl ⟨rfl, rfl⟩ hd_X7_owedTo ⟨(Nat.le_of_ble_eq_true rfl), (Nat.le_of_ble_eq_true rfl)⟩ hK hP (va_recv hK hP (ci := 7) (q0 := 0) rfl rfl) rfl hl.1 rfl (Nat.le_of_ble_eq_true rfl) dX7_lend_6 ⟨(Nat.le_of_ble_eq_true rfl), (Nat.le_of_ble_eq_true rfl)⟩ ?_
  refine lv_iload_n hx hb dX7_lend_9 rfl (lv_at hl 3 rfl) ?_
  refine lv_iadd hx hb dX7_lend_10 ?_
  refine cX_V (Cn := RX7) (n := 3) (As := [.int (nI p), .int (nI c), .int ((n (4 * p + c)) + k)]) (rest := []) (wsn := sW G s0 s1 s2 s3 s4 b0 b1 b2 b3 t (upd n (4 * p + c) (lessI ((n (4 * p + c)) + k) 9999))) C (c_X7_setOwed l G s0 s1 s2 s3 s4 b0 b1 b2 b3 t n  p c ((n (4 * p + c)) + k) (by omega) (by omega)) gX7_lend_X7_setOwed rfl ⟨rfl, rfl⟩ hd_X7_setOwed ⟨(Nat.le_of_ble_eq_true rfl), (Nat.le_of_ble_eq_true rfl)⟩ hK hP hD hS [0, 1, 2, 3, 4, 5, 6, 7, 8] (by decide) rfl (sW_f.trans sW_f.symm) rfl (sW_f.trans sW_f.symm) (va_recv hK hP (ci := 7) (q0 := 0) rfl rfl) rfl hl.1 rfl (Nat.le_of_ble_eq_true rfl) dX7_lend_11 ⟨(Nat.le_of_ble_eq_true rfl), (Nat.le_of_ble_eq_true rfl)⟩ (fun H locs hP hD hS => ?_)
  refine lv_aload_n hx hb dX7_lend_14 rfl (lv_at hl 0 rfl) ?_
  refine va_get (D := G.1) (ci := 7) (v := .ref s2) (C := RX7) (T := TX7) (N := 7) hx hb hts k1 hown hK hP 0 rfl rfl 2 (by decide) k0 (fun _ h9 => h9) rfl dX7_lend_15 ?_
  refine lv_iload_n hx hb dX7_lend_18 rfl (lv_at hl 2 rfl) ?_
  refine lv_dup2_11 hx hb dX7_lend_19 rfl rfl ?_
  refine n_iald hx hb hK hP 2 0 rfl rfl (j := c) rfl (by omega) (by decide) dX7_lend_20 ?_
  refine lv_iload_n hx hb dX7_lend_21 rfl (lv_at hl 3 rfl) ?_
  refine lv_isub hx hb dX7_lend_22 ?_
  refine n_iastQ hx hb hK hP hD hS 2 0 rfl rfl (x := (((upd n (4 * p + c) (lessI ((n (4 * p + c)) + k) 9999)) (32 + c)) - k)) (j := c) rfl (by omega) (by decide) dX7_lend_23 (wsn := sW G s0 s1 s2 s3 s4 b0 b1 b2 b3 t (upd (upd n (4 * p + c) (lessI ((n (4 * p + c)) + k) 9999)) (32 + c) (((upd n (4 * p + c) (lessI ((n (4 * p + c)) + k) 9999)) (32 + c)) - k))) (sW_r2 (by omega)) (fun H locs hP hD hS => ?_)
  have hP : va_P G.1 vwCl (sW G s0 s1 s2 s3 s4 b0 b1 b2 b3 t (borF n p c k)) H := by rw [show (borF n p c k) = (upd (upd n (4 * p + c) (lessI ((n (4 * p + c)) + k) 9999)) (32 + c) (((upd n (4 * p + c) (lessI ((n (4 * p + c)) + k) 9999)) (32 + c)) - k)) from rfl]; exact hP
  exact mX_vret hAe C hP hS dX7_lend_24
theorem hd_X7_settle : yX7_settle.cls = RX7 ∧ yX7_settle.cls ≠ "java/lang/invoke/MethodHandle" ∧ yX7_settle.cls ≠ "java/lang/invoke/VarHandle" ∧ (parseMethodDescriptor yX7_settle.desc).map (fun d => d.parameters.length) = some 3 := by decide +kernel
set_option maxRecDepth 100000 in
set_option maxHeartbeats 4000000 in
theorem c_X7_settle (l : Launch) (G : gG) (s0 : Nat) (s1 : Nat) (s2 : Nat) (s3 : Nat) (s4 : Nat) (b0 : Nat) (b1 : Nat) (b2 : Nat) (b3 : Nat) (t : Nat → Int32) (n : Nat → Int32) (p : Nat) (c : Nat) (k : Int32) (hp : p < 8) (hc : c < 4) (hle : lessI (n (4 * p + c) - k) 9999 = n (4 * p + c) - k) : mX l yX7_settle wsX7_settle ({ frames := 2, cells := 0, slots := 0, locals := 44 }) G (sW G s0 s1 s2 s3 s4 b0 b1 b2 b3 t n) (sW G s0 s1 s2 s3 s4 b0 b1 b2 b3 t (payF t n p c k)) [.ref s0, .int (nI p), .int (nI c), .int k] (.returned none) := by
  refine mX.of (cc := cX7_settle) (maxL := 5) (ret := none) (by decide) rfl (Nat.le_of_ble_eq_true rfl) ?_
  intro zp ze zs zm zb zt zc ls A hAe C hP hK hD hS hl
  obtain ⟨hx, hb, hr, hml, hown, hts, hlk⟩ := id C
  have hl : lv_has ls 5 [(0, .ref s0), (1, .int (nI p)), (2, .int (nI c)), (3, .int k)] := hl
  have k0 := hts (.fieldLink RX7 24 "DebtDowry$State" "terms" "LDebtDowry$Terms;") (by decide +kernel)
  have k1 := (fun w h => by revert w; decide +kernel : ∀ w ∈ wsX70, w ∈ wsX7_settle)
  have k2 := hts (.fieldLink RX7 99 "DebtDowry$Terms" "mildness" "I") (by decide +kernel)
  have k3 := (fun w h => by revert w; decide +kernel : ∀ w ∈ wsX80, w ∈ wsX7_settle)
  have k4 := hts (.fieldLink RX7 15 "DebtDowry$State" "purse" "[I") (by decide +kernel)
  have k5 := hts (.methodLink RX7 41 Lib.Math.min.name) (by decide +kernel)
  have k6 := hts (.static Lib.Math.min.name) (by decide +kernel)
  have k7 := hts (.initialized "java/lang/Math") (by decide +kernel)
  have k8 := hts (.code Lib.Math.min.name Lib.Math.min.code 2 (some .int)) (by decide +kernel)
  have k9 := hts (.fieldLink RX7 18 "DebtDowry$State" "insults" "[I") (by decide +kernel)
  refine lv_aload_n hx hb dX7_settle_0 rfl (lv_at hl 0 rfl) ?_
  refine lv_iload_n hx hb dX7_settle_1 rfl (lv_at hl 1 rfl) ?_
  refine lv_iload_n hx hb dX7_settle_2 rfl (lv_at hl 2 rfl) ?_
  refine cR_V (Cn := RX7) (n := 2) (As := [.int (nI p), .int (nI c)]) (rest := []) C (c_X7_owedTo l G s0 s1 s2 s3 s4 b0 b1 b2 b3 t n  p c (by omega) (by omega)) gX7_settle_X7_owedTo rfl ⟨rfl, rfl⟩ hd_X7_owedTo ⟨(Nat.le_of_ble_eq_true rfl), (Nat.le_of_ble_eq_true rfl)⟩ hK hP (va_recv hK hP (ci := 7) (q0 := 0) rfl rfl) rfl hl.1 rfl (Nat.le_of_ble_eq_true rfl) dX7_settle_3 ⟨(Nat.le_of_ble_eq_true rfl), (Nat.le_of_ble_eq_true rfl)⟩ ?_
  refine lv_istore (lv' := [(4, .int (n (4 * p + c))), (0, .ref s0), (1, .int (nI p)), (2, .int (nI c)), (3, .int k)]) hx hb dX7_settle_6 hl (by decide) rfl (fun ls hl => ?_)
  refine lv_iload_n hx hb dX7_settle_8 rfl (lv_at hl 4 rfl) ?_
  refine lv_bipush (v := 100) hx hb dX7_settle_9 (by decide) ?_
  refine lv_imul hx hb dX7_settle_11 ?_
  refine lv_aload_n hx hb dX7_settle_12 rfl (lv_at hl 1 rfl) ?_
  refine va_get (D := G.1) (ci := 7) (v := .ref b0) (C := RX7) (T := TX7) (N := 7) hx hb hts k1 hown hK hP 0 rfl rfl 0 (by decide) k0 (fun _ h9 => h9) rfl dX7_settle_13 ?_
  refine va_get (D := G.1) (ci := 8) (v := .int (t 2)) (C := RX8) (T := TX8) (N := 9) hx hb hts k3 hown hK hP 5 rfl rfl 2 (by decide) k2 (fun _ h9 => h9) rfl dX7_settle_16 ?_
  refine lv_iload hx hb dX7_settle_19 (lv_at hl 0 rfl) ?_
  refine lv_imul hx hb dX7_settle_21 ?_
  refine lv_icmp_le (tgt := 37) hx hb dX7_settle_22 (by decide) (fun cq1 => ?_) (fun cq1 => ?_)
  · skip
    refine lv_aload_n hx hb dX7_settle_37 rfl (lv_at hl 1 rfl) ?_
    refine lv_iload_n hx hb dX7_settle_38 rfl (lv_at hl 2 rfl) ?_
    refine lv_iload_n hx hb dX7_settle_39 rfl (lv_at hl 3 rfl) ?_
    refine lv_iload hx hb dX7_settle_40 (lv_at hl 0 rfl) ?_
    refine lv_iload_n hx hb dX7_settle_42 rfl (lv_at hl 4 rfl) ?_
    refine lv_isub hx hb dX7_settle_43 ?_
    refine cX_V (Cn := RX7) (n := 3) (As := [.int (nI p), .int (nI c), .int ((n (4 * p + c)) - k)]) (rest := []) (wsn := sW G s0 s1 s2 s3 s4 b0 b1 b2 b3 t (upd n (4 * p + c) (lessI ((n (4 * p + c)) - k) 9999))) C (c_X7_setOwed l G s0 s1 s2 s3 s4 b0 b1 b2 b3 t n  p c ((n (4 * p + c)) - k) (by omega) (by omega)) gX7_settle_X7_setOwed rfl ⟨rfl, rfl⟩ hd_X7_setOwed ⟨(Nat.le_of_ble_eq_true rfl), (Nat.le_of_ble_eq_true rfl)⟩ hK hP hD hS [0, 1, 2, 3, 4, 5, 6, 7, 8] (by decide) rfl (sW_f.trans sW_f.symm) rfl (sW_f.trans sW_f.symm) (va_recv hK hP (ci := 7) (q0 := 0) rfl rfl) rfl hl.1 rfl (Nat.le_of_ble_eq_true rfl) dX7_settle_44 ⟨(Nat.le_of_ble_eq_true rfl), (Nat.le_of_ble_eq_true rfl)⟩ (fun H locs hP hD hS => ?_)
    refine lv_aload_n hx hb dX7_settle_47 rfl (lv_at hl 1 rfl) ?_
    refine va_get (D := G.1) (ci := 7) (v := .ref s2) (C := RX7) (T := TX7) (N := 7) hx hb hts k1 hown hK hP 0 rfl rfl 2 (by decide) k4 (fun _ h9 => h9) rfl dX7_settle_48 ?_
    refine lv_iload_n hx hb dX7_settle_51 rfl (lv_at hl 3 rfl) ?_
    refine lv_sipush (v := 9999) hx hb dX7_settle_52 (by decide) ?_
    refine lv_aload_n hx hb dX7_settle_55 rfl (lv_at hl 1 rfl) ?_
    refine va_get (D := G.1) (ci := 7) (v := .ref s2) (C := RX7) (T := TX7) (N := 7) hx hb hts k1 hown hK hP 0 rfl rfl 2 (by decide) k4 (fun _ h9 => h9) rfl dX7_settle_56 ?_
    refine lv_iload_n hx hb dX7_settle_59 rfl (lv_at hl 3 rfl) ?_
    refine n_iald hx hb hK hP 2 0 rfl rfl (j := c) rfl (by omega) (by decide) dX7_settle_60 ?_
    refine lv_iload_n hx hb dX7_settle_61 rfl (lv_at hl 4 rfl) ?_
    refine lv_iadd hx hb dX7_settle_62 ?_
    refine va_mmin hx hb (hml.trans hl.1.symm) hown k5 k6 k7 k8 (Nat.le_of_ble_eq_true rfl) (Nat.le_of_ble_eq_true rfl) (Nat.le_of_ble_eq_true rfl) (Nat.le_of_ble_eq_true rfl) dX7_settle_63 ?_
    refine n_iastQ hx hb hK hP hD hS 2 0 rfl rfl (x := (if (((upd n (4 * p + c) (lessI ((n (4 * p + c)) - k) 9999)) (32 + c)) + k) < 9999 then (((upd n (4 * p + c) (lessI ((n (4 * p + c)) - k) 9999)) (32 + c)) + k) else 9999)) (j := c) rfl (by omega) (by decide) dX7_settle_66 (wsn := sW G s0 s1 s2 s3 s4 b0 b1 b2 b3 t (upd (upd n (4 * p + c) (lessI ((n (4 * p + c)) - k) 9999)) (32 + c) (if (((upd n (4 * p + c) (lessI ((n (4 * p + c)) - k) 9999)) (32 + c)) + k) < 9999 then (((upd n (4 * p + c) (lessI ((n (4 * p + c)) - k) 9999)) (32 + c)) + k) else 9999))) (sW_r2 (by omega)) (fun H locs hP hD hS => ?_)
    have hP : va_P G.1 vwCl (sW G s0 s1 s2 s3 s4 b0 b1 b2 b3 t (payF t n p c k)) H := by rw [show (payF t n p c k) = (upd (upd n (4 * p + c) (lessI ((n (4 * p + c)) - k) 9999)) (32 + c) (if (((upd n (4 * p + c) (lessI ((n (4 * p + c)) - k) 9999)) (32 + c)) + k) < 9999 then (((upd n (4 * p + c) (lessI ((n (4 * p + c)) - k) 9999)) (32 + c)) + k) else 9999)) from by unfold payF pay2 pay1; rw [hle, if_neg (i32_nlt.mpr cq1), or_z, upd_self rfl]; rfl]; exact hP
    exact mX_vret hAe C hP hS dX7_settle_67
  · skip
    refine lv_aload_n hx hb dX7_settle_25 rfl (lv_at hl 1 rfl) ?_
    refine va_get (D := G.1) (ci := 7) (v := .ref s3) (C := RX7) (T := TX7) (N := 7) hx hb hts k1 hown hK hP 0 rfl rfl 3 (by decide) k9 (fun _ h9 => h9) rfl dX7_settle_26 ?_
    refine lv_iload_n hx hb dX7_settle_29 rfl (lv_at hl 2 rfl) ?_
    refine lv_dup2_11 hx hb dX7_settle_30 rfl rfl ?_
    refine n_iald hx hb hK hP 3 0 rfl rfl (j := p) rfl (by omega) (by decide) dX7_settle_31 ?_
    refine lv_iconst (v := 1) hx hb dX7_settle_32 (by decide) ?_
    refine lv_iload_n hx hb dX7_settle_33 rfl (lv_at hl 3 rfl) ?_
    refine lv_ishl hx hb dX7_settle_34 ?_
    refine lv_ior hx hb dX7_settle_35 ?_
    refine n_iastQ hx hb hK hP hD hS 3 0 rfl rfl (x := ((n (36 + p)) ||| (1 <<< ((nI c) &&& 31)))) (j := p) rfl (by omega) (by decide) dX7_settle_36 (wsn := sW G s0 s1 s2 s3 s4 b0 b1 b2 b3 t (upd n (36 + p) ((n (36 + p)) ||| (1 <<< ((nI c) &&& 31))))) (sW_r3 (by omega)) (fun H locs hP hD hS => ?_)
    refine lv_aload_n hx hb dX7_settle_37 rfl (lv_at hl 1 rfl) ?_
    refine lv_iload_n hx hb dX7_settle_38 rfl (lv_at hl 2 rfl) ?_
    refine lv_iload_n hx hb dX7_settle_39 rfl (lv_at hl 3 rfl) ?_
    refine lv_iload hx hb dX7_settle_40 (lv_at hl 0 rfl) ?_
    refine lv_iload_n hx hb dX7_settle_42 rfl (lv_at hl 4 rfl) ?_
    refine lv_isub hx hb dX7_settle_43 ?_
    refine cX_V (Cn := RX7) (n := 3) (As := [.int (nI p), .int (nI c), .int ((n (4 * p + c)) - k)]) (rest := []) (wsn := sW G s0 s1 s2 s3 s4 b0 b1 b2 b3 t (upd (upd n (36 + p) ((n (36 + p)) ||| (1 <<< ((nI c) &&& 31)))) (4 * p + c) (lessI ((n (4 * p + c)) - k) 9999))) C (c_X7_setOwed l G s0 s1 s2 s3 s4 b0 b1 b2 b3 t (upd n (36 + p) ((n (36 + p)) ||| (1 <<< ((nI c) &&& 31))))  p c ((n (4 * p + c)) - k) (by omega) (by omega)) gX7_settle_X7_setOwed rfl ⟨rfl, rfl⟩ hd_X7_setOwed ⟨(Nat.le_of_ble_eq_true rfl), (Nat.le_of_ble_eq_true rfl)⟩ hK hP hD hS [0, 1, 2, 3, 4, 5, 6, 7, 8] (by decide) rfl (sW_f.trans sW_f.symm) rfl (sW_f.trans sW_f.symm) (va_recv hK hP (ci := 7) (q0 := 0) rfl rfl) rfl hl.1 rfl (Nat.le_of_ble_eq_true rfl) dX7_settle_44 ⟨(Nat.le_of_ble_eq_true rfl), (Nat.le_of_ble_eq_true rfl)⟩ (fun H locs hP hD hS => ?_)
    refine lv_aload_n hx hb dX7_settle_47 rfl (lv_at hl 1 rfl) ?_
    refine va_get (D := G.1) (ci := 7) (v := .ref s2) (C := RX7) (T := TX7) (N := 7) hx hb hts k1 hown hK hP 0 rfl rfl 2 (by decide) k4 (fun _ h9 => h9) rfl dX7_settle_48 ?_
    refine lv_iload_n hx hb dX7_settle_51 rfl (lv_at hl 3 rfl) ?_
    refine lv_sipush (v := 9999) hx hb dX7_settle_52 (by decide) ?_
    refine lv_aload_n hx hb dX7_settle_55 rfl (lv_at hl 1 rfl) ?_
    refine va_get (D := G.1) (ci := 7) (v := .ref s2) (C := RX7) (T := TX7) (N := 7) hx hb hts k1 hown hK hP 0 rfl rfl 2 (by decide) k4 (fun _ h9 => h9) rfl dX7_settle_56 ?_
    refine lv_iload_n hx hb dX7_settle_59 rfl (lv_at hl 3 rfl) ?_
    refine n_iald hx hb hK hP 2 0 rfl rfl (j := c) rfl (by omega) (by decide) dX7_settle_60 ?_
    refine lv_iload_n hx hb dX7_settle_61 rfl (lv_at hl 4 rfl) ?_
    refine lv_iadd hx hb dX7_settle_62 ?_
    refine va_mmin hx hb (hml.trans hl.1.symm) hown k5 k6 k7 k8 (Nat.le_of_ble_eq_true rfl) (Nat.le_of_ble_eq_true rfl) (Nat.le_of_ble_eq_true rfl) (Nat.le_of_ble_eq_true rfl) dX7_settle_63 ?_
    refine n_iastQ hx hb hK hP hD hS 2 0 rfl rfl (x := (if (((upd (upd n (36 + p) ((n (36 + p)) ||| (1 <<< ((nI c) &&& 31)))) (4 * p + c) (lessI ((n (4 * p + c)) - k) 9999)) (32 + c)) + k) < 9999 then (((upd (upd n (36 + p) ((n (36 + p)) ||| (1 <<< ((nI c) &&& 31)))) (4 * p + c) (lessI ((n (4 * p + c)) - k) 9999)) (32 + c)) + k) else 9999)) (j := c) rfl (by omega) (by decide) dX7_settle_66 (wsn := sW G s0 s1 s2 s3 s4 b0 b1 b2 b3 t (upd (upd (upd n (36 + p) ((n (36 + p)) ||| (1 <<< ((nI c) &&& 31)))) (4 * p + c) (lessI ((n (4 * p + c)) - k) 9999)) (32 + c) (if (((upd (upd n (36 + p) ((n (36 + p)) ||| (1 <<< ((nI c) &&& 31)))) (4 * p + c) (lessI ((n (4 * p + c)) - k) 9999)) (32 + c)) + k) < 9999 then (((upd (upd n (36 + p) ((n (36 + p)) ||| (1 <<< ((nI c) &&& 31)))) (4 * p + c) (lessI ((n (4 * p + c)) - k) 9999)) (32 + c)) + k) else 9999))) (sW_r2 (by omega)) (fun H locs hP hD hS => ?_)
    have hP : va_P G.1 vwCl (sW G s0 s1 s2 s3 s4 b0 b1 b2 b3 t (payF t n p c k)) H := by rw [show (payF t n p c k) = (upd (upd (upd n (36 + p) ((n (36 + p)) ||| (1 <<< ((nI c) &&& 31)))) (4 * p + c) (lessI ((n (4 * p + c)) - k) 9999)) (32 + c) (if (((upd (upd n (36 + p) ((n (36 + p)) ||| (1 <<< ((nI c) &&& 31)))) (4 * p + c) (lessI ((n (4 * p + c)) - k) 9999)) (32 + c)) + k) < 9999 then (((upd (upd n (36 + p) ((n (36 + p)) ||| (1 <<< ((nI c) &&& 31)))) (4 * p + c) (lessI ((n (4 * p + c)) - k) 9999)) (32 + c)) + k) else 9999)) from by unfold payF pay2 pay1; rw [hle, if_pos (i32_nle.mp cq1)]; rfl]; exact hP
    exact mX_vret hAe C hP hS dX7_settle_67
