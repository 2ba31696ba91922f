def cpW (G : gG) (x y n1 n2 : Nat) (f g : Nat → Int32) : va_W := [(x, iA G n1 f), (y, iA G n2 g)]
theorem cpW_f {G : gG} {x y n1 n2 : Nat} {f g : Nat → Int32} : (cpW G x y n1 n2 f g).map Prod.fst = [x, y] := rfl
set_option maxRecDepth 100000 in
set_option maxHeartbeats 4000000 in
theorem c_X10_has_r (l : Launch) (G : gG) (st : Int32) (x : Int32) : mR l yX10_has wsX10_has ({ frames := 0, cells := 0, slots := 0, locals := 0 }) G (eW G  ) [.int st, .int x] (bI (hasR st x)) := by
  refine mR.of (cc := cX10_has) (maxL := 2) (ret := (some .boolean)) (by decide) rfl (Nat.le_of_ble_eq_true rfl) ?_
  intro zp ze zs zm zb zt zc ls C hP hK hl
  obtain ⟨hx, hb, hr, hml, hown, hts, hlk⟩ := id C
  have hl : lv_has ls 2 [(0, .int st), (1, .int x)] := hl
  refine lv_iload_n hx hb dX10_has_0 rfl (lv_at hl 0 rfl) ?_
  refine lv_iload_n hx hb dX10_has_1 rfl (lv_at hl 1 rfl) ?_
  refine lv_ishr hx hb dX10_has_2 ?_
  refine lv_iconst (v := 1) hx hb dX10_has_3 (by decide) ?_
  refine lv_iand hx hb dX10_has_4 ?_
  refine lv_iconst (v := 1) hx hb dX10_has_5 (by decide) ?_
  refine lv_icmp_ne (tgt := 13) hx hb dX10_has_6 (by decide) (fun cq1 => ?_) (fun cq1 => ?_)
  · skip
    refine lv_iconst (v := 0) hx hb dX10_has_13 (by decide) ?_
    exact mR_zret C dX10_has_14 (by decide) (by simp [bI, hasR, cq1])
  · skip
    refine lv_iconst (v := 1) hx hb dX10_has_9 (by decide) ?_
    refine lv_goto (tgt := 14) hx hb dX10_has_10 (by decide) ?_
    exact mR_zret C dX10_has_14 (by decide) (by simp [bI, hasR, cq1])
theorem hd_X10_copies : yX10_copies.cls ≠ "java/lang/invoke/MethodHandle" ∧ yX10_copies.cls ≠ "java/lang/invoke/VarHandle" ∧ (parseMethodDescriptor yX10_copies.desc).map (fun d => d.parameters.length) = some 5 := by decide +kernel
set_option maxRecDepth 100000 in
set_option maxHeartbeats 4000000 in
theorem c_X10_copies (l : Launch) (G : gG) (x : Nat) (y : Nat) (n1 : Nat) (n2 : Nat) (f : Nat → Int32) (g : Nat → Int32) (sp : Nat) (dp : Nat) (mm : Nat) (h1 : sp + mm ≤ n1) (h2 : dp + mm ≤ n2) (h3 : n1 < 2147483648 ∧ n2 < 2147483648) : mX l yX10_copies wsX10_copies ({ frames := 0, cells := 0, slots := 0, locals := 0 }) G (cpW G x y n1 n2 f g) (cpW G x y n1 n2 f (va_cpy f g sp dp mm)) [.ref x, .int (nI sp), .ref y, .int (nI dp), .int (nI mm)] (.returned none) := by
  refine mX.of (cc := cX10_copies) (maxL := 6) (ret := none) (by decide) rfl (Nat.le_of_ble_eq_true rfl) ?_
  intro zp ze zs zm zb zt zc ls A hAe C hP hK hD hS hl
  obtain ⟨hx, hb, hr, hml, hown, hts, hlk⟩ := id C
  have hl : lv_has ls 6 [(0, .ref x), (1, .int (nI sp)), (2, .ref y), (3, .int (nI dp)), (4, .int (nI mm))] := hl
  obtain ⟨h3, h4⟩ := h3
  refine lv_iconst (v := 0) hx hb dX10_copies_0 (by decide) ?_
  refine lv_istore (lv' := [(5, .int 0), (0, .ref x), (1, .int (nI sp)), (2, .ref y), (3, .int (nI dp)), (4, .int (nI mm))]) hx hb dX10_copies_1 hl (by decide) rfl (fun ls hl => ?_)
  refine wl_X (B := mm) (i0 := 0) (Inv := fun i1 H locs ls => va_P G.1 vwCl (cpW G x y n1 n2 f (va_cpy f g sp dp i1)) H ∧ va_D A (cpW G x y n1 n2 f (va_cpy f g sp dp i1)) ∧ va_S A zs.heap H locs ∧ lv_has ls 6 [(0, .ref x), (1, .int (nI sp)), (2, .ref y), (3, .int (nI dp)), (4, .int (nI mm)), (5, .int (nI i1))] ∧ True) (by omega) ⟨by rw [cpy_0]; exact hP, by rw [cpy_0]; exact hD, hS, lv_sub hl [1, 2, 3, 4, 5, 0] (rfl), trivial⟩ ?_
  rintro i1 H locs ls hle3 ⟨hP, hD, hS, hl, -⟩ ih3
  refine lv_iload hx hb dX10_copies_3 (lv_at hl 5 rfl) ?_
  refine lv_iload hx hb dX10_copies_5 (lv_at hl 4 rfl) ?_
  refine n_icmp_ge (tgt := 28) hx hb dX10_copies_7 (by decide) (u := i1) (v := mm) rfl rfl (by omega) (by omega) (fun cq1 => ?_) (fun cq1 => ?_)
  · skip
    obtain rfl : mm = i1 := by omega
    exact mX_vret hAe C hP hS dX10_copies_28
  · skip
    refine lv_aload_n hx hb dX10_copies_10 rfl (lv_at hl 2 rfl) ?_
    refine lv_iload_n hx hb dX10_copies_11 rfl (lv_at hl 3 rfl) ?_
    refine lv_iload hx hb dX10_copies_12 (lv_at hl 5 rfl) ?_
    refine n_iadd hx hb dX10_copies_14 (u := dp) (v := i1) rfl rfl (j := dp + i1) (by omega) ?_
    refine lv_aload_n hx hb dX10_copies_15 rfl (lv_at hl 0 rfl) ?_
    refine lv_iload_n hx hb dX10_copies_16 rfl (lv_at hl 1 rfl) ?_
    refine lv_iload hx hb dX10_copies_17 (lv_at hl 5 rfl) ?_
    refine n_iadd hx hb dX10_copies_19 (u := sp) (v := i1) rfl rfl (j := sp + i1) (by omega) ?_
    refine n_iald hx hb hK hP 0 0 rfl rfl (j := sp + i1) rfl (by omega) (by omega) dX10_copies_20 ?_
    refine n_iast hx hb hK hP hD hS 1 0 rfl rfl (x := (f (sp + i1))) (j := dp + i1) rfl (by omega) (by omega) dX10_copies_21 (wsn := cpW G x y n1 n2 f (upd (va_cpy f g sp dp i1) (dp + i1) (f (sp + i1)))) rfl (fun H locs hP hD hS => ?_)
    refine lv_iinc (v := nI (i1 + 1)) (lv' := [(5, .int (nI (i1 + 1))), (0, .ref x), (1, .int (nI sp)), (2, .ref y), (3, .int (nI dp)), (4, .int (nI mm))]) hx hb dX10_copies_22 hl (k := 5) rfl (by rw [show (nI i1 : Int32) = nI i1 from rfl]; exact nI_add _ 1) (by decide) rfl (fun ls hl => ?_)
    refine lv_goto (tgt := 3) hx hb dX10_copies_25 (by decide) ?_
    have e2 : (upd (va_cpy f g sp dp i1) (dp + i1) (f (sp + i1))) = va_cpy f g sp dp (i1 + 1) := cpy_s _ _ _ _ _
    rw [e2] at hP hD
    exact ih3 _ _ _ (by omega) ⟨hP, hD, hS, lv_sub hl [1, 2, 3, 4, 5, 0] (rfl), trivial⟩
theorem hd_X10_isCreditor : yX10_isCreditor.cls = RX10 ∧ yX10_isCreditor.cls ≠ "java/lang/invoke/MethodHandle" ∧ yX10_isCreditor.cls ≠ "java/lang/invoke/VarHandle" ∧ (parseMethodDescriptor yX10_isCreditor.desc).map (fun d => d.parameters.length) = some 1 := by decide +kernel
set_option maxRecDepth 100000 in
set_option maxHeartbeats 4000000 in
theorem c_X10_isCreditor (l : Launch) (G : gG) (a : Nat → Nat) (i : Nat → Int32) (j : Nat → Int32) (t : Nat → Int32) (r : Nat → Int32) (n : Nat → Int32) (d : Nat → Int32) (ps : Nat → Int32) (im : Nat → Int32) (kp : Nat → Int32) (tx : Nat → Int32) (cd : Nat → Int32) (bk : Nat → Int32) (py : Nat → Int32) (pt : Nat → Int32) (mt : Nat → Int32) (c : Int32) : mR l yX10_isCreditor wsX10_isCreditor ({ frames := 1, cells := 0, slots := 0, locals := 25 }) G (mW G a i j t r n d ps im kp tx cd bk py pt mt) [.ref (a 0), .int c] (bI (isC t c)) := by
  refine mR.of (cc := cX10_isCreditor) (maxL := 2) (ret := (some .boolean)) (by decide) rfl (Nat.le_of_ble_eq_true rfl) ?_
  intro zp ze zs zm zb zt zc ls C hP hK hl
  obtain ⟨hx, hb, hr, hml, hown, hts, hlk⟩ := id C
  have hl : lv_has ls 2 [(0, .ref (a 0)), (1, .int c)] := hl
  have k0 := hts (.fieldLink RX10 7 "DebtDowryModel" "town" "[I") (by decide +kernel)
  have k1 := (fun w h => by revert w; decide +kernel : ∀ w ∈ wsX100, w ∈ wsX10_isCreditor)
  refine lv_iload_n hx hb dX10_isCreditor_0 rfl (lv_at hl 1 rfl) ?_
  refine lv_i2l (v := c.toInt64) hx hb dX10_isCreditor_1 rfl ?_
  refine lv_lconst (v := 0) hx hb dX10_isCreditor_2 (by decide) ?_
  refine lv_aload_n hx hb dX10_isCreditor_3 rfl (lv_at hl 0 rfl) ?_
  refine va_get (D := G.1) (ci := 10) (v := .ref (a 1)) (C := RX10) (T := TX10) (N := 25) hx hb hts k1 hown hK hP 0 rfl rfl 0 (by decide) k0 (fun _ h9 => h9) rfl dX10_isCreditor_4 ?_
  refine lv_iconst (v := 3) hx hb dX10_isCreditor_7 (by decide) ?_
  refine n_iald hx hb hK hP 1 0 rfl rfl (j := 3) rfl (by decide) (by decide) dX10_isCreditor_8 ?_
  refine lv_iconst (v := 1) hx hb dX10_isCreditor_9 (by decide) ?_
  refine lv_isub hx hb dX10_isCreditor_10 ?_
  refine lv_i2l (v := ((t 3) - 1).toInt64) hx hb dX10_isCreditor_11 rfl ?_
  refine cR_S (n := 3) (As := [.long c.toInt64, .long 0, .long (((t 3) - 1).toInt64)]) (rest := []) C (c_X10_in l G    c c.toInt64 rfl 0 0 rfl ((t 3) - 1) (((t 3) - 1).toInt64) rfl ) gX10_isCreditor_X10_in rfl ⟨rfl, rfl⟩ hd_X10_in ⟨(Nat.le_of_ble_eq_true rfl), (Nat.le_of_ble_eq_true rfl)⟩ hK (hP.sub [] rfl) rfl hl.1 rfl (Nat.le_of_ble_eq_true rfl) dX10_isCreditor_12 ⟨(Nat.le_of_ble_eq_true rfl), (Nat.le_of_ble_eq_true rfl)⟩ ?_
  exact mR_zret C dX10_isCreditor_15 (bI_n _) (rfl)
theorem hd_X10_isPerson : yX10_isPerson.cls = RX10 ∧ yX10_isPerson.cls ≠ "java/lang/invoke/MethodHandle" ∧ yX10_isPerson.cls ≠ "java/lang/invoke/VarHandle" ∧ (parseMethodDescriptor yX10_isPerson.desc).map (fun d => d.parameters.length) = some 1 := by decide +kernel
set_option maxRecDepth 100000 in
set_option maxHeartbeats 4000000 in
theorem c_X10_isPerson (l : Launch) (G : gG) (a : Nat → Nat) (i : Nat → Int32) (j : Nat → Int32) (t : Nat → Int32) (r : Nat → Int32) (n : Nat → Int32) (d : Nat → Int32) (ps : Nat → Int32) (im : Nat → Int32) (kp : Nat → Int32) (tx : Nat → Int32) (cd : Nat → Int32) (bk : Nat → Int32) (py : Nat → Int32) (pt : Nat → Int32) (mt : Nat → Int32) (p : Int32) : mR l yX10_isPerson wsX10_isPerson ({ frames := 1, cells := 0, slots := 0, locals := 25 }) G (mW G a i j t r n d ps im kp tx cd bk py pt mt) [.ref (a 0), .int p] (bI (isP t p)) := by
  refine mR.of (cc := cX10_isPerson) (maxL := 2) (ret := (some .boolean)) (by decide) rfl (Nat.le_of_ble_eq_true rfl) ?_
  intro zp ze zs zm zb zt zc ls C hP hK hl
  obtain ⟨hx, hb, hr, hml, hown, hts, hlk⟩ := id C
  have hl : lv_has ls 2 [(0, .ref (a 0)), (1, .int p)] := hl
  have k0 := hts (.fieldLink RX10 7 "DebtDowryModel" "town" "[I") (by decide +kernel)
  have k1 := (fun w h => by revert w; decide +kernel : ∀ w ∈ wsX100, w ∈ wsX10_isPerson)
  refine lv_iload_n hx hb dX10_isPerson_0 rfl (lv_at hl 1 rfl) ?_
  refine lv_i2l (v := p.toInt64) hx hb dX10_isPerson_1 rfl ?_
  refine lv_lconst (v := 0) hx hb dX10_isPerson_2 (by decide) ?_
  refine lv_aload_n hx hb dX10_isPerson_3 rfl (lv_at hl 0 rfl) ?_
  refine va_get (D := G.1) (ci := 10) (v := .ref (a 1)) (C := RX10) (T := TX10) (N := 25) hx hb hts k1 hown hK hP 0 rfl rfl 0 (by decide) k0 (fun _ h9 => h9) rfl dX10_isPerson_4 ?_
  refine lv_iconst (v := 4) hx hb dX10_isPerson_7 (by decide) ?_
  refine n_iald hx hb hK hP 1 0 rfl rfl (j := 4) rfl (by decide) (by decide) dX10_isPerson_8 ?_
  refine lv_iconst (v := 1) hx hb dX10_isPerson_9 (by decide) ?_
  refine lv_isub hx hb dX10_isPerson_10 ?_
  refine lv_i2l (v := ((t 4) - 1).toInt64) hx hb dX10_isPerson_11 rfl ?_
  refine cR_S (n := 3) (As := [.long p.toInt64, .long 0, .long (((t 4) - 1).toInt64)]) (rest := []) C (c_X10_in l G    p p.toInt64 rfl 0 0 rfl ((t 4) - 1) (((t 4) - 1).toInt64) rfl ) gX10_isPerson_X10_in rfl ⟨rfl, rfl⟩ hd_X10_in ⟨(Nat.le_of_ble_eq_true rfl), (Nat.le_of_ble_eq_true rfl)⟩ hK (hP.sub [] rfl) rfl hl.1 rfl (Nat.le_of_ble_eq_true rfl) dX10_isPerson_12 ⟨(Nat.le_of_ble_eq_true rfl), (Nat.le_of_ble_eq_true rfl)⟩ ?_
  exact mR_zret C dX10_isPerson_15 (bI_n _) (rfl)
theorem hd_X10_isGirl : yX10_isGirl.cls = RX10 ∧ yX10_isGirl.cls ≠ "java/lang/invoke/MethodHandle" ∧ yX10_isGirl.cls ≠ "java/lang/invoke/VarHandle" ∧ (parseMethodDescriptor yX10_isGirl.desc).map (fun d => d.parameters.length) = some 1 := by decide +kernel
set_option maxRecDepth 100000 in
set_option maxHeartbeats 4000000 in
theorem c_X10_isGirl (l : Launch) (G : gG) (a : Nat → Nat) (i : Nat → Int32) (j : Nat → Int32) (t : Nat → Int32) (r : Nat → Int32) (n : Nat → Int32) (d : Nat → Int32) (ps : Nat → Int32) (im : Nat → Int32) (kp : Nat → Int32) (tx : Nat → Int32) (cd : Nat → Int32) (bk : Nat → Int32) (py : Nat → Int32) (pt : Nat → Int32) (mt : Nat → Int32) (p : Int32) : mR l yX10_isGirl wsX10_isGirl ({ frames := 2, cells := 0, slots := 0, locals := 46 }) G (mW G a i j t r n d ps im kp tx cd bk py pt mt) [.ref (a 0), .int p] (bI (isG t p)) := by
  refine mR.of (cc := cX10_isGirl) (maxL := 2) (ret := (some .boolean)) (by decide) rfl (Nat.le_of_ble_eq_true rfl) ?_
  intro zp ze zs zm zb zt zc ls C hP hK hl
  obtain ⟨hx, hb, hr, hml, hown, hts, hlk⟩ := id C
  have hl : lv_has ls 2 [(0, .ref (a 0)), (1, .int p)] := hl
  have k0 := hts (.fieldLink RX10 7 "DebtDowryModel" "town" "[I") (by decide +kernel)
  have k1 := (fun w h => by revert w; decide +kernel : ∀ w ∈ wsX100, w ∈ wsX10_isGirl)
  refine lv_aload_n hx hb dX10_isGirl_0 rfl (lv_at hl 0 rfl) ?_
  refine lv_iload_n hx hb dX10_isGirl_1 rfl (lv_at hl 1 rfl) ?_
  refine cR_V (Cn := RX10) (n := 1) (As := [.int p]) (rest := []) C (c_X10_isPerson l G a i j t r n d ps im kp tx cd bk py pt mt  p ) gX10_isGirl_X10_isPerson rfl ⟨rfl, rfl⟩ hd_X10_isPerson ⟨(Nat.le_of_ble_eq_true rfl), (Nat.le_of_ble_eq_true rfl)⟩ hK hP (va_recv hK hP (ci := 10) (q0 := 0) rfl rfl) rfl hl.1 rfl (Nat.le_of_ble_eq_true rfl) dX10_isGirl_2 ⟨(Nat.le_of_ble_eq_true rfl), (Nat.le_of_ble_eq_true rfl)⟩ ?_
  refine b_if_eq (tgt := 26) hx hb dX10_isGirl_5 (by decide) (fun cq1 => ?_) (fun cq1 => ?_)
  · skip
    refine lv_iconst (v := 0) hx hb dX10_isGirl_26 (by decide) ?_
    exact mR_zret C dX10_isGirl_27 (by decide) ((bI_f (fun h => cq1 h.1)).symm)
  · skip
    refine lv_aload_n hx hb dX10_isGirl_8 rfl (lv_at hl 0 rfl) ?_
    refine va_get (D := G.1) (ci := 10) (v := .ref (a 1)) (C := RX10) (T := TX10) (N := 25) hx hb hts k1 hown hK hP 0 rfl rfl 0 (by decide) k0 (fun _ h9 => h9) rfl dX10_isGirl_9 ?_
    refine lv_bipush (v := 21) hx hb dX10_isGirl_12 (by decide) ?_
    refine n_iald hx hb hK hP 1 0 rfl rfl (j := 21) rfl (by decide) (by decide) dX10_isGirl_14 ?_
    refine lv_iload_n hx hb dX10_isGirl_15 rfl (lv_at hl 1 rfl) ?_
    refine cR_S (n := 2) (As := [.int (t 21), .int p]) (rest := []) C (c_X10_has_r l G    (t 21) p ) gX10_isGirl_X10_has rfl ⟨rfl, rfl⟩ hd_X10_has ⟨(Nat.le_of_ble_eq_true rfl), (Nat.le_of_ble_eq_true rfl)⟩ hK (hP.sub [] rfl) rfl hl.1 rfl (Nat.le_of_ble_eq_true rfl) dX10_isGirl_16 ⟨(Nat.le_of_ble_eq_true rfl), (Nat.le_of_ble_eq_true rfl)⟩ ?_
    refine b_if_eq (tgt := 26) hx hb dX10_isGirl_19 (by decide) (fun cq2 => ?_) (fun cq2 => ?_)
    · skip
      refine lv_iconst (v := 0) hx hb dX10_isGirl_26 (by decide) ?_
      exact mR_zret C dX10_isGirl_27 (by decide) ((bI_f (fun h => cq2 h.2)).symm)
    · skip
      refine lv_iconst (v := 1) hx hb dX10_isGirl_22 (by decide) ?_
      refine lv_goto (tgt := 27) hx hb dX10_isGirl_23 (by decide) ?_
      exact mR_zret C dX10_isGirl_27 (by decide) ((bI_t ⟨cq1, cq2⟩).symm)
theorem hd_X10_isMan : yX10_isMan.cls = RX10 ∧ yX10_isMan.cls ≠ "java/lang/invoke/MethodHandle" ∧ yX10_isMan.cls ≠ "java/lang/invoke/VarHandle" ∧ (parseMethodDescriptor yX10_isMan.desc).map (fun d => d.parameters.length) = some 1 := by decide +kernel
set_option maxRecDepth 100000 in
set_option maxHeartbeats 4000000 in
theorem c_X10_isMan (l : Launch) (G : gG) (a : Nat → Nat) (i : Nat → Int32) (j : Nat → Int32) (t : Nat → Int32) (r : Nat → Int32) (n : Nat → Int32) (d : Nat → Int32) (ps : Nat → Int32) (im : Nat → Int32) (kp : Nat → Int32) (tx : Nat → Int32) (cd : Nat → Int32) (bk : Nat → Int32) (py : Nat → Int32) (pt : Nat → Int32) (mt : Nat → Int32) (p : Int32) : mR l yX10_isMan wsX10_isMan ({ frames := 2, cells := 0, slots := 0, locals := 46 }) G (mW G a i j t r n d ps im kp tx cd bk py pt mt) [.ref (a 0), .int p] (bI (isM t p)) := by
  refine mR.of (cc := cX10_isMan) (maxL := 2) (ret := (some .boolean)) (by decide) rfl (Nat.le_of_ble_eq_true rfl) ?_
  intro zp ze zs zm zb zt zc ls C hP hK hl
  obtain ⟨hx, hb, hr, hml, hown, hts, hlk⟩ := id C
  have hl : lv_has ls 2 [(0, .ref (a 0)), (1, .int p)] := hl
  have k0 := hts (.fieldLink RX10 7 "DebtDowryModel" "town" "[I") (by decide +kernel)
  have k1 := (fun w h => by revert w; decide +kernel : ∀ w ∈ wsX100, w ∈ wsX10_isMan)
  refine lv_aload_n hx hb dX10_isMan_0 rfl (lv_at hl 0 rfl) ?_
  refine lv_iload_n hx hb dX10_isMan_1 rfl (lv_at hl 1 rfl) ?_
  refine cR_V (Cn := RX10) (n := 1) (As := [.int p]) (rest := []) C (c_X10_isPerson l G a i j t r n d ps im kp tx cd bk py pt mt  p ) gX10_isMan_X10_isPerson rfl ⟨rfl, rfl⟩ hd_X10_isPerson ⟨(Nat.le_of_ble_eq_true rfl), (Nat.le_of_ble_eq_true rfl)⟩ hK hP (va_recv hK hP (ci := 10) (q0 := 0) rfl rfl) rfl hl.1 rfl (Nat.le_of_ble_eq_true rfl) dX10_isMan_2 ⟨(Nat.le_of_ble_eq_true rfl), (Nat.le_of_ble_eq_true rfl)⟩ ?_
  refine b_if_eq (tgt := 26) hx hb dX10_isMan_5 (by decide) (fun cq1 => ?_) (fun cq1 => ?_)
  · skip
    refine lv_iconst (v := 0) hx hb dX10_isMan_26 (by decide) ?_
    exact mR_zret C dX10_isMan_27 (by decide) ((bI_f (fun h => cq1 h.1)).symm)
  · skip
    refine lv_aload_n hx hb dX10_isMan_8 rfl (lv_at hl 0 rfl) ?_
    refine va_get (D := G.1) (ci := 10) (v := .ref (a 1)) (C := RX10) (T := TX10) (N := 25) hx hb hts k1 hown hK hP 0 rfl rfl 0 (by decide) k0 (fun _ h9 => h9) rfl dX10_isMan_9 ?_
    refine lv_bipush (v := 21) hx hb dX10_isMan_12 (by decide) ?_
    refine n_iald hx hb hK hP 1 0 rfl rfl (j := 21) rfl (by decide) (by decide) dX10_isMan_14 ?_
    refine lv_iload_n hx hb dX10_isMan_15 rfl (lv_at hl 1 rfl) ?_
    refine cR_S (n := 2) (As := [.int (t 21), .int p]) (rest := []) C (c_X10_has_r l G    (t 21) p ) gX10_isMan_X10_has rfl ⟨rfl, rfl⟩ hd_X10_has ⟨(Nat.le_of_ble_eq_true rfl), (Nat.le_of_ble_eq_true rfl)⟩ hK (hP.sub [] rfl) rfl hl.1 rfl (Nat.le_of_ble_eq_true rfl) dX10_isMan_16 ⟨(Nat.le_of_ble_eq_true rfl), (Nat.le_of_ble_eq_true rfl)⟩ ?_
    refine b_if_ne (tgt := 26) hx hb dX10_isMan_19 (by decide) (fun cq2 => ?_) (fun cq2 => ?_)
    · skip
      refine lv_iconst (v := 0) hx hb dX10_isMan_26 (by decide) ?_
      exact mR_zret C dX10_isMan_27 (by decide) ((bI_f (fun h => h.2 cq2)).symm)
    · skip
      refine lv_iconst (v := 1) hx hb dX10_isMan_22 (by decide) ?_
      refine lv_goto (tgt := 27) hx hb dX10_isMan_23 (by decide) ?_
      exact mR_zret C dX10_isMan_27 (by decide) ((bI_t ⟨cq1, cq2⟩).symm)
theorem hd_X10_sours : yX10_sours.cls = RX10 ∧ yX10_sours.cls ≠ "java/lang/invoke/MethodHandle" ∧ yX10_sours.cls ≠ "java/lang/invoke/VarHandle" ∧ (parseMethodDescriptor yX10_sours.desc).map (fun d => d.parameters.length) = some 1 := by decide +kernel
set_option maxRecDepth 100000 in
set_option maxHeartbeats 4000000 in
theorem c_X10_sours_n (l : Launch) (G : gG) (a : Nat → Nat) (i : Nat → Int32) (j : Nat → Int32) (t : Nat → Int32) (r : Nat → Int32) (n : Nat → Int32) (d : Nat → Int32) (ps : Nat → Int32) (im : Nat → Int32) (kp : Nat → Int32) (tx : Nat → Int32) (cd : Nat → Int32) (bk : Nat → Int32) (py : Nat → Int32) (pt : Nat → Int32) (mt : Nat → Int32) (nc : Nat) (np : Nat) (hT : tw t nc np) : mR l yX10_sours wsX10_sours ({ frames := 2, cells := 0, slots := 0, locals := 45 }) G (mW G a i j t r n d ps im kp tx cd bk py pt mt) [.ref (a 0), .ref (a 3)] (soursU t n np nc) := by
  refine mR.of (cc := cX10_sours) (maxL := 6) (ret := (some .int)) (by decide) rfl (Nat.le_of_ble_eq_true rfl) ?_
  intro zp ze zs zm zb zt zc ls C hP hK hl
  obtain ⟨hx, hb, hr, hml, hown, hts, hlk⟩ := id C
  have hl : lv_has ls 6 [(0, .ref (a 0)), (1, .ref (a 3))] := hl
  have hT2 := hT.2.2
  have k0 := hts (.fieldLink RX10 7 "DebtDowryModel" "town" "[I") (by decide +kernel)
  have k1 := (fun w h => by revert w; decide +kernel : ∀ w ∈ wsX100, w ∈ wsX10_sours)
  refine lv_iconst (v := 0) hx hb dX10_sours_0 (by decide) ?_
  refine lv_istore_n (lv' := [(2, .int 0), (0, .ref (a 0)), (1, .ref (a 3))]) hx hb dX10_sours_1 rfl hl (by decide) rfl (fun ls hl => ?_)
  refine lv_iconst (v := 0) hx hb dX10_sours_2 (by decide) ?_
  refine lv_istore_n (lv' := [(3, .int 0), (2, .int 0), (0, .ref (a 0)), (1, .ref (a 3))]) hx hb dX10_sours_3 rfl hl (by decide) rfl (fun ls hl => ?_)
  refine wl_R (B := nc) (i0 := 0) (Inv := fun i1 ls => lv_has ls 6 [(0, .ref (a 0)), (1, .ref (a 3)), (2, .int (soursU t n np i1)), (3, .int (nI i1))] ∧ True) (by omega) ⟨lv_sub hl [2, 3, 1, 0] (rfl), trivial⟩ ?_
  rintro i1 ls hle4 ⟨hl, -⟩ ih4
  refine lv_iload_n hx hb dX10_sours_4 rfl (lv_at hl 3 rfl) ?_
  refine lv_aload_n hx hb dX10_sours_5 rfl (lv_at hl 0 rfl) ?_
  refine va_get (D := G.1) (ci := 10) (v := .ref (a 1)) (C := RX10) (T := TX10) (N := 25) hx hb hts k1 hown hK hP 0 rfl rfl 0 (by decide) k0 (fun _ h9 => h9) rfl dX10_sours_6 ?_
  refine lv_iconst (v := 3) hx hb dX10_sours_9 (by decide) ?_
  refine n_iald hx hb hK hP 1 0 rfl rfl (j := 3) rfl (by decide) (by decide) dX10_sours_10 ?_
  refine n_icmp_ge (tgt := 106) hx hb dX10_sours_11 (by decide) (u := i1) (v := nc) rfl hT.1 (by omega) (by omega) (fun cq1 => ?_) (fun cq1 => ?_)
  · skip
    obtain rfl : nc = i1 := by omega
    refine lv_iload_n hx hb dX10_sours_106 rfl (lv_at hl 2 rfl) ?_
    exact mR_iret C dX10_sours_107 (rfl)
  · skip
    refine lv_iconst (v := 0) hx hb dX10_sours_14 (by decide) ?_
    refine lv_istore (lv' := [(4, .int 0), (0, .ref (a 0)), (1, .ref (a 3)), (2, .int (soursU t n np i1)), (3, .int (nI i1))]) hx hb dX10_sours_15 hl (by decide) rfl (fun ls hl => ?_)
    refine lv_iconst (v := 0) hx hb dX10_sours_17 (by decide) ?_
    refine lv_istore (lv' := [(5, .int 0), (4, .int 0), (0, .ref (a 0)), (1, .ref (a 3)), (2, .int (soursU t n np i1)), (3, .int (nI i1))]) hx hb dX10_sours_18 hl (by decide) rfl (fun ls hl => ?_)
    refine wl_R (B := np) (i0 := 0) (Inv := fun i2 ls => lv_has ls 6 [(0, .ref (a 0)), (1, .ref (a 3)), (2, .int (soursU t n np i1)), (3, .int (nI i1)), (4, .int (sourU t n i1 i2)), (5, .int (nI i2))] ∧ True) (by omega) ⟨lv_sub hl [2, 3, 4, 5, 1, 0] (rfl), trivial⟩ ?_
    rintro i2 ls hle20 ⟨hl, -⟩ ih20
    refine lv_iload hx hb dX10_sours_20 (lv_at hl 5 rfl) ?_
    refine lv_aload_n hx hb dX10_sours_22 rfl (lv_at hl 0 rfl) ?_
    refine va_get (D := G.1) (ci := 10) (v := .ref (a 1)) (C := RX10) (T := TX10) (N := 25) hx hb hts k1 hown hK hP 0 rfl rfl 0 (by decide) k0 (fun _ h9 => h9) rfl dX10_sours_23 ?_
    refine lv_iconst (v := 4) hx hb dX10_sours_26 (by decide) ?_
    refine n_iald hx hb hK hP 1 0 rfl rfl (j := 4) rfl (by decide) (by decide) dX10_sours_27 ?_
    refine n_icmp_ge (tgt := 68) hx hb dX10_sours_28 (by decide) (u := i2) (v := np) rfl hT.2.1 (by omega) (by omega) (fun cq2 => ?_) (fun cq2 => ?_)
    · skip
      obtain rfl : np = i2 := by omega
      refine lv_iload_n hx hb dX10_sours_68 rfl (lv_at hl 2 rfl) ?_
      refine lv_aload_n hx hb dX10_sours_69 rfl (lv_at hl 1 rfl) ?_
      refine lv_bipush (v := 52) hx hb dX10_sours_70 (by decide) ?_
      refine n_iald hx hb hK hP 3 0 rfl rfl (j := 52) rfl (by decide) (by decide) dX10_sours_72 ?_
      refine lv_iload_n hx hb dX10_sours_73 rfl (lv_at hl 3 rfl) ?_
      refine cR_S (n := 2) (As := [.int (n 52), .int (nI i1)]) (rest := [.int (soursU t n np i1)]) C (c_X10_has l G    (n 52) i1 ) gX10_sours_X10_has rfl ⟨rfl, rfl⟩ hd_X10_has ⟨(Nat.le_of_ble_eq_true rfl), (Nat.le_of_ble_eq_true rfl)⟩ hK (hP.sub [] rfl) rfl hl.1 rfl (Nat.le_of_ble_eq_true rfl) dX10_sours_74 ⟨(Nat.le_of_ble_eq_true rfl), (Nat.le_of_ble_eq_true rfl)⟩ ?_
      refine b_if_ne (tgt := 97) hx hb dX10_sours_77 (by decide) (fun cq3 => ?_) (fun cq3 => ?_)
      · skip
        refine lv_iconst (v := 0) hx hb dX10_sours_97 (by decide) ?_
        refine lv_ior hx hb dX10_sours_98 ?_
        refine lv_istore_n (lv' := [(2, .int ((soursU t n np i1) ||| 0)), (0, .ref (a 0)), (1, .ref (a 3)), (3, .int (nI i1)), (4, .int (sourU t n i1 np)), (5, .int (nI np))]) hx hb dX10_sours_99 rfl hl (by decide) rfl (fun ls hl => ?_)
        refine lv_iinc (v := nI (i1 + 1)) (lv' := [(3, .int (nI (i1 + 1))), (2, .int ((soursU t n np i1) ||| 0)), (0, .ref (a 0)), (1, .ref (a 3)), (4, .int (sourU t n i1 np)), (5, .int (nI np))]) hx hb dX10_sours_100 hl (k := 3) rfl (by rw [show (nI i1 : Int32) = nI i1 from rfl]; exact nI_add _ 1) (by decide) rfl (fun ls hl => ?_)
        refine lv_goto (tgt := 4) hx hb dX10_sours_103 (by decide) ?_
        have e4 : (soursU t n np i1) ||| 0 = soursU t n np (i1 + 1) := by first | exact setU_t (by simp only [failP]; simp [cq1, cq2, cq3]) | exact setU_f (by simp only [failP]; simp [cq1, cq2, cq3])
        exact ih4 _ (by omega) ⟨lv_sub hl [2, 3, 1, 0] (by rw [← e4]; rfl), trivial⟩
      · skip
        refine lv_iload hx hb dX10_sours_80 (lv_at hl 4 rfl) ?_
        refine lv_aload_n hx hb dX10_sours_82 rfl (lv_at hl 1 rfl) ?_
        refine lv_bipush (v := 32) hx hb dX10_sours_83 (by decide) ?_
        refine lv_iload_n hx hb dX10_sours_85 rfl (lv_at hl 3 rfl) ?_
        refine n_iadd hx hb dX10_sours_86 (u := 32) (v := i1) rfl rfl (j := 32 + i1) (by omega) ?_
        refine n_iald hx hb hK hP 3 0 rfl rfl (j := 32 + i1) rfl (by omega) (by decide) dX10_sours_87 ?_
        refine lv_icmp_le (tgt := 97) hx hb dX10_sours_88 (by decide) (fun cq5 => ?_) (fun cq5 => ?_)
        · skip
          refine lv_iconst (v := 0) hx hb dX10_sours_97 (by decide) ?_
          refine lv_ior hx hb dX10_sours_98 ?_
          refine lv_istore_n (lv' := [(2, .int ((soursU t n np i1) ||| 0)), (0, .ref (a 0)), (1, .ref (a 3)), (3, .int (nI i1)), (4, .int (sourU t n i1 np)), (5, .int (nI np))]) hx hb dX10_sours_99 rfl hl (by decide) rfl (fun ls hl => ?_)
          refine lv_iinc (v := nI (i1 + 1)) (lv' := [(3, .int (nI (i1 + 1))), (2, .int ((soursU t n np i1) ||| 0)), (0, .ref (a 0)), (1, .ref (a 3)), (4, .int (sourU t n i1 np)), (5, .int (nI np))]) hx hb dX10_sours_100 hl (k := 3) rfl (by rw [show (nI i1 : Int32) = nI i1 from rfl]; exact nI_add _ 1) (by decide) rfl (fun ls hl => ?_)
          refine lv_goto (tgt := 4) hx hb dX10_sours_103 (by decide) ?_
          have e6 : (soursU t n np i1) ||| 0 = soursU t n np (i1 + 1) := by first | exact setU_t (by simp only [failP]; simp [cq1, cq2, cq3, cq5, (i32_nlt.mpr cq5)]) | exact setU_f (by simp only [failP]; simp [cq1, cq2, cq3, cq5, (i32_nlt.mpr cq5)])
          exact ih4 _ (by omega) ⟨lv_sub hl [2, 3, 1, 0] (by rw [← e6]; rfl), trivial⟩
        · skip
          refine lv_iconst (v := 1) hx hb dX10_sours_91 (by decide) ?_
          refine lv_iload_n hx hb dX10_sours_92 rfl (lv_at hl 3 rfl) ?_
          refine lv_ishl hx hb dX10_sours_93 ?_
          refine lv_goto (tgt := 98) hx hb dX10_sours_94 (by decide) ?_
          refine lv_ior hx hb dX10_sours_98 ?_
          refine lv_istore_n (lv' := [(2, .int ((soursU t n np i1) ||| (1 <<< ((nI i1) &&& 31)))), (0, .ref (a 0)), (1, .ref (a 3)), (3, .int (nI i1)), (4, .int (sourU t n i1 np)), (5, .int (nI np))]) hx hb dX10_sours_99 rfl hl (by decide) rfl (fun ls hl => ?_)
          refine lv_iinc (v := nI (i1 + 1)) (lv' := [(3, .int (nI (i1 + 1))), (2, .int ((soursU t n np i1) ||| (1 <<< ((nI i1) &&& 31)))), (0, .ref (a 0)), (1, .ref (a 3)), (4, .int (sourU t n i1 np)), (5, .int (nI np))]) hx hb dX10_sours_100 hl (k := 3) rfl (by rw [show (nI i1 : Int32) = nI i1 from rfl]; exact nI_add _ 1) (by decide) rfl (fun ls hl => ?_)
          refine lv_goto (tgt := 4) hx hb dX10_sours_103 (by decide) ?_
          have e7 : (soursU t n np i1) ||| (1 <<< ((nI i1) &&& 31)) = soursU t n np (i1 + 1) := by first | exact setU_t (by simp only [failP]; simp [cq1, cq2, cq3, cq5, (i32_nle.mp cq5)]) | exact setU_f (by simp only [failP]; simp [cq1, cq2, cq3, cq5, (i32_nle.mp cq5)])
          exact ih4 _ (by omega) ⟨lv_sub hl [2, 3, 1, 0] (by rw [← e7]; rfl), trivial⟩
    · skip
      refine lv_iload hx hb dX10_sours_31 (lv_at hl 4 rfl) ?_
      refine lv_aload_n hx hb dX10_sours_33 rfl (lv_at hl 0 rfl) ?_
      refine lv_aload_n hx hb dX10_sours_34 rfl (lv_at hl 1 rfl) ?_
      refine lv_iload hx hb dX10_sours_35 (lv_at hl 5 rfl) ?_
      refine lv_iload_n hx hb dX10_sours_37 rfl (lv_at hl 3 rfl) ?_
      refine cR_V (Cn := RX10) (n := 3) (As := [.ref (a 3), .int (nI i2), .int (nI i1)]) (rest := [.int (sourU t n i1 i2)]) C (c_X10_temperOf_n l G a i j t r n d ps im kp tx cd bk py pt mt  i2 i1 (by omega) (by omega)) gX10_sours_X10_temperOf rfl ⟨rfl, rfl⟩ hd_X10_temperOf ⟨(Nat.le_of_ble_eq_true rfl), (Nat.le_of_ble_eq_true rfl)⟩ hK hP (va_recv hK hP (ci := 10) (q0 := 0) rfl rfl) rfl hl.1 rfl (Nat.le_of_ble_eq_true rfl) dX10_sours_38 ⟨(Nat.le_of_ble_eq_true rfl), (Nat.le_of_ble_eq_true rfl)⟩ ?_
      refine lv_iconst (v := 2) hx hb dX10_sours_41 (by decide) ?_
      refine lv_icmp_ne (tgt := 58) hx hb dX10_sours_42 (by decide) (fun cq8 => ?_) (fun cq8 => ?_)
      · skip
        refine lv_iconst (v := 0) hx hb dX10_sours_58 (by decide) ?_
        refine lv_iadd hx hb dX10_sours_59 ?_
        refine lv_istore (lv' := [(4, .int ((sourU t n i1 i2) + 0)), (0, .ref (a 0)), (1, .ref (a 3)), (2, .int (soursU t n np i1)), (3, .int (nI i1)), (5, .int (nI i2))]) hx hb dX10_sours_60 hl (by decide) rfl (fun ls hl => ?_)
        refine lv_iinc (v := nI (i2 + 1)) (lv' := [(5, .int (nI (i2 + 1))), (4, .int ((sourU t n i1 i2) + 0)), (0, .ref (a 0)), (1, .ref (a 3)), (2, .int (soursU t n np i1)), (3, .int (nI i1))]) hx hb dX10_sours_62 hl (k := 5) rfl (by rw [show (nI i2 : Int32) = nI i2 from rfl]; exact nI_add _ 1) (by decide) rfl (fun ls hl => ?_)
        refine lv_goto (tgt := 20) hx hb dX10_sours_65 (by decide) ?_
        have e9 : (sourU t n i1 i2) + 0 = sourU t n i1 (i2 + 1) := by show _ = sumU _ _ + ite _ _ _; simp [sourU, cq1, cq2, cq8]
        exact ih20 _ (by omega) ⟨lv_sub hl [2, 3, 4, 5, 1, 0] (by rw [← e9]; rfl), trivial⟩
      · skip
        refine lv_aload_n hx hb dX10_sours_45 rfl (lv_at hl 1 rfl) ?_
        refine lv_iconst (v := 0) hx hb dX10_sours_46 (by decide) ?_
        refine lv_iconst (v := 4) hx hb dX10_sours_47 (by decide) ?_
        refine lv_iload hx hb dX10_sours_48 (lv_at hl 5 rfl) ?_
        refine n_imul hx hb dX10_sours_50 (u := 4) (v := i2) rfl rfl (j := 4 * i2) (by omega) ?_
        refine n_iadd hx hb dX10_sours_51 (u := 0) (v := 4 * i2) rfl rfl (j := 4 * i2) (by omega) ?_
        refine lv_iload_n hx hb dX10_sours_52 rfl (lv_at hl 3 rfl) ?_
        refine n_iadd hx hb dX10_sours_53 (u := 4 * i2) (v := i1) rfl rfl (j := (4 * i2) + i1) (by omega) ?_
        refine n_iald hx hb hK hP 3 0 rfl rfl (j := (4 * i2) + i1) rfl (by omega) (by decide) dX10_sours_54 ?_
        refine lv_goto (tgt := 59) hx hb dX10_sours_55 (by decide) ?_
        refine lv_iadd hx hb dX10_sours_59 ?_
        refine lv_istore (lv' := [(4, .int ((sourU t n i1 i2) + (n ((4 * i2) + i1)))), (0, .ref (a 0)), (1, .ref (a 3)), (2, .int (soursU t n np i1)), (3, .int (nI i1)), (5, .int (nI i2))]) hx hb dX10_sours_60 hl (by decide) rfl (fun ls hl => ?_)
        refine lv_iinc (v := nI (i2 + 1)) (lv' := [(5, .int (nI (i2 + 1))), (4, .int ((sourU t n i1 i2) + (n ((4 * i2) + i1)))), (0, .ref (a 0)), (1, .ref (a 3)), (2, .int (soursU t n np i1)), (3, .int (nI i1))]) hx hb dX10_sours_62 hl (k := 5) rfl (by rw [show (nI i2 : Int32) = nI i2 from rfl]; exact nI_add _ 1) (by decide) rfl (fun ls hl => ?_)
        refine lv_goto (tgt := 20) hx hb dX10_sours_65 (by decide) ?_
        have e10 : (sourU t n i1 i2) + (n ((4 * i2) + i1)) = sourU t n i1 (i2 + 1) := by show _ = sumU _ _ + ite _ _ _; simp [sourU, cq1, cq2, cq8]
        exact ih20 _ (by omega) ⟨lv_sub hl [2, 3, 4, 5, 1, 0] (by rw [← e10]; rfl), trivial⟩
theorem hd_X10_quarterGoes : yX10_quarterGoes.cls = RX10 ∧ yX10_quarterGoes.cls ≠ "java/lang/invoke/MethodHandle" ∧ yX10_quarterGoes.cls ≠ "java/lang/invoke/VarHandle" ∧ (parseMethodDescriptor yX10_quarterGoes.desc).map (fun d => d.parameters.length) = some 1 := by decide +kernel
set_option maxRecDepth 100000 in
set_option maxHeartbeats 4000000 in
theorem c_X10_quarterGoes_n (l : Launch) (G : gG) (a : Nat → Nat) (i : Nat → Int32) (j : Nat → Int32) (t : Nat → Int32) (r : Nat → Int32) (n : Nat → Int32) (d : Nat → Int32) (ps : Nat → Int32) (im : Nat → Int32) (kp : Nat → Int32) (tx : Nat → Int32) (cd : Nat → Int32) (bk : Nat → Int32) (py : Nat → Int32) (pt : Nat → Int32) (mt : Nat → Int32) (nc : Nat) (np : Nat) (hT : tw t nc np) : mX l yX10_quarterGoes wsX10_quarterGoes ({ frames := 3, cells := 0, slots := 0, locals := 70 }) G (mW G a i j t r n d ps im kp tx cd bk py pt mt) (mW G a i j t r (qgF t n nc np) d ps im kp tx cd bk py pt mt) [.ref (a 0), .ref (a 3)] (.returned none) := by
  refine mX.of (cc := cX10_quarterGoes) (maxL := 3) (ret := none) (by decide) rfl (Nat.le_of_ble_eq_true rfl) ?_
  intro zp ze zs zm zb zt zc ls A hAe C hP hK hD hS hl
  obtain ⟨hx, hb, hr, hml, hown, hts, hlk⟩ := id C
  have hl : lv_has ls 3 [(0, .ref (a 0)), (1, .ref (a 3))] := hl
  have hT2 := hT.2.2
  refine lv_iconst (v := 0) hx hb dX10_quarterGoes_0 (by decide) ?_
  refine lv_istore_n (lv' := [(2, .int 0), (0, .ref (a 0)), (1, .ref (a 3))]) hx hb dX10_quarterGoes_1 rfl hl (by decide) rfl (fun ls hl => ?_)
  refine wl_X (B := 32) (i0 := 0) (Inv := fun i1 H locs ls => va_P G.1 vwCl (mW G a i j t r (upto n (fun k => growI (n k) (t 1)) i1) d ps im kp tx cd bk py pt mt) H ∧ va_D A (mW G a i j t r (upto n (fun k => growI (n k) (t 1)) i1) d ps im kp tx cd bk py pt mt) ∧ va_S A zs.heap H locs ∧ lv_has ls 3 [(0, .ref (a 0)), (1, .ref (a 3)), (2, .int (nI i1))] ∧ True) (by omega) ⟨by rw [upto_0]; exact hP, by rw [upto_0]; exact hD, hS, lv_sub hl [1, 2, 0] (rfl), trivial⟩ ?_
  rintro i1 H locs ls hle2 ⟨hP, hD, hS, hl, -⟩ ih2
  refine lv_iload_n hx hb dX10_quarterGoes_2 rfl (lv_at hl 2 rfl) ?_
  refine lv_bipush (v := 32) hx hb dX10_quarterGoes_3 (by decide) ?_
  refine n_icmp_ge (tgt := 28) hx hb dX10_quarterGoes_5 (by decide) (u := i1) (v := 32) rfl rfl (by omega) (by omega) (fun cq1 => ?_) (fun cq1 => ?_)
  · skip
    obtain rfl : i1 = 32 := by omega
    have hP : va_P G.1 vwCl (mW G a i j t r (qg1 t n) d ps im kp tx cd bk py pt mt) H := hP
    have hD : va_D A (mW G a i j t r (qg1 t n) d ps im kp tx cd bk py pt mt) := hD
    refine lv_iconst (v := 0) hx hb dX10_quarterGoes_28 (by decide) ?_
    refine lv_istore_n (lv' := [(2, .int 0), (0, .ref (a 0)), (1, .ref (a 3))]) hx hb dX10_quarterGoes_29 rfl hl (by decide) rfl (fun ls hl => ?_)
    refine wl_X (B := 8) (i0 := 0) (Inv := fun i2 H locs ls => va_P G.1 vwCl (mW G a i j t r (rng (qg1 t n) (fun _ => 0) 36 (36 + i2)) d ps im kp tx cd bk py pt mt) H ∧ va_D A (mW G a i j t r (rng (qg1 t n) (fun _ => 0) 36 (36 + i2)) d ps im kp tx cd bk py pt mt) ∧ va_S A zs.heap H locs ∧ lv_has ls 3 [(0, .ref (a 0)), (1, .ref (a 3)), (2, .int (nI i2))] ∧ True) (by omega) ⟨by rw [rng_0]; exact hP, by rw [rng_0]; exact hD, hS, lv_sub hl [1, 2, 0] (rfl), trivial⟩ ?_
    rintro i2 H locs ls hle30 ⟨hP, hD, hS, hl, -⟩ ih30
    refine lv_iload_n hx hb dX10_quarterGoes_30 rfl (lv_at hl 2 rfl) ?_
    refine lv_bipush (v := 8) hx hb dX10_quarterGoes_31 (by decide) ?_
    refine n_icmp_ge (tgt := 49) hx hb dX10_quarterGoes_33 (by decide) (u := i2) (v := 8) rfl rfl (by omega) (by omega) (fun cq2 => ?_) (fun cq2 => ?_)
    · skip
      obtain rfl : i2 = 8 := by omega
      have hP : va_P G.1 vwCl (mW G a i j t r (qg2 t n) d ps im kp tx cd bk py pt mt) H := hP
      have hD : va_D A (mW G a i j t r (qg2 t n) d ps im kp tx cd bk py pt mt) := hD
      refine lv_aload_n hx hb dX10_quarterGoes_49 rfl (lv_at hl 1 rfl) ?_
      refine lv_bipush (v := 52) hx hb dX10_quarterGoes_50 (by decide) ?_
      refine lv_dup2_11 hx hb dX10_quarterGoes_52 rfl rfl ?_
      refine n_iald hx hb hK hP 3 0 rfl rfl (j := 52) rfl (by decide) (by decide) dX10_quarterGoes_53 ?_
      refine lv_aload_n hx hb dX10_quarterGoes_54 rfl (lv_at hl 0 rfl) ?_
      refine lv_aload_n hx hb dX10_quarterGoes_55 rfl (lv_at hl 1 rfl) ?_
      refine cR_V (Cn := RX10) (n := 1) (As := [.ref (a 3)]) (rest := [.int ((qg2 t n) 52), .int 52, .ref (a 3)]) C (c_X10_sours_n l G a i j t r (qg2 t n) d ps im kp tx cd bk py pt mt nc np  hT) gX10_quarterGoes_X10_sours rfl ⟨rfl, rfl⟩ hd_X10_sours ⟨(Nat.le_of_ble_eq_true rfl), (Nat.le_of_ble_eq_true rfl)⟩ hK hP (va_recv hK hP (ci := 10) (q0 := 0) rfl rfl) rfl hl.1 rfl (Nat.le_of_ble_eq_true rfl) dX10_quarterGoes_56 ⟨(Nat.le_of_ble_eq_true rfl), (Nat.le_of_ble_eq_true rfl)⟩ ?_
      refine lv_ior hx hb dX10_quarterGoes_59 ?_
      refine n_iast hx hb hK hP hD hS 3 0 rfl rfl (x := (((qg2 t n) 52) ||| (soursU t (qg2 t n) np nc))) (j := 52) rfl (by decide) (by decide) dX10_quarterGoes_60 (wsn := mW G a i j t r (upd (qg2 t n) 52 (((qg2 t n) 52) ||| (soursU t (qg2 t n) np nc))) d ps im kp tx cd bk py pt mt) rfl (fun H locs hP hD hS => ?_)
      have hP : va_P G.1 vwCl (mW G a i j t r (qg3 t n nc np) d ps im kp tx cd bk py pt mt) H := hP
      have hD : va_D A (mW G a i j t r (qg3 t n nc np) d ps im kp tx cd bk py pt mt) := hD
      refine lv_iconst (v := 0) hx hb dX10_quarterGoes_61 (by decide) ?_
      refine lv_istore_n (lv' := [(2, .int 0), (0, .ref (a 0)), (1, .ref (a 3))]) hx hb dX10_quarterGoes_62 rfl hl (by decide) rfl (fun ls hl => ?_)
      refine wl_X (B := 32) (i0 := 0) (Inv := fun i3 H locs ls => va_P G.1 vwCl (mW G a i j t r (upto (qg3 t n nc np) (fun k => if hasB (qg3 t n nc np 52) (k % 4) then 0 else qg3 t n nc np k) i3) d ps im kp tx cd bk py pt mt) H ∧ va_D A (mW G a i j t r (upto (qg3 t n nc np) (fun k => if hasB (qg3 t n nc np 52) (k % 4) then 0 else qg3 t n nc np k) i3) d ps im kp tx cd bk py pt mt) ∧ va_S A zs.heap H locs ∧ lv_has ls 3 [(0, .ref (a 0)), (1, .ref (a 3)), (2, .int (nI i3))] ∧ True) (by omega) ⟨by rw [upto_0]; exact hP, by rw [upto_0]; exact hD, hS, lv_sub hl [1, 2, 0] (rfl), trivial⟩ ?_
      rintro i3 H locs ls hle63 ⟨hP, hD, hS, hl, -⟩ ih63
      have h52 : upto (qg3 t n nc np) (fun k => if hasB (qg3 t n nc np 52) (k % 4) then 0 else qg3 t n nc np k) i3 52 = qg3 t n nc np 52 := upto_at _ _ (by omega)
      refine lv_iload_n hx hb dX10_quarterGoes_63 rfl (lv_at hl 2 rfl) ?_
      refine lv_bipush (v := 32) hx hb dX10_quarterGoes_64 (by decide) ?_
      refine n_icmp_ge (tgt := 102) hx hb dX10_quarterGoes_66 (by decide) (u := i3) (v := 32) rfl rfl (by omega) (by omega) (fun cq3 => ?_) (fun cq3 => ?_)
      · skip
        obtain rfl : i3 = 32 := by omega
        have hP : va_P G.1 vwCl (mW G a i j t r (qg4 t n nc np) d ps im kp tx cd bk py pt mt) H := hP
        have hD : va_D A (mW G a i j t r (qg4 t n nc np) d ps im kp tx cd bk py pt mt) := hD
        refine lv_aload_n hx hb dX10_quarterGoes_102 rfl (lv_at hl 1 rfl) ?_
        refine lv_bipush (v := 53) hx hb dX10_quarterGoes_103 (by decide) ?_
        refine lv_dup2_11 hx hb dX10_quarterGoes_105 rfl rfl ?_
        refine n_iald hx hb hK hP 3 0 rfl rfl (j := 53) rfl (by decide) (by decide) dX10_quarterGoes_106 ?_
        refine lv_iconst (v := 1) hx hb dX10_quarterGoes_107 (by decide) ?_
        refine lv_iadd hx hb dX10_quarterGoes_108 ?_
        refine n_iast hx hb hK hP hD hS 3 0 rfl rfl (x := (((qg4 t n nc np) 53) + 1)) (j := 53) rfl (by decide) (by decide) dX10_quarterGoes_109 (wsn := mW G a i j t r (upd (qg4 t n nc np) 53 (((qg4 t n nc np) 53) + 1)) d ps im kp tx cd bk py pt mt) rfl (fun H locs hP hD hS => ?_)
        have hP : va_P G.1 vwCl (mW G a i j t r (qgF t n nc np) d ps im kp tx cd bk py pt mt) H := by rw [show (qgF t n nc np) = (upd (qg4 t n nc np) 53 (((qg4 t n nc np) 53) + 1)) from rfl]; exact hP
        exact mX_vret hAe C hP hS dX10_quarterGoes_110
      · skip
        refine lv_aload_n hx hb dX10_quarterGoes_69 rfl (lv_at hl 1 rfl) ?_
        refine lv_iconst (v := 0) hx hb dX10_quarterGoes_70 (by decide) ?_
        refine lv_iload_n hx hb dX10_quarterGoes_71 rfl (lv_at hl 2 rfl) ?_
        refine n_iadd hx hb dX10_quarterGoes_72 (u := 0) (v := i3) rfl rfl (j := i3) (by omega) ?_
        refine lv_aload_n hx hb dX10_quarterGoes_73 rfl (lv_at hl 1 rfl) ?_
        refine lv_bipush (v := 52) hx hb dX10_quarterGoes_74 (by decide) ?_
        refine n_iald hx hb hK hP 3 0 rfl rfl (j := 52) rfl (by decide) (by decide) dX10_quarterGoes_76 ?_
        refine lv_iload_n hx hb dX10_quarterGoes_77 rfl (lv_at hl 2 rfl) ?_
        refine lv_iconst (v := 4) hx hb dX10_quarterGoes_78 (by decide) ?_
        refine n_irem hx hb dX10_quarterGoes_79 (u := i3) (v := 4) rfl rfl (by omega) (by omega) (by omega) ?_
        refine cR_S (n := 2) (As := [.int ((upto (qg3 t n nc np) (fun k => if hasB (qg3 t n nc np 52) (k % 4) then 0 else qg3 t n nc np k) i3) 52), .int (nI (i3 % 4))]) (rest := [.int (nI i3), .ref (a 3)]) C (c_X10_has l G    ((upto (qg3 t n nc np) (fun k => if hasB (qg3 t n nc np 52) (k % 4) then 0 else qg3 t n nc np k) i3) 52) (i3 % 4) ) gX10_quarterGoes_X10_has rfl ⟨rfl, rfl⟩ hd_X10_has ⟨(Nat.le_of_ble_eq_true rfl), (Nat.le_of_ble_eq_true rfl)⟩ hK (hP.sub [] rfl) rfl hl.1 rfl (Nat.le_of_ble_eq_true rfl) dX10_quarterGoes_80 ⟨(Nat.le_of_ble_eq_true rfl), (Nat.le_of_ble_eq_true rfl)⟩ ?_
        refine b_if_eq (tgt := 90) hx hb dX10_quarterGoes_83 (by decide) (fun cq4 => ?_) (fun cq4 => ?_)
        · skip
          have QQ := cq4
          refine lv_aload_n hx hb dX10_quarterGoes_90 rfl (lv_at hl 1 rfl) ?_
          refine lv_iconst (v := 0) hx hb dX10_quarterGoes_91 (by decide) ?_
          refine lv_iload_n hx hb dX10_quarterGoes_92 rfl (lv_at hl 2 rfl) ?_
          refine n_iadd hx hb dX10_quarterGoes_93 (u := 0) (v := i3) rfl rfl (j := i3) (by omega) ?_
          refine n_iald hx hb hK hP 3 0 rfl rfl (j := i3) rfl (by omega) (by decide) dX10_quarterGoes_94 ?_
          refine n_iast hx hb hK hP hD hS 3 0 rfl rfl (x := ((upto (qg3 t n nc np) (fun k => if hasB (qg3 t n nc np 52) (k % 4) then 0 else qg3 t n nc np k) i3) i3)) (j := i3) rfl (by omega) (by decide) dX10_quarterGoes_95 (wsn := mW G a i j t r (upd (upto (qg3 t n nc np) (fun k => if hasB (qg3 t n nc np 52) (k % 4) then 0 else qg3 t n nc np k) i3) i3 ((upto (qg3 t n nc np) (fun k => if hasB (qg3 t n nc np 52) (k % 4) then 0 else qg3 t n nc np k) i3) i3)) d ps im kp tx cd bk py pt mt) rfl (fun H locs hP hD hS => ?_)
          refine lv_iinc (v := nI (i3 + 1)) (lv' := [(2, .int (nI (i3 + 1))), (0, .ref (a 0)), (1, .ref (a 3))]) hx hb dX10_quarterGoes_96 hl (k := 2) rfl (by rw [show (nI i3 : Int32) = nI i3 from rfl]; exact nI_add _ 1) (by decide) rfl (fun ls hl => ?_)
          refine lv_goto (tgt := 63) hx hb dX10_quarterGoes_99 (by decide) ?_
          have e5 : (upd (upto (qg3 t n nc np) (fun k => if hasB (qg3 t n nc np 52) (k % 4) then 0 else qg3 t n nc np k) i3) i3 ((upto (qg3 t n nc np) (fun k => if hasB (qg3 t n nc np 52) (k % 4) then 0 else qg3 t n nc np k) i3) i3)) = upto (qg3 t n nc np) (fun k => if hasB (qg3 t n nc np 52) (k % 4) then 0 else qg3 t n nc np k) (i3 + 1) := upto_v (by rw [h52] at QQ; first | exact (if_pos QQ).symm | (rw [upto_at _ _ (Nat.le_refl _)]; exact (if_neg QQ).symm))
          rw [e5] at hP hD
          exact ih63 _ _ _ (by omega) ⟨hP, hD, hS, lv_sub hl [1, 2, 0] (rfl), trivial⟩
        · skip
          have QQ := cq4
          refine lv_iconst (v := 0) hx hb dX10_quarterGoes_86 (by decide) ?_
          refine lv_goto (tgt := 95) hx hb dX10_quarterGoes_87 (by decide) ?_
          refine n_iast hx hb hK hP hD hS 3 0 rfl rfl (x := 0) (j := i3) rfl (by omega) (by decide) dX10_quarterGoes_95 (wsn := mW G a i j t r (upd (upto (qg3 t n nc np) (fun k => if hasB (qg3 t n nc np 52) (k % 4) then 0 else qg3 t n nc np k) i3) i3 0) d ps im kp tx cd bk py pt mt) rfl (fun H locs hP hD hS => ?_)
          refine lv_iinc (v := nI (i3 + 1)) (lv' := [(2, .int (nI (i3 + 1))), (0, .ref (a 0)), (1, .ref (a 3))]) hx hb dX10_quarterGoes_96 hl (k := 2) rfl (by rw [show (nI i3 : Int32) = nI i3 from rfl]; exact nI_add _ 1) (by decide) rfl (fun ls hl => ?_)
          refine lv_goto (tgt := 63) hx hb dX10_quarterGoes_99 (by decide) ?_
          have e6 : (upd (upto (qg3 t n nc np) (fun k => if hasB (qg3 t n nc np 52) (k % 4) then 0 else qg3 t n nc np k) i3) i3 0) = upto (qg3 t n nc np) (fun k => if hasB (qg3 t n nc np 52) (k % 4) then 0 else qg3 t n nc np k) (i3 + 1) := upto_v (by rw [h52] at QQ; first | exact (if_pos QQ).symm | (rw [upto_at _ _ (Nat.le_refl _)]; exact (if_neg QQ).symm))
          rw [e6] at hP hD
          exact ih63 _ _ _ (by omega) ⟨hP, hD, hS, lv_sub hl [1, 2, 0] (rfl), trivial⟩
    · skip
      refine lv_aload_n hx hb dX10_quarterGoes_36 rfl (lv_at hl 1 rfl) ?_
      refine lv_bipush (v := 36) hx hb dX10_quarterGoes_37 (by decide) ?_
      refine lv_iload_n hx hb dX10_quarterGoes_39 rfl (lv_at hl 2 rfl) ?_
      refine n_iadd hx hb dX10_quarterGoes_40 (u := 36) (v := i2) rfl rfl (j := 36 + i2) (by omega) ?_
      refine lv_iconst (v := 0) hx hb dX10_quarterGoes_41 (by decide) ?_
      refine n_iast hx hb hK hP hD hS 3 0 rfl rfl (x := 0) (j := 36 + i2) rfl (by omega) (by decide) dX10_quarterGoes_42 (wsn := mW G a i j t r (upd (rng (qg1 t n) (fun _ => 0) 36 (36 + i2)) (36 + i2) 0) d ps im kp tx cd bk py pt mt) rfl (fun H locs hP hD hS => ?_)
      refine lv_iinc (v := nI (i2 + 1)) (lv' := [(2, .int (nI (i2 + 1))), (0, .ref (a 0)), (1, .ref (a 3))]) hx hb dX10_quarterGoes_43 hl (k := 2) rfl (by rw [show (nI i2 : Int32) = nI i2 from rfl]; exact nI_add _ 1) (by decide) rfl (fun ls hl => ?_)
      refine lv_goto (tgt := 30) hx hb dX10_quarterGoes_46 (by decide) ?_
      have e7 : (upd (rng (qg1 t n) (fun _ => 0) 36 (36 + i2)) (36 + i2) 0) = rng (qg1 t n) (fun _ => 0) 36 (36 + (i2 + 1)) := rng_v (by omega) rfl
      rw [e7] at hP hD
      exact ih30 _ _ _ (by omega) ⟨hP, hD, hS, lv_sub hl [1, 2, 0] (rfl), trivial⟩
  · skip
    refine lv_aload_n hx hb dX10_quarterGoes_8 rfl (lv_at hl 1 rfl) ?_
    refine lv_iconst (v := 0) hx hb dX10_quarterGoes_9 (by decide) ?_
    refine lv_iload_n hx hb dX10_quarterGoes_10 rfl (lv_at hl 2 rfl) ?_
    refine n_iadd hx hb dX10_quarterGoes_11 (u := 0) (v := i1) rfl rfl (j := i1) (by omega) ?_
    refine lv_aload_n hx hb dX10_quarterGoes_12 rfl (lv_at hl 0 rfl) ?_
    refine lv_aload_n hx hb dX10_quarterGoes_13 rfl (lv_at hl 1 rfl) ?_
    refine lv_iconst (v := 0) hx hb dX10_quarterGoes_14 (by decide) ?_
    refine lv_iload_n hx hb dX10_quarterGoes_15 rfl (lv_at hl 2 rfl) ?_
    refine n_iadd hx hb dX10_quarterGoes_16 (u := 0) (v := i1) rfl rfl (j := i1) (by omega) ?_
    refine n_iald hx hb hK hP 3 0 rfl rfl (j := i1) rfl (by omega) (by decide) dX10_quarterGoes_17 ?_
    refine cR_V (Cn := RX10) (n := 1) (As := [.int ((upto n (fun k => growI (n k) (t 1)) i1) i1)]) (rest := [.int (nI i1), .ref (a 3)]) C (c_X10_grows l G a i j t r (upto n (fun k => growI (n k) (t 1)) i1) d ps im kp tx cd bk py pt mt  ((upto n (fun k => growI (n k) (t 1)) i1) i1) ) gX10_quarterGoes_X10_grows rfl ⟨rfl, rfl⟩ hd_X10_grows ⟨(Nat.le_of_ble_eq_true rfl), (Nat.le_of_ble_eq_true rfl)⟩ hK hP (va_recv hK hP (ci := 10) (q0 := 0) rfl rfl) rfl hl.1 rfl (Nat.le_of_ble_eq_true rfl) dX10_quarterGoes_18 ⟨(Nat.le_of_ble_eq_true rfl), (Nat.le_of_ble_eq_true rfl)⟩ ?_
    refine n_iast hx hb hK hP hD hS 3 0 rfl rfl (x := (growI ((upto n (fun k => growI (n k) (t 1)) i1) i1) (t 1))) (j := i1) rfl (by omega) (by decide) dX10_quarterGoes_21 (wsn := mW G a i j t r (upd (upto n (fun k => growI (n k) (t 1)) i1) i1 (growI ((upto n (fun k => growI (n k) (t 1)) i1) i1) (t 1))) d ps im kp tx cd bk py pt mt) rfl (fun H locs hP hD hS => ?_)
    refine lv_iinc (v := nI (i1 + 1)) (lv' := [(2, .int (nI (i1 + 1))), (0, .ref (a 0)), (1, .ref (a 3))]) hx hb dX10_quarterGoes_22 hl (k := 2) rfl (by rw [show (nI i1 : Int32) = nI i1 from rfl]; exact nI_add _ 1) (by decide) rfl (fun ls hl => ?_)
    refine lv_goto (tgt := 2) hx hb dX10_quarterGoes_25 (by decide) ?_
    have e8 : (upd (upto n (fun k => growI (n k) (t 1)) i1) i1 (growI ((upto n (fun k => growI (n k) (t 1)) i1) i1) (t 1))) = upto n (fun k => growI (n k) (t 1)) (i1 + 1) := upto_v (by rw [upto_at _ _ (Nat.le_refl _)])
    rw [e8] at hP hD
    exact ih2 _ _ _ (by omega) ⟨hP, hD, hS, lv_sub hl [1, 2, 0] (rfl), trivial⟩
theorem hd_X10_weds : yX10_weds.cls = RX10 ∧ yX10_weds.cls ≠ "java/lang/invoke/MethodHandle" ∧ yX10_weds.cls ≠ "java/lang/invoke/VarHandle" ∧ (parseMethodDescriptor yX10_weds.desc).map (fun d => d.parameters.length) = some 3 := by decide +kernel
set_option maxRecDepth 100000 in
set_option maxHeartbeats 4000000 in
theorem c_X10_weds_n (l : Launch) (G : gG) (a : Nat → Nat) (i : Nat → Int32) (j : Nat → Int32) (t : Nat → Int32) (r : Nat → Int32) (n : Nat → Int32) (d : Nat → Int32) (ps : Nat → Int32) (im : Nat → Int32) (kp : Nat → Int32) (tx : Nat → Int32) (cd : Nat → Int32) (bk : Nat → Int32) (py : Nat → Int32) (pt : Nat → Int32) (mt : Nat → Int32) (g : Nat) (m : Nat) (hg : g < 8) (hm : m < 8) : mX l yX10_weds wsX10_weds ({ frames := 1, cells := 0, slots := 0, locals := 21 }) G (mW G a i j t r n d ps im kp tx cd bk py pt mt) (mW G a i j t r (wedF n g m) d ps im kp tx cd bk py pt mt) [.ref (a 0), .ref (a 3), .int (nI g), .int (nI m)] (.returned none) := by
  refine mX.of (cc := cX10_weds) (maxL := 5) (ret := none) (by decide) rfl (Nat.le_of_ble_eq_true rfl) ?_
  intro zp ze zs zm zb zt zc ls A hAe C hP hK hD hS hl
  obtain ⟨hx, hb, hr, hml, hown, hts, hlk⟩ := id C
  have hl : lv_has ls 5 [(0, .ref (a 0)), (1, .ref (a 3)), (2, .int (nI g)), (3, .int (nI m))] := hl
  refine lv_iconst (v := 0) hx hb dX10_weds_0 (by decide) ?_
  refine lv_istore (lv' := [(4, .int 0), (0, .ref (a 0)), (1, .ref (a 3)), (2, .int (nI g)), (3, .int (nI m))]) hx hb dX10_weds_1 hl (by decide) rfl (fun ls hl => ?_)
  refine wl_X (B := 4) (i0 := 0) (Inv := fun i1 H locs ls => va_P G.1 vwCl (mW G a i j t r (wdU n g m i1) d ps im kp tx cd bk py pt mt) H ∧ va_D A (mW G a i j t r (wdU n g m i1) d ps im kp tx cd bk py pt mt) ∧ va_S A zs.heap H locs ∧ lv_has ls 5 [(0, .ref (a 0)), (1, .ref (a 3)), (2, .int (nI g)), (3, .int (nI m)), (4, .int (nI i1))] ∧ True) (by omega) ⟨hP, hD, hS, lv_sub hl [1, 2, 3, 4, 0] (rfl), trivial⟩ ?_
  rintro i1 H locs ls hle3 ⟨hP, hD, hS, hl, -⟩ ih3
  refine lv_iload hx hb dX10_weds_3 (lv_at hl 4 rfl) ?_
  refine lv_iconst (v := 4) hx hb dX10_weds_5 (by decide) ?_
  refine n_icmp_ge (tgt := 63) hx hb dX10_weds_6 (by decide) (u := i1) (v := 4) rfl rfl (by omega) (by omega) (fun cq1 => ?_) (fun cq1 => ?_)
  · skip
    obtain rfl : i1 = 4 := by omega
    have hP : va_P G.1 vwCl (mW G a i j t r (wdU n g m 4) d ps im kp tx cd bk py pt mt) H := hP
    have hD : va_D A (mW G a i j t r (wdU n g m 4) d ps im kp tx cd bk py pt mt) := hD
    refine lv_aload_n hx hb dX10_weds_63 rfl (lv_at hl 1 rfl) ?_
    refine lv_bipush (v := 36) hx hb dX10_weds_64 (by decide) ?_
    refine lv_iload_n hx hb dX10_weds_66 rfl (lv_at hl 2 rfl) ?_
    refine n_iadd hx hb dX10_weds_67 (u := 36) (v := g) rfl rfl (j := 36 + g) (by omega) ?_
    refine lv_dup2_11 hx hb dX10_weds_68 rfl rfl ?_
    refine n_iald hx hb hK hP 3 0 rfl rfl (j := 36 + g) rfl (by omega) (by decide) dX10_weds_69 ?_
    refine lv_aload_n hx hb dX10_weds_70 rfl (lv_at hl 1 rfl) ?_
    refine lv_bipush (v := 36) hx hb dX10_weds_71 (by decide) ?_
    refine lv_iload_n hx hb dX10_weds_73 rfl (lv_at hl 3 rfl) ?_
    refine n_iadd hx hb dX10_weds_74 (u := 36) (v := m) rfl rfl (j := 36 + m) (by omega) ?_
    refine n_iald hx hb hK hP 3 0 rfl rfl (j := 36 + m) rfl (by omega) (by decide) dX10_weds_75 ?_
    refine lv_ior hx hb dX10_weds_76 ?_
    refine n_iast hx hb hK hP hD hS 3 0 rfl rfl (x := (((wdU n g m 4) (36 + g)) ||| ((wdU n g m 4) (36 + m)))) (j := 36 + g) rfl (by omega) (by decide) dX10_weds_77 (wsn := mW G a i j t r (upd (wdU n g m 4) (36 + g) (((wdU n g m 4) (36 + g)) ||| ((wdU n g m 4) (36 + m)))) d ps im kp tx cd bk py pt mt) rfl (fun H locs hP hD hS => ?_)
    refine lv_aload_n hx hb dX10_weds_78 rfl (lv_at hl 1 rfl) ?_
    refine lv_bipush (v := 36) hx hb dX10_weds_79 (by decide) ?_
    refine lv_iload_n hx hb dX10_weds_81 rfl (lv_at hl 3 rfl) ?_
    refine n_iadd hx hb dX10_weds_82 (u := 36) (v := m) rfl rfl (j := 36 + m) (by omega) ?_
    refine lv_iconst (v := 0) hx hb dX10_weds_83 (by decide) ?_
    refine n_iast hx hb hK hP hD hS 3 0 rfl rfl (x := 0) (j := 36 + m) rfl (by omega) (by decide) dX10_weds_84 (wsn := mW G a i j t r (upd (upd (wdU n g m 4) (36 + g) (((wdU n g m 4) (36 + g)) ||| ((wdU n g m 4) (36 + m)))) (36 + m) 0) d ps im kp tx cd bk py pt mt) rfl (fun H locs hP hD hS => ?_)
    refine lv_aload_n hx hb dX10_weds_85 rfl (lv_at hl 1 rfl) ?_
    refine lv_bipush (v := 44) hx hb dX10_weds_86 (by decide) ?_
    refine lv_iload_n hx hb dX10_weds_88 rfl (lv_at hl 2 rfl) ?_
    refine n_iadd hx hb dX10_weds_89 (u := 44) (v := g) rfl rfl (j := 44 + g) (by omega) ?_
    refine lv_iload_n hx hb dX10_weds_90 rfl (lv_at hl 3 rfl) ?_
    refine n_iast hx hb hK hP hD hS 3 0 rfl rfl (x := (nI m)) (j := 44 + g) rfl (by omega) (by decide) dX10_weds_91 (wsn := mW G a i j t r (upd (upd (upd (wdU n g m 4) (36 + g) (((wdU n g m 4) (36 + g)) ||| ((wdU n g m 4) (36 + m)))) (36 + m) 0) (44 + g) (nI m)) d ps im kp tx cd bk py pt mt) rfl (fun H locs hP hD hS => ?_)
    refine lv_aload_n hx hb dX10_weds_92 rfl (lv_at hl 1 rfl) ?_
    refine lv_bipush (v := 44) hx hb dX10_weds_93 (by decide) ?_
    refine lv_iload_n hx hb dX10_weds_95 rfl (lv_at hl 3 rfl) ?_
    refine n_iadd hx hb dX10_weds_96 (u := 44) (v := m) rfl rfl (j := 44 + m) (by omega) ?_
    refine lv_iload_n hx hb dX10_weds_97 rfl (lv_at hl 2 rfl) ?_
    refine n_iast hx hb hK hP hD hS 3 0 rfl rfl (x := (nI g)) (j := 44 + m) rfl (by omega) (by decide) dX10_weds_98 (wsn := mW G a i j t r (upd (upd (upd (upd (wdU n g m 4) (36 + g) (((wdU n g m 4) (36 + g)) ||| ((wdU n g m 4) (36 + m)))) (36 + m) 0) (44 + g) (nI m)) (44 + m) (nI g)) d ps im kp tx cd bk py pt mt) rfl (fun H locs hP hD hS => ?_)
    have hP : va_P G.1 vwCl (mW G a i j t r (wedF n g m) d ps im kp tx cd bk py pt mt) H := by rw [show (wedF n g m) = (upd (upd (upd (upd (wdU n g m 4) (36 + g) (((wdU n g m 4) (36 + g)) ||| ((wdU n g m 4) (36 + m)))) (36 + m) 0) (44 + g) (nI m)) (44 + m) (nI g)) from rfl]; exact hP
    exact mX_vret hAe C hP hS dX10_weds_99
  · skip
    refine lv_aload_n hx hb dX10_weds_9 rfl (lv_at hl 1 rfl) ?_
    refine lv_iconst (v := 0) hx hb dX10_weds_10 (by decide) ?_
    refine lv_iconst (v := 4) hx hb dX10_weds_11 (by decide) ?_
    refine lv_iload_n hx hb dX10_weds_12 rfl (lv_at hl 2 rfl) ?_
    refine n_imul hx hb dX10_weds_13 (u := 4) (v := g) rfl rfl (j := 4 * g) (by omega) ?_
    refine n_iadd hx hb dX10_weds_14 (u := 0) (v := 4 * g) rfl rfl (j := 4 * g) (by omega) ?_
    refine lv_iload hx hb dX10_weds_15 (lv_at hl 4 rfl) ?_
    refine n_iadd hx hb dX10_weds_17 (u := 4 * g) (v := i1) rfl rfl (j := (4 * g) + i1) (by omega) ?_
    refine lv_aload_n hx hb dX10_weds_18 rfl (lv_at hl 1 rfl) ?_
    refine lv_iconst (v := 0) hx hb dX10_weds_19 (by decide) ?_
    refine lv_iconst (v := 4) hx hb dX10_weds_20 (by decide) ?_
    refine lv_iload_n hx hb dX10_weds_21 rfl (lv_at hl 2 rfl) ?_
    refine n_imul hx hb dX10_weds_22 (u := 4) (v := g) rfl rfl (j := 4 * g) (by omega) ?_
    refine n_iadd hx hb dX10_weds_23 (u := 0) (v := 4 * g) rfl rfl (j := 4 * g) (by omega) ?_
    refine lv_iload hx hb dX10_weds_24 (lv_at hl 4 rfl) ?_
    refine n_iadd hx hb dX10_weds_26 (u := 4 * g) (v := i1) rfl rfl (j := (4 * g) + i1) (by omega) ?_
    refine n_iald hx hb hK hP 3 0 rfl rfl (j := (4 * g) + i1) rfl (by omega) (by decide) dX10_weds_27 ?_
    refine lv_aload_n hx hb dX10_weds_28 rfl (lv_at hl 1 rfl) ?_
    refine lv_iconst (v := 0) hx hb dX10_weds_29 (by decide) ?_
    refine lv_iconst (v := 4) hx hb dX10_weds_30 (by decide) ?_
    refine lv_iload_n hx hb dX10_weds_31 rfl (lv_at hl 3 rfl) ?_
    refine n_imul hx hb dX10_weds_32 (u := 4) (v := m) rfl rfl (j := 4 * m) (by omega) ?_
    refine n_iadd hx hb dX10_weds_33 (u := 0) (v := 4 * m) rfl rfl (j := 4 * m) (by omega) ?_
    refine lv_iload hx hb dX10_weds_34 (lv_at hl 4 rfl) ?_
    refine n_iadd hx hb dX10_weds_36 (u := 4 * m) (v := i1) rfl rfl (j := (4 * m) + i1) (by omega) ?_
    refine n_iald hx hb hK hP 3 0 rfl rfl (j := (4 * m) + i1) rfl (by omega) (by decide) dX10_weds_37 ?_
    refine lv_iadd hx hb dX10_weds_38 ?_
    refine lv_sipush (v := 9999) hx hb dX10_weds_39 (by decide) ?_
    refine cR_S (n := 2) (As := [.int (((wdU n g m i1) ((4 * g) + i1)) + ((wdU n g m i1) ((4 * m) + i1))), .int 9999]) (rest := [.int (nI ((4 * g) + i1)), .ref (a 3)]) C (c_X10_lesser l G    (((wdU n g m i1) ((4 * g) + i1)) + ((wdU n g m i1) ((4 * m) + i1))) 9999 ) gX10_weds_X10_lesser rfl ⟨rfl, rfl⟩ hd_X10_lesser ⟨(Nat.le_of_ble_eq_true rfl), (Nat.le_of_ble_eq_true rfl)⟩ hK (hP.sub [] rfl) rfl hl.1 rfl (Nat.le_of_ble_eq_true rfl) dX10_weds_42 ⟨(Nat.le_of_ble_eq_true rfl), (Nat.le_of_ble_eq_true rfl)⟩ ?_
    refine n_iast hx hb hK hP hD hS 3 0 rfl rfl (x := (lessI (((wdU n g m i1) ((4 * g) + i1)) + ((wdU n g m i1) ((4 * m) + i1))) 9999)) (j := (4 * g) + i1) rfl (by omega) (by decide) dX10_weds_45 (wsn := mW G a i j t r (upd (wdU n g m i1) ((4 * g) + i1) (lessI (((wdU n g m i1) ((4 * g) + i1)) + ((wdU n g m i1) ((4 * m) + i1))) 9999)) d ps im kp tx cd bk py pt mt) rfl (fun H locs hP hD hS => ?_)
    refine lv_aload_n hx hb dX10_weds_46 rfl (lv_at hl 1 rfl) ?_
    refine lv_iconst (v := 0) hx hb dX10_weds_47 (by decide) ?_
    refine lv_iconst (v := 4) hx hb dX10_weds_48 (by decide) ?_
    refine lv_iload_n hx hb dX10_weds_49 rfl (lv_at hl 3 rfl) ?_
    refine n_imul hx hb dX10_weds_50 (u := 4) (v := m) rfl rfl (j := 4 * m) (by omega) ?_
    refine n_iadd hx hb dX10_weds_51 (u := 0) (v := 4 * m) rfl rfl (j := 4 * m) (by omega) ?_
    refine lv_iload hx hb dX10_weds_52 (lv_at hl 4 rfl) ?_
    refine n_iadd hx hb dX10_weds_54 (u := 4 * m) (v := i1) rfl rfl (j := (4 * m) + i1) (by omega) ?_
    refine lv_iconst (v := 0) hx hb dX10_weds_55 (by decide) ?_
    refine n_iast hx hb hK hP hD hS 3 0 rfl rfl (x := 0) (j := (4 * m) + i1) rfl (by omega) (by decide) dX10_weds_56 (wsn := mW G a i j t r (upd (upd (wdU n g m i1) ((4 * g) + i1) (lessI (((wdU n g m i1) ((4 * g) + i1)) + ((wdU n g m i1) ((4 * m) + i1))) 9999)) ((4 * m) + i1) 0) d ps im kp tx cd bk py pt mt) rfl (fun H locs hP hD hS => ?_)
    refine lv_iinc (v := nI (i1 + 1)) (lv' := [(4, .int (nI (i1 + 1))), (0, .ref (a 0)), (1, .ref (a 3)), (2, .int (nI g)), (3, .int (nI m))]) hx hb dX10_weds_57 hl (k := 4) rfl (by rw [show (nI i1 : Int32) = nI i1 from rfl]; exact nI_add _ 1) (by decide) rfl (fun ls hl => ?_)
    refine lv_goto (tgt := 3) hx hb dX10_weds_60 (by decide) ?_
    have e2 : (upd (upd (wdU n g m i1) ((4 * g) + i1) (lessI (((wdU n g m i1) ((4 * g) + i1)) + ((wdU n g m i1) ((4 * m) + i1))) 9999)) ((4 * m) + i1) 0) = wdU n g m (i1 + 1) := rfl
    rw [e2] at hP hD
    exact ih3 _ _ _ (by omega) ⟨hP, hD, hS, lv_sub hl [1, 2, 3, 4, 0] (rfl), trivial⟩
set_option maxRecDepth 100000 in
set_option maxHeartbeats 4000000 in
theorem c_X10_sours_d (l : Launch) (G : gG) (a : Nat → Nat) (i : Nat → Int32) (j : Nat → Int32) (t : Nat → Int32) (r : Nat → Int32) (n : Nat → Int32) (d : Nat → Int32) (ps : Nat → Int32) (im : Nat → Int32) (kp : Nat → Int32) (tx : Nat → Int32) (cd : Nat → Int32) (bk : Nat → Int32) (py : Nat → Int32) (pt : Nat → Int32) (mt : Nat → Int32) (nc : Nat) (np : Nat) (hT : tw t nc np) : mR l yX10_sours wsX10_sours ({ frames := 2, cells := 0, slots := 0, locals := 45 }) G (mW G a i j t r n d ps im kp tx cd bk py pt mt) [.ref (a 0), .ref (a 4)] (soursU t d np nc) := by
  refine mR.of (cc := cX10_sours) (maxL := 6) (ret := (some .int)) (by decide) rfl (Nat.le_of_ble_eq_true rfl) ?_
  intro zp ze zs zm zb zt zc ls C hP hK hl
  obtain ⟨hx, hb, hr, hml, hown, hts, hlk⟩ := id C
  have hl : lv_has ls 6 [(0, .ref (a 0)), (1, .ref (a 4))] := hl
  have hT2 := hT.2.2
  have k0 := hts (.fieldLink RX10 7 "DebtDowryModel" "town" "[I") (by decide +kernel)
  have k1 := (fun w h => by revert w; decide +kernel : ∀ w ∈ wsX100, w ∈ wsX10_sours)
  refine lv_iconst (v := 0) hx hb dX10_sours_0 (by decide) ?_
  refine lv_istore_n (lv' := [(2, .int 0), (0, .ref (a 0)), (1, .ref (a 4))]) hx hb dX10_sours_1 rfl hl (by decide) rfl (fun ls hl => ?_)
  refine lv_iconst (v := 0) hx hb dX10_sours_2 (by decide) ?_
  refine lv_istore_n (lv' := [(3, .int 0), (2, .int 0), (0, .ref (a 0)), (1, .ref (a 4))]) hx hb dX10_sours_3 rfl hl (by decide) rfl (fun ls hl => ?_)
  refine wl_R (B := nc) (i0 := 0) (Inv := fun i1 ls => lv_has ls 6 [(0, .ref (a 0)), (1, .ref (a 4)), (2, .int (soursU t d np i1)), (3, .int (nI i1))] ∧ True) (by omega) ⟨lv_sub hl [2, 3, 1, 0] (rfl), trivial⟩ ?_
  rintro i1 ls hle4 ⟨hl, -⟩ ih4
  refine lv_iload_n hx hb dX10_sours_4 rfl (lv_at hl 3 rfl) ?_
  refine lv_aload_n hx hb dX10_sours_5 rfl (lv_at hl 0 rfl) ?_
  refine va_get (D := G.1) (ci := 10) (v := .ref (a 1)) (C := RX10) (T := TX10) (N := 25) hx hb hts k1 hown hK hP 0 rfl rfl 0 (by decide) k0 (fun _ h9 => h9) rfl dX10_sours_6 ?_
  refine lv_iconst (v := 3) hx hb dX10_sours_9 (by decide) ?_
  refine n_iald hx hb hK hP 1 0 rfl rfl (j := 3) rfl (by decide) (by decide) dX10_sours_10 ?_
  refine n_icmp_ge (tgt := 106) hx hb dX10_sours_11 (by decide) (u := i1) (v := nc) rfl hT.1 (by omega) (by omega) (fun cq1 => ?_) (fun cq1 => ?_)
  · skip
    obtain rfl : nc = i1 := by omega
    refine lv_iload_n hx hb dX10_sours_106 rfl (lv_at hl 2 rfl) ?_
    exact mR_iret C dX10_sours_107 (rfl)
  · skip
    refine lv_iconst (v := 0) hx hb dX10_sours_14 (by decide) ?_
    refine lv_istore (lv' := [(4, .int 0), (0, .ref (a 0)), (1, .ref (a 4)), (2, .int (soursU t d np i1)), (3, .int (nI i1))]) hx hb dX10_sours_15 hl (by decide) rfl (fun ls hl => ?_)
    refine lv_iconst (v := 0) hx hb dX10_sours_17 (by decide) ?_
    refine lv_istore (lv' := [(5, .int 0), (4, .int 0), (0, .ref (a 0)), (1, .ref (a 4)), (2, .int (soursU t d np i1)), (3, .int (nI i1))]) hx hb dX10_sours_18 hl (by decide) rfl (fun ls hl => ?_)
    refine wl_R (B := np) (i0 := 0) (Inv := fun i2 ls => lv_has ls 6 [(0, .ref (a 0)), (1, .ref (a 4)), (2, .int (soursU t d np i1)), (3, .int (nI i1)), (4, .int (sourU t d i1 i2)), (5, .int (nI i2))] ∧ True) (by omega) ⟨lv_sub hl [2, 3, 4, 5, 1, 0] (rfl), trivial⟩ ?_
    rintro i2 ls hle20 ⟨hl, -⟩ ih20
    refine lv_iload hx hb dX10_sours_20 (lv_at hl 5 rfl) ?_
    refine lv_aload_n hx hb dX10_sours_22 rfl (lv_at hl 0 rfl) ?_
    refine va_get (D := G.1) (ci := 10) (v := .ref (a 1)) (C := RX10) (T := TX10) (N := 25) hx hb hts k1 hown hK hP 0 rfl rfl 0 (by decide) k0 (fun _ h9 => h9) rfl dX10_sours_23 ?_
    refine lv_iconst (v := 4) hx hb dX10_sours_26 (by decide) ?_
    refine n_iald hx hb hK hP 1 0 rfl rfl (j := 4) rfl (by decide) (by decide) dX10_sours_27 ?_
    refine n_icmp_ge (tgt := 68) hx hb dX10_sours_28 (by decide) (u := i2) (v := np) rfl hT.2.1 (by omega) (by omega) (fun cq2 => ?_) (fun cq2 => ?_)
    · skip
      obtain rfl : np = i2 := by omega
      refine lv_iload_n hx hb dX10_sours_68 rfl (lv_at hl 2 rfl) ?_
      refine lv_aload_n hx hb dX10_sours_69 rfl (lv_at hl 1 rfl) ?_
      refine lv_bipush (v := 52) hx hb dX10_sours_70 (by decide) ?_
      refine n_iald hx hb hK hP 4 0 rfl rfl (j := 52) rfl (by decide) (by decide) dX10_sours_72 ?_
      refine lv_iload_n hx hb dX10_sours_73 rfl (lv_at hl 3 rfl) ?_
      refine cR_S (n := 2) (As := [.int (d 52), .int (nI i1)]) (rest := [.int (soursU t d np i1)]) C (c_X10_has l G    (d 52) i1 ) gX10_sours_X10_has rfl ⟨rfl, rfl⟩ hd_X10_has ⟨(Nat.le_of_ble_eq_true rfl), (Nat.le_of_ble_eq_true rfl)⟩ hK (hP.sub [] rfl) rfl hl.1 rfl (Nat.le_of_ble_eq_true rfl) dX10_sours_74 ⟨(Nat.le_of_ble_eq_true rfl), (Nat.le_of_ble_eq_true rfl)⟩ ?_
      refine b_if_ne (tgt := 97) hx hb dX10_sours_77 (by decide) (fun cq3 => ?_) (fun cq3 => ?_)
      · skip
        refine lv_iconst (v := 0) hx hb dX10_sours_97 (by decide) ?_
        refine lv_ior hx hb dX10_sours_98 ?_
        refine lv_istore_n (lv' := [(2, .int ((soursU t d np i1) ||| 0)), (0, .ref (a 0)), (1, .ref (a 4)), (3, .int (nI i1)), (4, .int (sourU t d i1 np)), (5, .int (nI np))]) hx hb dX10_sours_99 rfl hl (by decide) rfl (fun ls hl => ?_)
        refine lv_iinc (v := nI (i1 + 1)) (lv' := [(3, .int (nI (i1 + 1))), (2, .int ((soursU t d np i1) ||| 0)), (0, .ref (a 0)), (1, .ref (a 4)), (4, .int (sourU t d i1 np)), (5, .int (nI np))]) hx hb dX10_sours_100 hl (k := 3) rfl (by rw [show (nI i1 : Int32) = nI i1 from rfl]; exact nI_add _ 1) (by decide) rfl (fun ls hl => ?_)
        refine lv_goto (tgt := 4) hx hb dX10_sours_103 (by decide) ?_
        have e4 : (soursU t d np i1) ||| 0 = soursU t d np (i1 + 1) := by first | exact setU_t (by simp only [failP]; simp [cq1, cq2, cq3]) | exact setU_f (by simp only [failP]; simp [cq1, cq2, cq3])
        exact ih4 _ (by omega) ⟨lv_sub hl [2, 3, 1, 0] (by rw [← e4]; rfl), trivial⟩
      · skip
        refine lv_iload hx hb dX10_sours_80 (lv_at hl 4 rfl) ?_
        refine lv_aload_n hx hb dX10_sours_82 rfl (lv_at hl 1 rfl) ?_
        refine lv_bipush (v := 32) hx hb dX10_sours_83 (by decide) ?_
        refine lv_iload_n hx hb dX10_sours_85 rfl (lv_at hl 3 rfl) ?_
        refine n_iadd hx hb dX10_sours_86 (u := 32) (v := i1) rfl rfl (j := 32 + i1) (by omega) ?_
        refine n_iald hx hb hK hP 4 0 rfl rfl (j := 32 + i1) rfl (by omega) (by decide) dX10_sours_87 ?_
        refine lv_icmp_le (tgt := 97) hx hb dX10_sours_88 (by decide) (fun cq5 => ?_) (fun cq5 => ?_)
        · skip
          refine lv_iconst (v := 0) hx hb dX10_sours_97 (by decide) ?_
          refine lv_ior hx hb dX10_sours_98 ?_
          refine lv_istore_n (lv' := [(2, .int ((soursU t d np i1) ||| 0)), (0, .ref (a 0)), (1, .ref (a 4)), (3, .int (nI i1)), (4, .int (sourU t d i1 np)), (5, .int (nI np))]) hx hb dX10_sours_99 rfl hl (by decide) rfl (fun ls hl => ?_)
          refine lv_iinc (v := nI (i1 + 1)) (lv' := [(3, .int (nI (i1 + 1))), (2, .int ((soursU t d np i1) ||| 0)), (0, .ref (a 0)), (1, .ref (a 4)), (4, .int (sourU t d i1 np)), (5, .int (nI np))]) hx hb dX10_sours_100 hl (k := 3) rfl (by rw [show (nI i1 : Int32) = nI i1 from rfl]; exact nI_add _ 1) (by decide) rfl (fun ls hl => ?_)
          refine lv_goto (tgt := 4) hx hb dX10_sours_103 (by decide) ?_
          have e6 : (soursU t d np i1) ||| 0 = soursU t d np (i1 + 1) := by first | exact setU_t (by simp only [failP]; simp [cq1, cq2, cq3, cq5, (i32_nlt.mpr cq5)]) | exact setU_f (by simp only [failP]; simp [cq1, cq2, cq3, cq5, (i32_nlt.mpr cq5)])
          exact ih4 _ (by omega) ⟨lv_sub hl [2, 3, 1, 0] (by rw [← e6]; rfl), trivial⟩
        · skip
          refine lv_iconst (v := 1) hx hb dX10_sours_91 (by decide) ?_
          refine lv_iload_n hx hb dX10_sours_92 rfl (lv_at hl 3 rfl) ?_
          refine lv_ishl hx hb dX10_sours_93 ?_
          refine lv_goto (tgt := 98) hx hb dX10_sours_94 (by decide) ?_
          refine lv_ior hx hb dX10_sours_98 ?_
          refine lv_istore_n (lv' := [(2, .int ((soursU t d np i1) ||| (1 <<< ((nI i1) &&& 31)))), (0, .ref (a 0)), (1, .ref (a 4)), (3, .int (nI i1)), (4, .int (sourU t d i1 np)), (5, .int (nI np))]) hx hb dX10_sours_99 rfl hl (by decide) rfl (fun ls hl => ?_)
          refine lv_iinc (v := nI (i1 + 1)) (lv' := [(3, .int (nI (i1 + 1))), (2, .int ((soursU t d np i1) ||| (1 <<< ((nI i1) &&& 31)))), (0, .ref (a 0)), (1, .ref (a 4)), (4, .int (sourU t d i1 np)), (5, .int (nI np))]) hx hb dX10_sours_100 hl (k := 3) rfl (by rw [show (nI i1 : Int32) = nI i1 from rfl]; exact nI_add _ 1) (by decide) rfl (fun ls hl => ?_)
          refine lv_goto (tgt := 4) hx hb dX10_sours_103 (by decide) ?_
          have e7 : (soursU t d np i1) ||| (1 <<< ((nI i1) &&& 31)) = soursU t d np (i1 + 1) := by first | exact setU_t (by simp only [failP]; simp [cq1, cq2, cq3, cq5, (i32_nle.mp cq5)]) | exact setU_f (by simp only [failP]; simp [cq1, cq2, cq3, cq5, (i32_nle.mp cq5)])
          exact ih4 _ (by omega) ⟨lv_sub hl [2, 3, 1, 0] (by rw [← e7]; rfl), trivial⟩
    · skip
      refine lv_iload hx hb dX10_sours_31 (lv_at hl 4 rfl) ?_
      refine lv_aload_n hx hb dX10_sours_33 rfl (lv_at hl 0 rfl) ?_
      refine lv_aload_n hx hb dX10_sours_34 rfl (lv_at hl 1 rfl) ?_
      refine lv_iload hx hb dX10_sours_35 (lv_at hl 5 rfl) ?_
      refine lv_iload_n hx hb dX10_sours_37 rfl (lv_at hl 3 rfl) ?_
      refine cR_V (Cn := RX10) (n := 3) (As := [.ref (a 4), .int (nI i2), .int (nI i1)]) (rest := [.int (sourU t d i1 i2)]) C (c_X10_temperOf_d l G a i j t r n d ps im kp tx cd bk py pt mt  i2 i1 (by omega) (by omega)) gX10_sours_X10_temperOf rfl ⟨rfl, rfl⟩ hd_X10_temperOf ⟨(Nat.le_of_ble_eq_true rfl), (Nat.le_of_ble_eq_true rfl)⟩ hK hP (va_recv hK hP (ci := 10) (q0 := 0) rfl rfl) rfl hl.1 rfl (Nat.le_of_ble_eq_true rfl) dX10_sours_38 ⟨(Nat.le_of_ble_eq_true rfl), (Nat.le_of_ble_eq_true rfl)⟩ ?_
      refine lv_iconst (v := 2) hx hb dX10_sours_41 (by decide) ?_
      refine lv_icmp_ne (tgt := 58) hx hb dX10_sours_42 (by decide) (fun cq8 => ?_) (fun cq8 => ?_)
      · skip
        refine lv_iconst (v := 0) hx hb dX10_sours_58 (by decide) ?_
        refine lv_iadd hx hb dX10_sours_59 ?_
        refine lv_istore (lv' := [(4, .int ((sourU t d i1 i2) + 0)), (0, .ref (a 0)), (1, .ref (a 4)), (2, .int (soursU t d np i1)), (3, .int (nI i1)), (5, .int (nI i2))]) hx hb dX10_sours_60 hl (by decide) rfl (fun ls hl => ?_)
        refine lv_iinc (v := nI (i2 + 1)) (lv' := [(5, .int (nI (i2 + 1))), (4, .int ((sourU t d i1 i2) + 0)), (0, .ref (a 0)), (1, .ref (a 4)), (2, .int (soursU t d np i1)), (3, .int (nI i1))]) hx hb dX10_sours_62 hl (k := 5) rfl (by rw [show (nI i2 : Int32) = nI i2 from rfl]; exact nI_add _ 1) (by decide) rfl (fun ls hl => ?_)
        refine lv_goto (tgt := 20) hx hb dX10_sours_65 (by decide) ?_
        have e9 : (sourU t d i1 i2) + 0 = sourU t d i1 (i2 + 1) := by show _ = sumU _ _ + ite _ _ _; simp [sourU, cq1, cq2, cq8]
        exact ih20 _ (by omega) ⟨lv_sub hl [2, 3, 4, 5, 1, 0] (by rw [← e9]; rfl), trivial⟩
      · skip
        refine lv_aload_n hx hb dX10_sours_45 rfl (lv_at hl 1 rfl) ?_
        refine lv_iconst (v := 0) hx hb dX10_sours_46 (by decide) ?_
        refine lv_iconst (v := 4) hx hb dX10_sours_47 (by decide) ?_
        refine lv_iload hx hb dX10_sours_48 (lv_at hl 5 rfl) ?_
        refine n_imul hx hb dX10_sours_50 (u := 4) (v := i2) rfl rfl (j := 4 * i2) (by omega) ?_
        refine n_iadd hx hb dX10_sours_51 (u := 0) (v := 4 * i2) rfl rfl (j := 4 * i2) (by omega) ?_
        refine lv_iload_n hx hb dX10_sours_52 rfl (lv_at hl 3 rfl) ?_
        refine n_iadd hx hb dX10_sours_53 (u := 4 * i2) (v := i1) rfl rfl (j := (4 * i2) + i1) (by omega) ?_
        refine n_iald hx hb hK hP 4 0 rfl rfl (j := (4 * i2) + i1) rfl (by omega) (by decide) dX10_sours_54 ?_
        refine lv_goto (tgt := 59) hx hb dX10_sours_55 (by decide) ?_
        refine lv_iadd hx hb dX10_sours_59 ?_
        refine lv_istore (lv' := [(4, .int ((sourU t d i1 i2) + (d ((4 * i2) + i1)))), (0, .ref (a 0)), (1, .ref (a 4)), (2, .int (soursU t d np i1)), (3, .int (nI i1)), (5, .int (nI i2))]) hx hb dX10_sours_60 hl (by decide) rfl (fun ls hl => ?_)
        refine lv_iinc (v := nI (i2 + 1)) (lv' := [(5, .int (nI (i2 + 1))), (4, .int ((sourU t d i1 i2) + (d ((4 * i2) + i1)))), (0, .ref (a 0)), (1, .ref (a 4)), (2, .int (soursU t d np i1)), (3, .int (nI i1))]) hx hb dX10_sours_62 hl (k := 5) rfl (by rw [show (nI i2 : Int32) = nI i2 from rfl]; exact nI_add _ 1) (by decide) rfl (fun ls hl => ?_)
        refine lv_goto (tgt := 20) hx hb dX10_sours_65 (by decide) ?_
        have e10 : (sourU t d i1 i2) + (d ((4 * i2) + i1)) = sourU t d i1 (i2 + 1) := by show _ = sumU _ _ + ite _ _ _; simp [sourU, cq1, cq2, cq8]
        exact ih20 _ (by omega) ⟨lv_sub hl [2, 3, 4, 5, 1, 0] (by rw [← e10]; rfl), trivial⟩
set_option maxRecDepth 100000 in
set_option maxHeartbeats 4000000 in
theorem c_X10_quarterGoes_d (l : Launch) (G : gG) (a : Nat → Nat) (i : Nat → Int32) (j : Nat → Int32) (t : Nat → Int32) (r : Nat → Int32) (n : Nat → Int32) (d : Nat → Int32) (ps : Nat → Int32) (im : Nat → Int32) (kp : Nat → Int32) (tx : Nat → Int32) (cd : Nat → Int32) (bk : Nat → Int32) (py : Nat → Int32) (pt : Nat → Int32) (mt : Nat → Int32) (nc : Nat) (np : Nat) (hT : tw t nc np) : mX l yX10_quarterGoes wsX10_quarterGoes ({ frames := 3, cells := 0, slots := 0, locals := 70 }) G (mW G a i j t r n d ps im kp tx cd bk py pt mt) (mW G a i j t r n (qgF t d nc np) ps im kp tx cd bk py pt mt) [.ref (a 0), .ref (a 4)] (.returned none) := by
  refine mX.of (cc := cX10_quarterGoes) (maxL := 3) (ret := none) (by decide) rfl (Nat.le_of_ble_eq_true rfl) ?_
  intro zp ze zs zm zb zt zc ls A hAe C hP hK hD hS hl
  obtain ⟨hx, hb, hr, hml, hown, hts, hlk⟩ := id C
  have hl : lv_has ls 3 [(0, .ref (a 0)), (1, .ref (a 4))] := hl
  have hT2 := hT.2.2
  refine lv_iconst (v := 0) hx hb dX10_quarterGoes_0 (by decide) ?_
  refine lv_istore_n (lv' := [(2, .int 0), (0, .ref (a 0)), (1, .ref (a 4))]) hx hb dX10_quarterGoes_1 rfl hl (by decide) rfl (fun ls hl => ?_)
  refine wl_X (B := 32) (i0 := 0) (Inv := fun i1 H locs ls => va_P G.1 vwCl (mW G a i j t r n (upto d (fun k => growI (d k) (t 1)) i1) ps im kp tx cd bk py pt mt) H ∧ va_D A (mW G a i j t r n (upto d (fun k => growI (d k) (t 1)) i1) ps im kp tx cd bk py pt mt) ∧ va_S A zs.heap H locs ∧ lv_has ls 3 [(0, .ref (a 0)), (1, .ref (a 4)), (2, .int (nI i1))] ∧ True) (by omega) ⟨by rw [upto_0]; exact hP, by rw [upto_0]; exact hD, hS, lv_sub hl [1, 2, 0] (rfl), trivial⟩ ?_
  rintro i1 H locs ls hle2 ⟨hP, hD, hS, hl, -⟩ ih2
  refine lv_iload_n hx hb dX10_quarterGoes_2 rfl (lv_at hl 2 rfl) ?_
  refine lv_bipush (v := 32) hx hb dX10_quarterGoes_3 (by decide) ?_
  refine n_icmp_ge (tgt := 28) hx hb dX10_quarterGoes_5 (by decide) (u := i1) (v := 32) rfl rfl (by omega) (by omega) (fun cq1 => ?_) (fun cq1 => ?_)
  · skip
    obtain rfl : i1 = 32 := by omega
    have hP : va_P G.1 vwCl (mW G a i j t r n (qg1 t d) ps im kp tx cd bk py pt mt) H := hP
    have hD : va_D A (mW G a i j t r n (qg1 t d) ps im kp tx cd bk py pt mt) := hD
    refine lv_iconst (v := 0) hx hb dX10_quarterGoes_28 (by decide) ?_
    refine lv_istore_n (lv' := [(2, .int 0), (0, .ref (a 0)), (1, .ref (a 4))]) hx hb dX10_quarterGoes_29 rfl hl (by decide) rfl (fun ls hl => ?_)
    refine wl_X (B := 8) (i0 := 0) (Inv := fun i2 H locs ls => va_P G.1 vwCl (mW G a i j t r n (rng (qg1 t d) (fun _ => 0) 36 (36 + i2)) ps im kp tx cd bk py pt mt) H ∧ va_D A (mW G a i j t r n (rng (qg1 t d) (fun _ => 0) 36 (36 + i2)) ps im kp tx cd bk py pt mt) ∧ va_S A zs.heap H locs ∧ lv_has ls 3 [(0, .ref (a 0)), (1, .ref (a 4)), (2, .int (nI i2))] ∧ True) (by omega) ⟨by rw [rng_0]; exact hP, by rw [rng_0]; exact hD, hS, lv_sub hl [1, 2, 0] (rfl), trivial⟩ ?_
    rintro i2 H locs ls hle30 ⟨hP, hD, hS, hl, -⟩ ih30
    refine lv_iload_n hx hb dX10_quarterGoes_30 rfl (lv_at hl 2 rfl) ?_
    refine lv_bipush (v := 8) hx hb dX10_quarterGoes_31 (by decide) ?_
    refine n_icmp_ge (tgt := 49) hx hb dX10_quarterGoes_33 (by decide) (u := i2) (v := 8) rfl rfl (by omega) (by omega) (fun cq2 => ?_) (fun cq2 => ?_)
    · skip
      obtain rfl : i2 = 8 := by omega
      have hP : va_P G.1 vwCl (mW G a i j t r n (qg2 t d) ps im kp tx cd bk py pt mt) H := hP
      have hD : va_D A (mW G a i j t r n (qg2 t d) ps im kp tx cd bk py pt mt) := hD
      refine lv_aload_n hx hb dX10_quarterGoes_49 rfl (lv_at hl 1 rfl) ?_
      refine lv_bipush (v := 52) hx hb dX10_quarterGoes_50 (by decide) ?_
      refine lv_dup2_11 hx hb dX10_quarterGoes_52 rfl rfl ?_
      refine n_iald hx hb hK hP 4 0 rfl rfl (j := 52) rfl (by decide) (by decide) dX10_quarterGoes_53 ?_
      refine lv_aload_n hx hb dX10_quarterGoes_54 rfl (lv_at hl 0 rfl) ?_
      refine lv_aload_n hx hb dX10_quarterGoes_55 rfl (lv_at hl 1 rfl) ?_
      refine cR_V (Cn := RX10) (n := 1) (As := [.ref (a 4)]) (rest := [.int ((qg2 t d) 52), .int 52, .ref (a 4)]) C (c_X10_sours_d l G a i j t r n (qg2 t d) ps im kp tx cd bk py pt mt nc np  hT) gX10_quarterGoes_X10_sours rfl ⟨rfl, rfl⟩ hd_X10_sours ⟨(Nat.le_of_ble_eq_true rfl), (Nat.le_of_ble_eq_true rfl)⟩ hK hP (va_recv hK hP (ci := 10) (q0 := 0) rfl rfl) rfl hl.1 rfl (Nat.le_of_ble_eq_true rfl) dX10_quarterGoes_56 ⟨(Nat.le_of_ble_eq_true rfl), (Nat.le_of_ble_eq_true rfl)⟩ ?_
      refine lv_ior hx hb dX10_quarterGoes_59 ?_
      refine n_iast hx hb hK hP hD hS 4 0 rfl rfl (x := (((qg2 t d) 52) ||| (soursU t (qg2 t d) np nc))) (j := 52) rfl (by decide) (by decide) dX10_quarterGoes_60 (wsn := mW G a i j t r n (upd (qg2 t d) 52 (((qg2 t d) 52) ||| (soursU t (qg2 t d) np nc))) ps im kp tx cd bk py pt mt) rfl (fun H locs hP hD hS => ?_)
      have hP : va_P G.1 vwCl (mW G a i j t r n (qg3 t d nc np) ps im kp tx cd bk py pt mt) H := hP
      have hD : va_D A (mW G a i j t r n (qg3 t d nc np) ps im kp tx cd bk py pt mt) := hD
      refine lv_iconst (v := 0) hx hb dX10_quarterGoes_61 (by decide) ?_
      refine lv_istore_n (lv' := [(2, .int 0), (0, .ref (a 0)), (1, .ref (a 4))]) hx hb dX10_quarterGoes_62 rfl hl (by decide) rfl (fun ls hl => ?_)
      refine wl_X (B := 32) (i0 := 0) (Inv := fun i3 H locs ls => va_P G.1 vwCl (mW G a i j t r n (upto (qg3 t d nc np) (fun k => if hasB (qg3 t d nc np 52) (k % 4) then 0 else qg3 t d nc np k) i3) ps im kp tx cd bk py pt mt) H ∧ va_D A (mW G a i j t r n (upto (qg3 t d nc np) (fun k => if hasB (qg3 t d nc np 52) (k % 4) then 0 else qg3 t d nc np k) i3) ps im kp tx cd bk py pt mt) ∧ va_S A zs.heap H locs ∧ lv_has ls 3 [(0, .ref (a 0)), (1, .ref (a 4)), (2, .int (nI i3))] ∧ True) (by omega) ⟨by rw [upto_0]; exact hP, by rw [upto_0]; exact hD, hS, lv_sub hl [1, 2, 0] (rfl), trivial⟩ ?_
      rintro i3 H locs ls hle63 ⟨hP, hD, hS, hl, -⟩ ih63
      have h52 : upto (qg3 t d nc np) (fun k => if hasB (qg3 t d nc np 52) (k % 4) then 0 else qg3 t d nc np k) i3 52 = qg3 t d nc np 52 := upto_at _ _ (by omega)
      refine lv_iload_n hx hb dX10_quarterGoes_63 rfl (lv_at hl 2 rfl) ?_
      refine lv_bipush (v := 32) hx hb dX10_quarterGoes_64 (by decide) ?_
      refine n_icmp_ge (tgt := 102) hx hb dX10_quarterGoes_66 (by decide) (u := i3) (v := 32) rfl rfl (by omega) (by omega) (fun cq3 => ?_) (fun cq3 => ?_)
      · skip
        obtain rfl : i3 = 32 := by omega
        have hP : va_P G.1 vwCl (mW G a i j t r n (qg4 t d nc np) ps im kp tx cd bk py pt mt) H := hP
        have hD : va_D A (mW G a i j t r n (qg4 t d nc np) ps im kp tx cd bk py pt mt) := hD
        refine lv_aload_n hx hb dX10_quarterGoes_102 rfl (lv_at hl 1 rfl) ?_
        refine lv_bipush (v := 53) hx hb dX10_quarterGoes_103 (by decide) ?_
        refine lv_dup2_11 hx hb dX10_quarterGoes_105 rfl rfl ?_
        refine n_iald hx hb hK hP 4 0 rfl rfl (j := 53) rfl (by decide) (by decide) dX10_quarterGoes_106 ?_
        refine lv_iconst (v := 1) hx hb dX10_quarterGoes_107 (by decide) ?_
        refine lv_iadd hx hb dX10_quarterGoes_108 ?_
        refine n_iast hx hb hK hP hD hS 4 0 rfl rfl (x := (((qg4 t d nc np) 53) + 1)) (j := 53) rfl (by decide) (by decide) dX10_quarterGoes_109 (wsn := mW G a i j t r n (upd (qg4 t d nc np) 53 (((qg4 t d nc np) 53) + 1)) ps im kp tx cd bk py pt mt) rfl (fun H locs hP hD hS => ?_)
        have hP : va_P G.1 vwCl (mW G a i j t r n (qgF t d nc np) ps im kp tx cd bk py pt mt) H := by rw [show (qgF t d nc np) = (upd (qg4 t d nc np) 53 (((qg4 t d nc np) 53) + 1)) from rfl]; exact hP
        exact mX_vret hAe C hP hS dX10_quarterGoes_110
      · skip
        refine lv_aload_n hx hb dX10_quarterGoes_69 rfl (lv_at hl 1 rfl) ?_
        refine lv_iconst (v := 0) hx hb dX10_quarterGoes_70 (by decide) ?_
        refine lv_iload_n hx hb dX10_quarterGoes_71 rfl (lv_at hl 2 rfl) ?_
        refine n_iadd hx hb dX10_quarterGoes_72 (u := 0) (v := i3) rfl rfl (j := i3) (by omega) ?_
        refine lv_aload_n hx hb dX10_quarterGoes_73 rfl (lv_at hl 1 rfl) ?_
        refine lv_bipush (v := 52) hx hb dX10_quarterGoes_74 (by decide) ?_
        refine n_iald hx hb hK hP 4 0 rfl rfl (j := 52) rfl (by decide) (by decide) dX10_quarterGoes_76 ?_
        refine lv_iload_n hx hb dX10_quarterGoes_77 rfl (lv_at hl 2 rfl) ?_
        refine lv_iconst (v := 4) hx hb dX10_quarterGoes_78 (by decide) ?_
        refine n_irem hx hb dX10_quarterGoes_79 (u := i3) (v := 4) rfl rfl (by omega) (by omega) (by omega) ?_
        refine cR_S (n := 2) (As := [.int ((upto (qg3 t d nc np) (fun k => if hasB (qg3 t d nc np 52) (k % 4) then 0 else qg3 t d nc np k) i3) 52), .int (nI (i3 % 4))]) (rest := [.int (nI i3), .ref (a 4)]) C (c_X10_has l G    ((upto (qg3 t d nc np) (fun k => if hasB (qg3 t d nc np 52) (k % 4) then 0 else qg3 t d nc np k) i3) 52) (i3 % 4) ) gX10_quarterGoes_X10_has rfl ⟨rfl, rfl⟩ hd_X10_has ⟨(Nat.le_of_ble_eq_true rfl), (Nat.le_of_ble_eq_true rfl)⟩ hK (hP.sub [] rfl) rfl hl.1 rfl (Nat.le_of_ble_eq_true rfl) dX10_quarterGoes_80 ⟨(Nat.le_of_ble_eq_true rfl), (Nat.le_of_ble_eq_true rfl)⟩ ?_
        refine b_if_eq (tgt := 90) hx hb dX10_quarterGoes_83 (by decide) (fun cq4 => ?_) (fun cq4 => ?_)
        · skip
          have QQ := cq4
          refine lv_aload_n hx hb dX10_quarterGoes_90 rfl (lv_at hl 1 rfl) ?_
          refine lv_iconst (v := 0) hx hb dX10_quarterGoes_91 (by decide) ?_
          refine lv_iload_n hx hb dX10_quarterGoes_92 rfl (lv_at hl 2 rfl) ?_
          refine n_iadd hx hb dX10_quarterGoes_93 (u := 0) (v := i3) rfl rfl (j := i3) (by omega) ?_
          refine n_iald hx hb hK hP 4 0 rfl rfl (j := i3) rfl (by omega) (by decide) dX10_quarterGoes_94 ?_
          refine n_iast hx hb hK hP hD hS 4 0 rfl rfl (x := ((upto (qg3 t d nc np) (fun k => if hasB (qg3 t d nc np 52) (k % 4) then 0 else qg3 t d nc np k) i3) i3)) (j := i3) rfl (by omega) (by decide) dX10_quarterGoes_95 (wsn := mW G a i j t r n (upd (upto (qg3 t d nc np) (fun k => if hasB (qg3 t d nc np 52) (k % 4) then 0 else qg3 t d nc np k) i3) i3 ((upto (qg3 t d nc np) (fun k => if hasB (qg3 t d nc np 52) (k % 4) then 0 else qg3 t d nc np k) i3) i3)) ps im kp tx cd bk py pt mt) rfl (fun H locs hP hD hS => ?_)
          refine lv_iinc (v := nI (i3 + 1)) (lv' := [(2, .int (nI (i3 + 1))), (0, .ref (a 0)), (1, .ref (a 4))]) hx hb dX10_quarterGoes_96 hl (k := 2) rfl (by rw [show (nI i3 : Int32) = nI i3 from rfl]; exact nI_add _ 1) (by decide) rfl (fun ls hl => ?_)
          refine lv_goto (tgt := 63) hx hb dX10_quarterGoes_99 (by decide) ?_
          have e5 : (upd (upto (qg3 t d nc np) (fun k => if hasB (qg3 t d nc np 52) (k % 4) then 0 else qg3 t d nc np k) i3) i3 ((upto (qg3 t d nc np) (fun k => if hasB (qg3 t d nc np 52) (k % 4) then 0 else qg3 t d nc np k) i3) i3)) = upto (qg3 t d nc np) (fun k => if hasB (qg3 t d nc np 52) (k % 4) then 0 else qg3 t d nc np k) (i3 + 1) := upto_v (by rw [h52] at QQ; first | exact (if_pos QQ).symm | (rw [upto_at _ _ (Nat.le_refl _)]; exact (if_neg QQ).symm))
          rw [e5] at hP hD
          exact ih63 _ _ _ (by omega) ⟨hP, hD, hS, lv_sub hl [1, 2, 0] (rfl), trivial⟩
        · skip
          have QQ := cq4
          refine lv_iconst (v := 0) hx hb dX10_quarterGoes_86 (by decide) ?_
          refine lv_goto (tgt := 95) hx hb dX10_quarterGoes_87 (by decide) ?_
          refine n_iast hx hb hK hP hD hS 4 0 rfl rfl (x := 0) (j := i3) rfl (by omega) (by decide) dX10_quarterGoes_95 (wsn := mW G a i j t r n (upd (upto (qg3 t d nc np) (fun k => if hasB (qg3 t d nc np 52) (k % 4) then 0 else qg3 t d nc np k) i3) i3 0) ps im kp tx cd bk py pt mt) rfl (fun H locs hP hD hS => ?_)
          refine lv_iinc (v := nI (i3 + 1)) (lv' := [(2, .int (nI (i3 + 1))), (0, .ref (a 0)), (1, .ref (a 4))]) hx hb dX10_quarterGoes_96 hl (k := 2) rfl (by rw [show (nI i3 : Int32) = nI i3 from rfl]; exact nI_add _ 1) (by decide) rfl (fun ls hl => ?_)
          refine lv_goto (tgt := 63) hx hb dX10_quarterGoes_99 (by decide) ?_
          have e6 : (upd (upto (qg3 t d nc np) (fun k => if hasB (qg3 t d nc np 52) (k % 4) then 0 else qg3 t d nc np k) i3) i3 0) = upto (qg3 t d nc np) (fun k => if hasB (qg3 t d nc np 52) (k % 4) then 0 else qg3 t d nc np k) (i3 + 1) := upto_v (by rw [h52] at QQ; first | exact (if_pos QQ).symm | (rw [upto_at _ _ (Nat.le_refl _)]; exact (if_neg QQ).symm))
          rw [e6] at hP hD
          exact ih63 _ _ _ (by omega) ⟨hP, hD, hS, lv_sub hl [1, 2, 0] (rfl), trivial⟩
    · skip
      refine lv_aload_n hx hb dX10_quarterGoes_36 rfl (lv_at hl 1 rfl) ?_
      refine lv_bipush (v := 36) hx hb dX10_quarterGoes_37 (by decide) ?_
      refine lv_iload_n hx hb dX10_quarterGoes_39 rfl (lv_at hl 2 rfl) ?_
      refine n_iadd hx hb dX10_quarterGoes_40 (u := 36) (v := i2) rfl rfl (j := 36 + i2) (by omega) ?_
      refine lv_iconst (v := 0) hx hb dX10_quarterGoes_41 (by decide) ?_
      refine n_iast hx hb hK hP hD hS 4 0 rfl rfl (x := 0) (j := 36 + i2) rfl (by omega) (by decide) dX10_quarterGoes_42 (wsn := mW G a i j t r n (upd (rng (qg1 t d) (fun _ => 0) 36 (36 + i2)) (36 + i2) 0) ps im kp tx cd bk py pt mt) rfl (fun H locs hP hD hS => ?_)
      refine lv_iinc (v := nI (i2 + 1)) (lv' := [(2, .int (nI (i2 + 1))), (0, .ref (a 0)), (1, .ref (a 4))]) hx hb dX10_quarterGoes_43 hl (k := 2) rfl (by rw [show (nI i2 : Int32) = nI i2 from rfl]; exact nI_add _ 1) (by decide) rfl (fun ls hl => ?_)
      refine lv_goto (tgt := 30) hx hb dX10_quarterGoes_46 (by decide) ?_
      have e7 : (upd (rng (qg1 t d) (fun _ => 0) 36 (36 + i2)) (36 + i2) 0) = rng (qg1 t d) (fun _ => 0) 36 (36 + (i2 + 1)) := rng_v (by omega) rfl
      rw [e7] at hP hD
      exact ih30 _ _ _ (by omega) ⟨hP, hD, hS, lv_sub hl [1, 2, 0] (rfl), trivial⟩
  · skip
    refine lv_aload_n hx hb dX10_quarterGoes_8 rfl (lv_at hl 1 rfl) ?_
    refine lv_iconst (v := 0) hx hb dX10_quarterGoes_9 (by decide) ?_
    refine lv_iload_n hx hb dX10_quarterGoes_10 rfl (lv_at hl 2 rfl) ?_
    refine n_iadd hx hb dX10_quarterGoes_11 (u := 0) (v := i1) rfl rfl (j := i1) (by omega) ?_
    refine lv_aload_n hx hb dX10_quarterGoes_12 rfl (lv_at hl 0 rfl) ?_
    refine lv_aload_n hx hb dX10_quarterGoes_13 rfl (lv_at hl 1 rfl) ?_
    refine lv_iconst (v := 0) hx hb dX10_quarterGoes_14 (by decide) ?_
    refine lv_iload_n hx hb dX10_quarterGoes_15 rfl (lv_at hl 2 rfl) ?_
    refine n_iadd hx hb dX10_quarterGoes_16 (u := 0) (v := i1) rfl rfl (j := i1) (by omega) ?_
    refine n_iald hx hb hK hP 4 0 rfl rfl (j := i1) rfl (by omega) (by decide) dX10_quarterGoes_17 ?_
    refine cR_V (Cn := RX10) (n := 1) (As := [.int ((upto d (fun k => growI (d k) (t 1)) i1) i1)]) (rest := [.int (nI i1), .ref (a 4)]) C (c_X10_grows l G a i j t r n (upto d (fun k => growI (d k) (t 1)) i1) ps im kp tx cd bk py pt mt  ((upto d (fun k => growI (d k) (t 1)) i1) i1) ) gX10_quarterGoes_X10_grows rfl ⟨rfl, rfl⟩ hd_X10_grows ⟨(Nat.le_of_ble_eq_true rfl), (Nat.le_of_ble_eq_true rfl)⟩ hK hP (va_recv hK hP (ci := 10) (q0 := 0) rfl rfl) rfl hl.1 rfl (Nat.le_of_ble_eq_true rfl) dX10_quarterGoes_18 ⟨(Nat.le_of_ble_eq_true rfl), (Nat.le_of_ble_eq_true rfl)⟩ ?_
    refine n_iast hx hb hK hP hD hS 4 0 rfl rfl (x := (growI ((upto d (fun k => growI (d k) (t 1)) i1) i1) (t 1))) (j := i1) rfl (by omega) (by decide) dX10_quarterGoes_21 (wsn := mW G a i j t r n (upd (upto d (fun k => growI (d k) (t 1)) i1) i1 (growI ((upto d (fun k => growI (d k) (t 1)) i1) i1) (t 1))) ps im kp tx cd bk py pt mt) rfl (fun H locs hP hD hS => ?_)
    refine lv_iinc (v := nI (i1 + 1)) (lv' := [(2, .int (nI (i1 + 1))), (0, .ref (a 0)), (1, .ref (a 4))]) hx hb dX10_quarterGoes_22 hl (k := 2) rfl (by rw [show (nI i1 : Int32) = nI i1 from rfl]; exact nI_add _ 1) (by decide) rfl (fun ls hl => ?_)
    refine lv_goto (tgt := 2) hx hb dX10_quarterGoes_25 (by decide) ?_
    have e8 : (upd (upto d (fun k => growI (d k) (t 1)) i1) i1 (growI ((upto d (fun k => growI (d k) (t 1)) i1) i1) (t 1))) = upto d (fun k => growI (d k) (t 1)) (i1 + 1) := upto_v (by rw [upto_at _ _ (Nat.le_refl _)])
    rw [e8] at hP hD
    exact ih2 _ _ _ (by omega) ⟨hP, hD, hS, lv_sub hl [1, 2, 0] (rfl), trivial⟩
set_option maxRecDepth 100000 in
set_option maxHeartbeats 4000000 in
theorem c_X10_weds_d (l : Launch) (G : gG) (a : Nat → Nat) (i : Nat → Int32) (j : Nat → Int32) (t : Nat → Int32) (r : Nat → Int32) (n : Nat → Int32) (d : Nat → Int32) (ps : Nat → Int32) (im : Nat → Int32) (kp : Nat → Int32) (tx : Nat → Int32) (cd : Nat → Int32) (bk : Nat → Int32) (py : Nat → Int32) (pt : Nat → Int32) (mt : Nat → Int32) (g : Nat) (m : Nat) (hg : g < 8) (hm : m < 8) : mX l yX10_weds wsX10_weds ({ frames := 1, cells := 0, slots := 0, locals := 21 }) G (mW G a i j t r n d ps im kp tx cd bk py pt mt) (mW G a i j t r n (wedF d g m) ps im kp tx cd bk py pt mt) [.ref (a 0), .ref (a 4), .int (nI g), .int (nI m)] (.returned none) := by
  refine mX.of (cc := cX10_weds) (maxL := 5) (ret := none) (by decide) rfl (Nat.le_of_ble_eq_true rfl) ?_
  intro zp ze zs zm zb zt zc ls A hAe C hP hK hD hS hl
  obtain ⟨hx, hb, hr, hml, hown, hts, hlk⟩ := id C
  have hl : lv_has ls 5 [(0, .ref (a 0)), (1, .ref (a 4)), (2, .int (nI g)), (3, .int (nI m))] := hl
  refine lv_iconst (v := 0) hx hb dX10_weds_0 (by decide) ?_
  refine lv_istore (lv' := [(4, .int 0), (0, .ref (a 0)), (1, .ref (a 4)), (2, .int (nI g)), (3, .int (nI m))]) hx hb dX10_weds_1 hl (by decide) rfl (fun ls hl => ?_)
  refine wl_X (B := 4) (i0 := 0) (Inv := fun i1 H locs ls => va_P G.1 vwCl (mW G a i j t r n (wdU d g m i1) ps im kp tx cd bk py pt mt) H ∧ va_D A (mW G a i j t r n (wdU d g m i1) ps im kp tx cd bk py pt mt) ∧ va_S A zs.heap H locs ∧ lv_has ls 5 [(0, .ref (a 0)), (1, .ref (a 4)), (2, .int (nI g)), (3, .int (nI m)), (4, .int (nI i1))] ∧ True) (by omega) ⟨hP, hD, hS, lv_sub hl [1, 2, 3, 4, 0] (rfl), trivial⟩ ?_
  rintro i1 H locs ls hle3 ⟨hP, hD, hS, hl, -⟩ ih3
  refine lv_iload hx hb dX10_weds_3 (lv_at hl 4 rfl) ?_
  refine lv_iconst (v := 4) hx hb dX10_weds_5 (by decide) ?_
  refine n_icmp_ge (tgt := 63) hx hb dX10_weds_6 (by decide) (u := i1) (v := 4) rfl rfl (by omega) (by omega) (fun cq1 => ?_) (fun cq1 => ?_)
  · skip
    obtain rfl : i1 = 4 := by omega
    have hP : va_P G.1 vwCl (mW G a i j t r n (wdU d g m 4) ps im kp tx cd bk py pt mt) H := hP
    have hD : va_D A (mW G a i j t r n (wdU d g m 4) ps im kp tx cd bk py pt mt) := hD
    refine lv_aload_n hx hb dX10_weds_63 rfl (lv_at hl 1 rfl) ?_
    refine lv_bipush (v := 36) hx hb dX10_weds_64 (by decide) ?_
    refine lv_iload_n hx hb dX10_weds_66 rfl (lv_at hl 2 rfl) ?_
    refine n_iadd hx hb dX10_weds_67 (u := 36) (v := g) rfl rfl (j := 36 + g) (by omega) ?_
    refine lv_dup2_11 hx hb dX10_weds_68 rfl rfl ?_
    refine n_iald hx hb hK hP 4 0 rfl rfl (j := 36 + g) rfl (by omega) (by decide) dX10_weds_69 ?_
    refine lv_aload_n hx hb dX10_weds_70 rfl (lv_at hl 1 rfl) ?_
    refine lv_bipush (v := 36) hx hb dX10_weds_71 (by decide) ?_
    refine lv_iload_n hx hb dX10_weds_73 rfl (lv_at hl 3 rfl) ?_
    refine n_iadd hx hb dX10_weds_74 (u := 36) (v := m) rfl rfl (j := 36 + m) (by omega) ?_
    refine n_iald hx hb hK hP 4 0 rfl rfl (j := 36 + m) rfl (by omega) (by decide) dX10_weds_75 ?_
    refine lv_ior hx hb dX10_weds_76 ?_
    refine n_iast hx hb hK hP hD hS 4 0 rfl rfl (x := (((wdU d g m 4) (36 + g)) ||| ((wdU d g m 4) (36 + m)))) (j := 36 + g) rfl (by omega) (by decide) dX10_weds_77 (wsn := mW G a i j t r n (upd (wdU d g m 4) (36 + g) (((wdU d g m 4) (36 + g)) ||| ((wdU d g m 4) (36 + m)))) ps im kp tx cd bk py pt mt) rfl (fun H locs hP hD hS => ?_)
    refine lv_aload_n hx hb dX10_weds_78 rfl (lv_at hl 1 rfl) ?_
    refine lv_bipush (v := 36) hx hb dX10_weds_79 (by decide) ?_
    refine lv_iload_n hx hb dX10_weds_81 rfl (lv_at hl 3 rfl) ?_
    refine n_iadd hx hb dX10_weds_82 (u := 36) (v := m) rfl rfl (j := 36 + m) (by omega) ?_
    refine lv_iconst (v := 0) hx hb dX10_weds_83 (by decide) ?_
    refine n_iast hx hb hK hP hD hS 4 0 rfl rfl (x := 0) (j := 36 + m) rfl (by omega) (by decide) dX10_weds_84 (wsn := mW G a i j t r n (upd (upd (wdU d g m 4) (36 + g) (((wdU d g m 4) (36 + g)) ||| ((wdU d g m 4) (36 + m)))) (36 + m) 0) ps im kp tx cd bk py pt mt) rfl (fun H locs hP hD hS => ?_)
    refine lv_aload_n hx hb dX10_weds_85 rfl (lv_at hl 1 rfl) ?_
    refine lv_bipush (v := 44) hx hb dX10_weds_86 (by decide) ?_
    refine lv_iload_n hx hb dX10_weds_88 rfl (lv_at hl 2 rfl) ?_
    refine n_iadd hx hb dX10_weds_89 (u := 44) (v := g) rfl rfl (j := 44 + g) (by omega) ?_
    refine lv_iload_n hx hb dX10_weds_90 rfl (lv_at hl 3 rfl) ?_
    refine n_iast hx hb hK hP hD hS 4 0 rfl rfl (x := (nI m)) (j := 44 + g) rfl (by omega) (by decide) dX10_weds_91 (wsn := mW G a i j t r n (upd (upd (upd (wdU d g m 4) (36 + g) (((wdU d g m 4) (36 + g)) ||| ((wdU d g m 4) (36 + m)))) (36 + m) 0) (44 + g) (nI m)) ps im kp tx cd bk py pt mt) rfl (fun H locs hP hD hS => ?_)
    refine lv_aload_n hx hb dX10_weds_92 rfl (lv_at hl 1 rfl) ?_
    refine lv_bipush (v := 44) hx hb dX10_weds_93 (by decide) ?_
    refine lv_iload_n hx hb dX10_weds_95 rfl (lv_at hl 3 rfl) ?_
    refine n_iadd hx hb dX10_weds_96 (u := 44) (v := m) rfl rfl (j := 44 + m) (by omega) ?_
    refine lv_iload_n hx hb dX10_weds_97 rfl (lv_at hl 2 rfl) ?_
    refine n_iast hx hb hK hP hD hS 4 0 rfl rfl (x := (nI g)) (j := 44 + m) rfl (by omega) (by decide) dX10_weds_98 (wsn := mW G a i j t r n (upd (upd (upd (upd (wdU d g m 4) (36 + g) (((wdU d g m 4) (36 + g)) ||| ((wdU d g m 4) (36 + m)))) (36 + m) 0) (44 + g) (nI m)) (44 + m) (nI g)) ps im kp tx cd bk py pt mt) rfl (fun H locs hP hD hS => ?_)
    have hP : va_P G.1 vwCl (mW G a i j t r n (wedF d g m) ps im kp tx cd bk py pt mt) H := by rw [show (wedF d g m) = (upd (upd (upd (upd (wdU d g m 4) (36 + g) (((wdU d g m 4) (36 + g)) ||| ((wdU d g m 4) (36 + m)))) (36 + m) 0) (44 + g) (nI m)) (44 + m) (nI g)) from rfl]; exact hP
    exact mX_vret hAe C hP hS dX10_weds_99
  · skip
    refine lv_aload_n hx hb dX10_weds_9 rfl (lv_at hl 1 rfl) ?_
    refine lv_iconst (v := 0) hx hb dX10_weds_10 (by decide) ?_
    refine lv_iconst (v := 4) hx hb dX10_weds_11 (by decide) ?_
    refine lv_iload_n hx hb dX10_weds_12 rfl (lv_at hl 2 rfl) ?_
    refine n_imul hx hb dX10_weds_13 (u := 4) (v := g) rfl rfl (j := 4 * g) (by omega) ?_
    refine n_iadd hx hb dX10_weds_14 (u := 0) (v := 4 * g) rfl rfl (j := 4 * g) (by omega) ?_
    refine lv_iload hx hb dX10_weds_15 (lv_at hl 4 rfl) ?_
    refine n_iadd hx hb dX10_weds_17 (u := 4 * g) (v := i1) rfl rfl (j := (4 * g) + i1) (by omega) ?_
    refine lv_aload_n hx hb dX10_weds_18 rfl (lv_at hl 1 rfl) ?_
    refine lv_iconst (v := 0) hx hb dX10_weds_19 (by decide) ?_
    refine lv_iconst (v := 4) hx hb dX10_weds_20 (by decide) ?_
    refine lv_iload_n hx hb dX10_weds_21 rfl (lv_at hl 2 rfl) ?_
    refine n_imul hx hb dX10_weds_22 (u := 4) (v := g) rfl rfl (j := 4 * g) (by omega) ?_
    refine n_iadd hx hb dX10_weds_23 (u := 0) (v := 4 * g) rfl rfl (j := 4 * g) (by omega) ?_
    refine lv_iload hx hb dX10_weds_24 (lv_at hl 4 rfl) ?_
    refine n_iadd hx hb dX10_weds_26 (u := 4 * g) (v := i1) rfl rfl (j := (4 * g) + i1) (by omega) ?_
    refine n_iald hx hb hK hP 4 0 rfl rfl (j := (4 * g) + i1) rfl (by omega) (by decide) dX10_weds_27 ?_
    refine lv_aload_n hx hb dX10_weds_28 rfl (lv_at hl 1 rfl) ?_
    refine lv_iconst (v := 0) hx hb dX10_weds_29 (by decide) ?_
    refine lv_iconst (v := 4) hx hb dX10_weds_30 (by decide) ?_
    refine lv_iload_n hx hb dX10_weds_31 rfl (lv_at hl 3 rfl) ?_
    refine n_imul hx hb dX10_weds_32 (u := 4) (v := m) rfl rfl (j := 4 * m) (by omega) ?_
    refine n_iadd hx hb dX10_weds_33 (u := 0) (v := 4 * m) rfl rfl (j := 4 * m) (by omega) ?_
    refine lv_iload hx hb dX10_weds_34 (lv_at hl 4 rfl) ?_
    refine n_iadd hx hb dX10_weds_36 (u := 4 * m) (v := i1) rfl rfl (j := (4 * m) + i1) (by omega) ?_
    refine n_iald hx hb hK hP 4 0 rfl rfl (j := (4 * m) + i1) rfl (by omega) (by decide) dX10_weds_37 ?_
    refine lv_iadd hx hb dX10_weds_38 ?_
    refine lv_sipush (v := 9999) hx hb dX10_weds_39 (by decide) ?_
    refine cR_S (n := 2) (As := [.int (((wdU d g m i1) ((4 * g) + i1)) + ((wdU d g m i1) ((4 * m) + i1))), .int 9999]) (rest := [.int (nI ((4 * g) + i1)), .ref (a 4)]) C (c_X10_lesser l G    (((wdU d g m i1) ((4 * g) + i1)) + ((wdU d g m i1) ((4 * m) + i1))) 9999 ) gX10_weds_X10_lesser rfl ⟨rfl, rfl⟩ hd_X10_lesser ⟨(Nat.le_of_ble_eq_true rfl), (Nat.le_of_ble_eq_true rfl)⟩ hK (hP.sub [] rfl) rfl hl.1 rfl (Nat.le_of_ble_eq_true rfl) dX10_weds_42 ⟨(Nat.le_of_ble_eq_true rfl), (Nat.le_of_ble_eq_true rfl)⟩ ?_
    refine n_iast hx hb hK hP hD hS 4 0 rfl rfl (x := (lessI (((wdU d g m i1) ((4 * g) + i1)) + ((wdU d g m i1) ((4 * m) + i1))) 9999)) (j := (4 * g) + i1) rfl (by omega) (by decide) dX10_weds_45 (wsn := mW G a i j t r n (upd (wdU d g m i1) ((4 * g) + i1) (lessI (((wdU d g m i1) ((4 * g) + i1)) + ((wdU d g m i1) ((4 * m) + i1))) 9999)) ps im kp tx cd bk py pt mt) rfl (fun H locs hP hD hS => ?_)
    refine lv_aload_n hx hb dX10_weds_46 rfl (lv_at hl 1 rfl) ?_
    refine lv_iconst (v := 0) hx hb dX10_weds_47 (by decide) ?_
    refine lv_iconst (v := 4) hx hb dX10_weds_48 (by decide) ?_
    refine lv_iload_n hx hb dX10_weds_49 rfl (lv_at hl 3 rfl) ?_
    refine n_imul hx hb dX10_weds_50 (u := 4) (v := m) rfl rfl (j := 4 * m) (by omega) ?_
    refine n_iadd hx hb dX10_weds_51 (u := 0) (v := 4 * m) rfl rfl (j := 4 * m) (by omega) ?_
    refine lv_iload hx hb dX10_weds_52 (lv_at hl 4 rfl) ?_
    refine n_iadd hx hb dX10_weds_54 (u := 4 * m) (v := i1) rfl rfl (j := (4 * m) + i1) (by omega) ?_
    refine lv_iconst (v := 0) hx hb dX10_weds_55 (by decide) ?_
    refine n_iast hx hb hK hP hD hS 4 0 rfl rfl (x := 0) (j := (4 * m) + i1) rfl (by omega) (by decide) dX10_weds_56 (wsn := mW G a i j t r n (upd (upd (wdU d g m i1) ((4 * g) + i1) (lessI (((wdU d g m i1) ((4 * g) + i1)) + ((wdU d g m i1) ((4 * m) + i1))) 9999)) ((4 * m) + i1) 0) ps im kp tx cd bk py pt mt) rfl (fun H locs hP hD hS => ?_)
    refine lv_iinc (v := nI (i1 + 1)) (lv' := [(4, .int (nI (i1 + 1))), (0, .ref (a 0)), (1, .ref (a 4)), (2, .int (nI g)), (3, .int (nI m))]) hx hb dX10_weds_57 hl (k := 4) rfl (by rw [show (nI i1 : Int32) = nI i1 from rfl]; exact nI_add _ 1) (by decide) rfl (fun ls hl => ?_)
    refine lv_goto (tgt := 3) hx hb dX10_weds_60 (by decide) ?_
    have e2 : (upd (upd (wdU d g m i1) ((4 * g) + i1) (lessI (((wdU d g m i1) ((4 * g) + i1)) + ((wdU d g m i1) ((4 * m) + i1))) 9999)) ((4 * m) + i1) 0) = wdU d g m (i1 + 1) := rfl
    rw [e2] at hP hD
    exact ih3 _ _ _ (by omega) ⟨hP, hD, hS, lv_sub hl [1, 2, 3, 4, 0] (rfl), trivial⟩
