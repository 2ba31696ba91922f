theorem hd_X10_paysBy : yX10_paysBy.cls = RX10 ∧ yX10_paysBy.cls ≠ "java/lang/invoke/MethodHandle" ∧ yX10_paysBy.cls ≠ "java/lang/invoke/VarHandle" ∧ (parseMethodDescriptor yX10_paysBy.desc).map (fun d => d.parameters.length) = some 3 := by decide +kernel
set_option maxRecDepth 100000 in
set_option maxHeartbeats 4000000 in
theorem c_X10_paysBy (l : Launch) (G : gG) (a : Nat → Nat) (i : Nat → Int32) (j : Nat → Int32) (t : Nat → Int32) (r : Nat → Int32) (n : Nat → Int32) (d : Nat → Int32) (ps : Nat → Int32) (im : Nat → Int32) (kp : Nat → Int32) (tx : Nat → Int32) (cd : Nat → Int32) (bk : Nat → Int32) (py : Nat → Int32) (pt : Nat → Int32) (mt : Nat → Int32) (o : Int32) (r0 : Int32) (c : Nat) (hc : c < 4) (hL : loHi t c) : mR l yX10_paysBy wsX10_paysBy ({ frames := 2, cells := 0, slots := 0, locals := 42 }) G (mW G a i j t r n d ps im kp tx cd bk py pt mt) [.ref (a 0), .int o, .int r0, .int (nI c)] (pbR t pt c o r0) := by
  refine mR.of (cc := cX10_paysBy) (maxL := 5) (ret := (some .int)) (by decide) rfl (Nat.le_of_ble_eq_true rfl) ?_
  intro zp ze zs zm zb zt zc ls C hP hK hl
  obtain ⟨hx, hb, hr, hml, hown, hts, hlk⟩ := id C
  have hl : lv_has ls 5 [(0, .ref (a 0)), (1, .int o), (2, .int r0), (3, .int (nI c))] := hl
  obtain ⟨lo, hi, hlo, hhi, hlo2, hhi2⟩ := hL
  have k0 := hts (.fieldLink RX10 7 "DebtDowryModel" "town" "[I") (by decide +kernel)
  have k1 := (fun w h => by revert w; decide +kernel : ∀ w ∈ wsX100, w ∈ wsX10_paysBy)
  have k2 := hts (.constant RX10 248 (1000000)) (by decide +kernel)
  have k3 := hts (.fieldLink RX10 48 "DebtDowryModel" "paysThen" "[I") (by decide +kernel)
  refine lv_aload_n hx hb dX10_paysBy_0 rfl (lv_at hl 0 rfl) ?_
  refine lv_iload_n hx hb dX10_paysBy_1 rfl (lv_at hl 2 rfl) ?_
  refine cR_V (Cn := RX10) (n := 1) (As := [.int r0]) (rest := []) C (c_X10_grows l G a i j t r n d ps im kp tx cd bk py pt mt  r0 ) gX10_paysBy_X10_grows rfl ⟨rfl, rfl⟩ hd_X10_grows ⟨(Nat.le_of_ble_eq_true rfl), (Nat.le_of_ble_eq_true rfl)⟩ hK hP (va_recv hK hP (ci := 10) (q0 := 0) rfl rfl) rfl hl.1 rfl (Nat.le_of_ble_eq_true rfl) dX10_paysBy_2 ⟨(Nat.le_of_ble_eq_true rfl), (Nat.le_of_ble_eq_true rfl)⟩ ?_
  refine lv_istore (lv' := [(4, .int (growI r0 (t 1))), (0, .ref (a 0)), (1, .int o), (2, .int r0), (3, .int (nI c))]) hx hb dX10_paysBy_5 hl (by decide) rfl (fun ls hl => ?_)
  refine lv_iload hx hb dX10_paysBy_7 (lv_at hl 0 rfl) ?_
  refine lv_i2l (v := (growI r0 (t 1)).toInt64) hx hb dX10_paysBy_9 rfl ?_
  refine lv_aload_n hx hb dX10_paysBy_10 rfl (lv_at hl 1 rfl) ?_
  refine va_get (D := G.1) (ci := 10) (v := .ref (a 1)) (C := RX10) (T := TX10) (N := 25) hx hb hts k1 hown hK hP 0 rfl rfl 0 (by decide) k0 (fun _ h9 => h9) rfl dX10_paysBy_11 ?_
  refine lv_bipush (v := 9) hx hb dX10_paysBy_14 (by decide) ?_
  refine lv_iload_n hx hb dX10_paysBy_16 rfl (lv_at hl 4 rfl) ?_
  refine n_iadd hx hb dX10_paysBy_17 (u := 9) (v := c) rfl rfl (j := 9 + c) (by omega) ?_
  refine n_iald hx hb hK hP 1 0 rfl rfl (j := 9 + c) rfl (by omega) (by decide) dX10_paysBy_18 ?_
  refine lv_i2l (v := (t (9 + c)).toInt64) hx hb dX10_paysBy_19 rfl ?_
  refine lv_aload_n hx hb dX10_paysBy_20 rfl (lv_at hl 1 rfl) ?_
  refine va_get (D := G.1) (ci := 10) (v := .ref (a 1)) (C := RX10) (T := TX10) (N := 25) hx hb hts k1 hown hK hP 0 rfl rfl 0 (by decide) k0 (fun _ h9 => h9) rfl dX10_paysBy_21 ?_
  refine lv_bipush (v := 13) hx hb dX10_paysBy_24 (by decide) ?_
  refine lv_iload_n hx hb dX10_paysBy_26 rfl (lv_at hl 4 rfl) ?_
  refine n_iadd hx hb dX10_paysBy_27 (u := 13) (v := c) rfl rfl (j := 13 + c) (by omega) ?_
  refine n_iald hx hb hK hP 1 0 rfl rfl (j := 13 + c) rfl (by omega) (by decide) dX10_paysBy_28 ?_
  refine lv_i2l (v := (t (13 + c)).toInt64) hx hb dX10_paysBy_29 rfl ?_
  refine cR_S (n := 3) (As := [.long ((growI r0 (t 1)).toInt64), .long ((t (9 + c)).toInt64), .long ((t (13 + c)).toInt64)]) (rest := []) C (c_X10_in l G    (growI r0 (t 1)) ((growI r0 (t 1)).toInt64) rfl (t (9 + c)) ((t (9 + c)).toInt64) rfl (t (13 + c)) ((t (13 + c)).toInt64) rfl ) gX10_paysBy_X10_in rfl ⟨rfl, rfl⟩ hd_X10_in ⟨(Nat.le_of_ble_eq_true rfl), (Nat.le_of_ble_eq_true rfl)⟩ hK (hP.sub [] rfl) rfl hl.1 rfl (Nat.le_of_ble_eq_true rfl) dX10_paysBy_30 ⟨(Nat.le_of_ble_eq_true rfl), (Nat.le_of_ble_eq_true rfl)⟩ ?_
  refine b_if_eq (tgt := 50) hx hb dX10_paysBy_33 (by decide) (fun cq1 => ?_) (fun cq1 => ?_)
  · skip
    refine lv_ldc hx hb hown k2 dX10_paysBy_50 ?_
    exact mR_iret C dX10_paysBy_52 (by unfold pbR; rw [if_neg cq1])
  · skip
    obtain ⟨vv, hv1, hv2, hve⟩ := inB_rng hlo hhi (by omega) (by omega) cq1
    have hcv : cl (growI r0 (t 1)) = vv := by rw [hve]; exact cl_nI (by omega)
    refine lv_iload_n hx hb dX10_paysBy_36 rfl (lv_at hl 2 rfl) ?_
    refine lv_iload_n hx hb dX10_paysBy_37 rfl (lv_at hl 3 rfl) ?_
    refine lv_isub hx hb dX10_paysBy_38 ?_
    refine lv_aload_n hx hb dX10_paysBy_39 rfl (lv_at hl 1 rfl) ?_
    refine va_get (D := G.1) (ci := 10) (v := .ref (a 12)) (C := RX10) (T := TX10) (N := 25) hx hb hts k1 hown hK hP 0 rfl rfl 23 (by decide) k3 (fun _ h9 => h9) rfl dX10_paysBy_40 ?_
    refine lv_iload hx hb dX10_paysBy_43 (lv_at hl 0 rfl) ?_
    refine n_iald hx hb hK hP 12 0 rfl rfl (j := vv) hve (by omega) (by decide) dX10_paysBy_45 ?_
    refine lv_iadd hx hb dX10_paysBy_46 ?_
    refine lv_goto (tgt := 52) hx hb dX10_paysBy_47 (by decide) ?_
    exact mR_iret C dX10_paysBy_52 (by unfold pbR; rw [if_pos cq1, hcv])
theorem hd_X10_plan : yX10_plan.cls = RX10 ∧ yX10_plan.cls ≠ "java/lang/invoke/MethodHandle" ∧ yX10_plan.cls ≠ "java/lang/invoke/VarHandle" ∧ (parseMethodDescriptor yX10_plan.desc).map (fun d => d.parameters.length) = some 4 := by decide +kernel
set_option maxRecDepth 100000 in
set_option maxHeartbeats 4000000 in
theorem c_X10_plan (l : Launch) (G : gG) (a : Nat → Nat) (i : Nat → Int32) (j : Nat → Int32) (t : Nat → Int32) (r : Nat → Int32) (n : Nat → Int32) (d : Nat → Int32) (ps : Nat → Int32) (im : Nat → Int32) (kp : Nat → Int32) (tx : Nat → Int32) (cd : Nat → Int32) (bk : Nat → Int32) (py : Nat → Int32) (pt : Nat → Int32) (mt : Nat → Int32) (nc : Nat) (np : Nat) (p : Int32) (c : Int32) (x : Int32) (w : Int32) (hT : tw t nc np) (hLH : ∀ c, c < nc → loHi t c) (hO : ∀ k, k < 32 → ∃ o, o ≤ 9999 ∧ n k = nI o) : mE l yX10_plan wsX10_plan ({ frames := 3, cells := 0, slots := 0, locals := 66 }) G (mW G a i j t r n d ps im kp tx cd bk py pt mt) (fun u : (Nat → Int32) × (Nat → Int32) => mW G a i j t r n d ps im kp tx cd bk u.1 u.2 mt) [.ref (a 0), .int p, .int c, .int x, .int w] (.returned (some (.int (plR t n p c x w)))) := by
  refine mE.of (cc := cX10_plan) (maxL := 10) (ret := (some .int)) (by decide) rfl (Nat.le_of_ble_eq_true rfl) ?_
  intro zp ze zs zm zb zt zc ls A hAe C hP hK hD hS hl
  obtain ⟨hx, hb, hr, hml, hown, hts, hlk⟩ := id C
  have hl : lv_has ls 10 [(0, .ref (a 0)), (1, .int p), (2, .int c), (3, .int x), (4, .int w)] := hl
  have hT2 := hT.2.2
  have k0 := hts (.constant RX10 175 (-1000000001)) (by decide +kernel)
  have k1 := hts (.constantLong RX10 254 (8)) (by decide +kernel)
  have k2 := hts (.constant RX10 80 (-1000000002)) (by decide +kernel)
  have k3 := hts (.fieldLink RX10 16 "DebtDowryModel" "now" "[I") (by decide +kernel)
  have k4 := (fun w h => by revert w; decide +kernel : ∀ w ∈ wsX100, w ∈ wsX10_plan)
  have k5 := hts (.constant RX10 260 (500000)) (by decide +kernel)
  have k6 := hts (.constant RX10 248 (1000000)) (by decide +kernel)
  have k7 := hts (.fieldLink RX10 45 "DebtDowryModel" "pays" "[I") (by decide +kernel)
  have k8 := hts (.fieldLink RX10 48 "DebtDowryModel" "paysThen" "[I") (by decide +kernel)
  refine lv_aload_n hx hb dX10_plan_0 rfl (lv_at hl 0 rfl) ?_
  refine lv_iload_n hx hb dX10_plan_1 rfl (lv_at hl 1 rfl) ?_
  refine cR_V (Cn := RX10) (n := 1) (As := [.int p]) (rest := []) C (c_X10_isPerson l G a i j t r n d ps im kp tx cd bk py pt mt  p ) gX10_plan_X10_isPerson rfl ⟨rfl, rfl⟩ hd_X10_isPerson ⟨(Nat.le_of_ble_eq_true rfl), (Nat.le_of_ble_eq_true rfl)⟩ hK hP (va_recv hK hP (ci := 10) (q0 := 0) rfl rfl) rfl hl.1 rfl (Nat.le_of_ble_eq_true rfl) dX10_plan_2 ⟨(Nat.le_of_ble_eq_true rfl), (Nat.le_of_ble_eq_true rfl)⟩ ?_
  refine b_if_eq (tgt := 16) hx hb dX10_plan_5 (by decide) (fun cq1 => ?_) (fun cq1 => ?_)
  · skip
    refine lv_ldc hx hb hown k0 dX10_plan_16 ?_
    exact mE_iret hAe C (u := (py, pt)) hP hS dX10_plan_18 (by simp [plR, cq1])
  · skip
    obtain ⟨pp, hpp, rfl⟩ := inB_nat hT.2.1 (by omega) cq1
    have hcl_pp := cl_nI (n := pp) (by omega)
    have hPq := cq1
    refine lv_aload_n hx hb dX10_plan_8 rfl (lv_at hl 0 rfl) ?_
    refine lv_iload_n hx hb dX10_plan_9 rfl (lv_at hl 2 rfl) ?_
    refine cR_V (Cn := RX10) (n := 1) (As := [.int c]) (rest := []) C (c_X10_isCreditor l G a i j t r n d ps im kp tx cd bk py pt mt  c ) gX10_plan_X10_isCreditor rfl ⟨rfl, rfl⟩ hd_X10_isCreditor ⟨(Nat.le_of_ble_eq_true rfl), (Nat.le_of_ble_eq_true rfl)⟩ hK hP (va_recv hK hP (ci := 10) (q0 := 0) rfl rfl) rfl hl.1 rfl (Nat.le_of_ble_eq_true rfl) dX10_plan_10 ⟨(Nat.le_of_ble_eq_true rfl), (Nat.le_of_ble_eq_true rfl)⟩ ?_
    refine b_if_ne (tgt := 19) hx hb dX10_plan_13 (by decide) (fun cq2 => ?_) (fun cq2 => ?_)
    · skip
      obtain ⟨cc, hcc, rfl⟩ := inB_nat hT.1 (by omega) cq2
      have hcl_cc := cl_nI (n := cc) (by omega)
      have hCq := cq2
      refine lv_iload_n hx hb dX10_plan_19 rfl (lv_at hl 3 rfl) ?_
      refine lv_i2l (v := x.toInt64) hx hb dX10_plan_20 rfl ?_
      refine lv_lconst (v := 1) hx hb dX10_plan_21 (by decide) ?_
      refine lv_ldc2 hx hb hown k1 dX10_plan_22 ?_
      refine cR_S (n := 3) (As := [.long x.toInt64, .long 1, .long 8]) (rest := []) C (c_X10_in l G    x x.toInt64 rfl 1 1 rfl 8 8 rfl ) gX10_plan_X10_in rfl ⟨rfl, rfl⟩ hd_X10_in ⟨(Nat.le_of_ble_eq_true rfl), (Nat.le_of_ble_eq_true rfl)⟩ hK (hP.sub [] rfl) rfl hl.1 rfl (Nat.le_of_ble_eq_true rfl) dX10_plan_25 ⟨(Nat.le_of_ble_eq_true rfl), (Nat.le_of_ble_eq_true rfl)⟩ ?_
      refine b_if_eq (tgt := 42) hx hb dX10_plan_28 (by decide) (fun cq3 => ?_) (fun cq3 => ?_)
      · skip
        refine lv_ldc hx hb hown k2 dX10_plan_42 ?_
        exact mE_iret hAe C (u := (py, pt)) hP hS dX10_plan_44 (by simp [plR, cq1, hcl_pp, cq2, hcl_cc, cq3])
      · skip
        obtain ⟨kk, hkk1, hkk2, rfl⟩ := inB_rng (a := 1) (b := 8) rfl rfl (by decide) (by decide) (cq3)
        have hcl_kk := cl_nI (n := kk) (by omega)
        have hXq := cq3
        refine lv_iload hx hb dX10_plan_31 (lv_at hl 4 rfl) ?_
        refine lv_i2l (v := w.toInt64) hx hb dX10_plan_33 rfl ?_
        refine lv_lconst (v := 0) hx hb dX10_plan_34 (by decide) ?_
        refine lv_lconst (v := 1) hx hb dX10_plan_35 (by decide) ?_
        refine cR_S (n := 3) (As := [.long w.toInt64, .long 0, .long 1]) (rest := []) C (c_X10_in l G    w w.toInt64 rfl 0 0 rfl 1 1 rfl ) gX10_plan_X10_in rfl ⟨rfl, rfl⟩ hd_X10_in ⟨(Nat.le_of_ble_eq_true rfl), (Nat.le_of_ble_eq_true rfl)⟩ hK (hP.sub [] rfl) rfl hl.1 rfl (Nat.le_of_ble_eq_true rfl) dX10_plan_36 ⟨(Nat.le_of_ble_eq_true rfl), (Nat.le_of_ble_eq_true rfl)⟩ ?_
        refine b_if_ne (tgt := 45) hx hb dX10_plan_39 (by decide) (fun cq4 => ?_) (fun cq4 => ?_)
        · skip
          have hWq := cq4
          refine lv_aload_n hx hb dX10_plan_45 rfl (lv_at hl 0 rfl) ?_
          refine va_get (D := G.1) (ci := 10) (v := .ref (a 3)) (C := RX10) (T := TX10) (N := 25) hx hb hts k4 hown hK hP 0 rfl rfl 2 (by decide) k3 (fun _ h9 => h9) rfl dX10_plan_46 ?_
          refine lv_bipush (v := 52) hx hb dX10_plan_49 (by decide) ?_
          refine n_iald hx hb hK hP 3 0 rfl rfl (j := 52) rfl (by decide) (by decide) dX10_plan_51 ?_
          refine lv_iload_n hx hb dX10_plan_52 rfl (lv_at hl 2 rfl) ?_
          refine cR_S (n := 2) (As := [.int (n 52), .int (nI cc)]) (rest := []) C (c_X10_has l G    (n 52) cc ) gX10_plan_X10_has rfl ⟨rfl, rfl⟩ hd_X10_has ⟨(Nat.le_of_ble_eq_true rfl), (Nat.le_of_ble_eq_true rfl)⟩ hK (hP.sub [] rfl) rfl hl.1 rfl (Nat.le_of_ble_eq_true rfl) dX10_plan_53 ⟨(Nat.le_of_ble_eq_true rfl), (Nat.le_of_ble_eq_true rfl)⟩ ?_
          refine b_if_eq (tgt := 61) hx hb dX10_plan_56 (by decide) (fun cq5 => ?_) (fun cq5 => ?_)
          · skip
            have hFq := cq5
            refine lv_iconst (v := 0) hx hb dX10_plan_61 (by decide) ?_
            refine lv_istore (lv' := [(5, .int 0), (0, .ref (a 0)), (1, .int (nI pp)), (2, .int (nI cc)), (3, .int (nI kk)), (4, .int w)]) hx hb dX10_plan_62 hl (by decide) rfl (fun ls hl => ?_)
            refine wl_X (B := 1000) (i0 := 0) (Inv := fun i1 H locs ls => va_P G.1 vwCl (mW G a i j t r n d ps im kp tx cd bk py (upto pt (fun _ => 0) i1) mt) H ∧ va_D A (mW G a i j t r n d ps im kp tx cd bk py (upto pt (fun _ => 0) i1) mt) ∧ va_S A zs.heap H locs ∧ lv_has ls 10 [(0, .ref (a 0)), (1, .int (nI pp)), (2, .int (nI cc)), (3, .int (nI kk)), (4, .int w), (5, .int (nI i1))] ∧ True) (by omega) ⟨by rw [upto_0]; exact hP, by rw [upto_0]; exact hD, hS, lv_sub hl [1, 2, 3, 4, 5, 0] (rfl), trivial⟩ ?_
            rintro i1 H locs ls hle64 ⟨hP, hD, hS, hl, -⟩ ih64
            refine lv_iload hx hb dX10_plan_64 (lv_at hl 5 rfl) ?_
            refine lv_sipush (v := 1000) hx hb dX10_plan_66 (by decide) ?_
            refine n_icmp_ge (tgt := 86) hx hb dX10_plan_69 (by decide) (u := i1) (v := 1000) rfl rfl (by omega) (by omega) (fun cq6 => ?_) (fun cq6 => ?_)
            · skip
              obtain rfl : i1 = 1000 := by omega
              refine lv_iload_n hx hb dX10_plan_86 rfl (lv_at hl 3 rfl) ?_
              refine lv_istore (lv' := [(5, .int (nI kk)), (0, .ref (a 0)), (1, .int (nI pp)), (2, .int (nI cc)), (3, .int (nI kk)), (4, .int w)]) hx hb dX10_plan_87 hl (by decide) rfl (fun ls hl => ?_)
              refine wl_X (B := (kk - 1)) (i0 := 0) (Inv := fun i2 H locs ls => ∃ (py_89 : Nat → Int32), ∃ (pt_89 : Nat → Int32), va_P G.1 vwCl (mW G a i j t r n d ps im kp tx cd bk py_89 pt_89 mt) H ∧ va_D A (mW G a i j t r n d ps im kp tx cd bk py_89 pt_89 mt) ∧ va_S A zs.heap H locs ∧ lv_has ls 10 [(0, .ref (a 0)), (1, .int (nI pp)), (2, .int (nI cc)), (3, .int (nI kk)), (4, .int w), (5, .int (nI (kk - i2)))] ∧ (∀ v, v < 1000 → pt_89 v = plT t cc i2 v)) (by omega) ⟨py, upto pt (fun _ => 0) 1000, hP, hD, hS, lv_sub hl [1, 2, 3, 4, 5, 0] (rfl), (fun v hv => if_pos hv)⟩ ?_
              rintro i2 H locs ls hle89 ⟨py_89, pt_89, hP, hD, hS, hl, hpt⟩ ih89
              refine lv_iload hx hb dX10_plan_89 (lv_at hl 5 rfl) ?_
              refine lv_iconst (v := 1) hx hb dX10_plan_91 (by decide) ?_
              refine n_icmp_le (tgt := 178) hx hb dX10_plan_92 (by decide) (u := kk - i2) (v := 1) rfl rfl (by omega) (by omega) (fun cq7 => ?_) (fun cq7 => ?_)
              · skip
                obtain rfl : i2 = kk - 1 := by omega
                refine lv_aload_n hx hb dX10_plan_178 rfl (lv_at hl 0 rfl) ?_
                refine va_get (D := G.1) (ci := 10) (v := .ref (a 3)) (C := RX10) (T := TX10) (N := 25) hx hb hts k4 hown hK hP 0 rfl rfl 2 (by decide) k3 (fun _ h9 => h9) rfl dX10_plan_179 ?_
                refine lv_iconst (v := 0) hx hb dX10_plan_182 (by decide) ?_
                refine lv_iconst (v := 4) hx hb dX10_plan_183 (by decide) ?_
                refine lv_iload_n hx hb dX10_plan_184 rfl (lv_at hl 1 rfl) ?_
                refine n_imul hx hb dX10_plan_185 (u := 4) (v := pp) rfl rfl (j := 4 * pp) (by omega) ?_
                refine n_iadd hx hb dX10_plan_186 (u := 0) (v := 4 * pp) rfl rfl (j := 4 * pp) (by omega) ?_
                refine lv_iload_n hx hb dX10_plan_187 rfl (lv_at hl 2 rfl) ?_
                refine n_iadd hx hb dX10_plan_188 (u := 4 * pp) (v := cc) rfl rfl (j := (4 * pp) + cc) (by omega) ?_
                refine n_iald hx hb hK hP 3 0 rfl rfl (j := (4 * pp) + cc) rfl (by omega) (by decide) dX10_plan_189 ?_
                obtain ⟨ow, how, hoe⟩ := hO (4 * pp + cc) (by omega)
                obtain ⟨mn, hmn⟩ : ∃ z, z = min ow 999 := ⟨_, rfl⟩
                have hmn3 : mn ≤ 999 := by omega
                have hmn2 : min (cl (n (4 * pp + cc))) 999 = mn := by rw [hoe, cl_nI (by omega)]; exact hmn.symm
                refine lv_istore (lv' := [(5, .int (n ((4 * pp) + cc))), (0, .ref (a 0)), (1, .int (nI pp)), (2, .int (nI cc)), (3, .int (nI kk)), (4, .int w)]) hx hb dX10_plan_190 hl (by decide) rfl (fun ls hl => ?_)
                refine lv_ldcw hx hb hown k5 dX10_plan_192 ?_
                refine lv_istore (lv' := [(6, .int 500000), (5, .int (n ((4 * pp) + cc))), (0, .ref (a 0)), (1, .int (nI pp)), (2, .int (nI cc)), (3, .int (nI kk)), (4, .int w)]) hx hb dX10_plan_195 hl (by decide) rfl (fun ls hl => ?_)
                refine lv_iconst (v := (-1)) hx hb dX10_plan_197 (by decide) ?_
                refine lv_istore (lv' := [(7, .int (-1)), (6, .int 500000), (5, .int (n ((4 * pp) + cc))), (0, .ref (a 0)), (1, .int (nI pp)), (2, .int (nI cc)), (3, .int (nI kk)), (4, .int w)]) hx hb dX10_plan_198 hl (by decide) rfl (fun ls hl => ?_)
                refine lv_iload hx hb dX10_plan_200 (lv_at hl 2 rfl) ?_
                refine lv_sipush (v := 999) hx hb dX10_plan_202 (by decide) ?_
                refine cR_S (n := 2) (As := [.int (n ((4 * pp) + cc)), .int 999]) (rest := []) C (c_X10_lesser l G    (n ((4 * pp) + cc)) 999 ) gX10_plan_X10_lesser rfl ⟨rfl, rfl⟩ hd_X10_lesser ⟨(Nat.le_of_ble_eq_true rfl), (Nat.le_of_ble_eq_true rfl)⟩ hK (hP.sub [] rfl) rfl hl.1 rfl (Nat.le_of_ble_eq_true rfl) dX10_plan_205 ⟨(Nat.le_of_ble_eq_true rfl), (Nat.le_of_ble_eq_true rfl)⟩ ?_
                rw [show lessI (n (4 * pp + cc)) 999 = nI mn from by rw [hoe, hmn]; exact less_mn (by omega)]
                refine lv_istore (lv' := [(8, .int (nI mn)), (7, .int (-1)), (6, .int 500000), (5, .int (n ((4 * pp) + cc))), (0, .ref (a 0)), (1, .int (nI pp)), (2, .int (nI cc)), (3, .int (nI kk)), (4, .int w)]) hx hb dX10_plan_208 hl (by decide) rfl (fun ls hl => ?_)
                refine wl_X (B := (mn + 1)) (i0 := 0) (Inv := fun i4 H locs ls => va_P G.1 vwCl (mW G a i j t r n d ps im kp tx cd bk py_89 pt_89 mt) H ∧ va_D A (mW G a i j t r n d ps im kp tx cd bk py_89 pt_89 mt) ∧ va_S A zs.heap H locs ∧ lv_has ls 10 [(0, .ref (a 0)), (1, .int (nI pp)), (2, .int (nI cc)), (4, .int w), (5, .int (n ((4 * pp) + cc))), (6, .int (plF t pt_89 cc (n (4 * pp + cc)) mn i4)), (7, .int (plL t pt_89 cc (n (4 * pp + cc)) mn i4)), (8, .int (nI mn - nI i4))] ∧ True) (by omega) ⟨hP, hD, hS, lv_sub hl [4, 5, 6, 8, 3, 2, 1, 0] (by rw [show nI mn - nI 0 = nI mn from Int32.sub_zero _]; rfl), trivial⟩ ?_
                rintro i4 H locs ls hle210 ⟨hP, hD, hS, hl, -⟩ ih210
                refine lv_iload hx hb dX10_plan_210 (lv_at hl 7 rfl) ?_
                refine lv_if_lt (tgt := 260) hx hb dX10_plan_212 (by decide) (fun cq8 => ?_) (fun cq8 => ?_)
                · skip
                  have hex4 : (mn + 1) = i4 := by have q := (mn_lt (by omega) (by omega)).mp cq8; omega
                  subst hex4
                  refine lv_iload hx hb dX10_plan_260 (lv_at hl 6 rfl) ?_
                  refine lv_iconst (v := (-1)) hx hb dX10_plan_262 (by decide) ?_
                  refine lv_icmp_ne (tgt := 270) hx hb dX10_plan_263 (by decide) (fun cq9 => ?_) (fun cq9 => ?_)
                  · skip
                    have h263 := cq9
                    refine lv_iload hx hb dX10_plan_270 (lv_at hl 3 rfl) ?_
                    refine lv_if_ne (tgt := 280) hx hb dX10_plan_272 (by decide) (fun cq10 => ?_) (fun cq10 => ?_)
                    · skip
                      have h272 := cq10
                      refine lv_iload hx hb dX10_plan_280 (lv_at hl 6 rfl) ?_
                      exact mE_iret hAe C (u := (py_89, pt_89)) hP hS dX10_plan_282 (by rw [plR, if_neg (not_not_intro ⟨hPq, hCq⟩), if_neg (not_not_intro ⟨hXq, hWq⟩), hcl_pp, hcl_cc, hcl_kk, if_neg hFq, hmn2, plV, ← plL_c (hLH cc hcc) hpt, ← plF_c (hLH cc hcc) hpt]; rw [if_neg h263, if_neg h272])
                    · skip
                      have h272 := cq10
                      refine lv_iload hx hb dX10_plan_275 (lv_at hl 5 rfl) ?_
                      refine lv_goto (tgt := 282) hx hb dX10_plan_277 (by decide) ?_
                      exact mE_iret hAe C (u := (py_89, pt_89)) hP hS dX10_plan_282 (by rw [plR, if_neg (not_not_intro ⟨hPq, hCq⟩), if_neg (not_not_intro ⟨hXq, hWq⟩), hcl_pp, hcl_cc, hcl_kk, if_neg hFq, hmn2, plV, ← plL_c (hLH cc hcc) hpt, ← plF_c (hLH cc hcc) hpt]; rw [if_neg h263, if_pos h272])
                  · skip
                    have h263 := cq9
                    refine lv_iconst (v := (-1)) hx hb dX10_plan_266 (by decide) ?_
                    refine lv_goto (tgt := 282) hx hb dX10_plan_267 (by decide) ?_
                    exact mE_iret hAe C (u := (py_89, pt_89)) hP hS dX10_plan_282 (by rw [plR, if_neg (not_not_intro ⟨hPq, hCq⟩), if_neg (not_not_intro ⟨hXq, hWq⟩), hcl_pp, hcl_cc, hcl_kk, if_neg hFq, hmn2, plV, ← plL_c (hLH cc hcc) hpt, ← plF_c (hLH cc hcc) hpt]; rw [if_pos h263])
                · skip
                  have hin4 : i4 ≤ mn := Nat.le_of_not_lt (fun q => cq8 ((mn_lt (by omega) (by omega)).mpr q))
                  refine lv_aload_n hx hb dX10_plan_215 rfl (lv_at hl 0 rfl) ?_
                  refine lv_iload hx hb dX10_plan_216 (lv_at hl 4 rfl) ?_
                  refine lv_iload hx hb dX10_plan_218 (lv_at hl 7 rfl) ?_
                  refine lv_iload_n hx hb dX10_plan_220 rfl (lv_at hl 2 rfl) ?_
                  refine cR_V (Cn := RX10) (n := 3) (As := [.int (n ((4 * pp) + cc)), .int (nI mn - nI i4), .int (nI cc)]) (rest := []) C (c_X10_paysBy l G a i j t r n d ps im kp tx cd bk py_89 pt_89 mt  (n ((4 * pp) + cc)) (nI mn - nI i4) cc (by omega) (hLH cc hcc)) gX10_plan_X10_paysBy rfl ⟨rfl, rfl⟩ hd_X10_paysBy ⟨(Nat.le_of_ble_eq_true rfl), (Nat.le_of_ble_eq_true rfl)⟩ hK hP (va_recv hK hP (ci := 10) (q0 := 0) rfl rfl) rfl hl.1 rfl (Nat.le_of_ble_eq_true rfl) dX10_plan_221 ⟨(Nat.le_of_ble_eq_true rfl), (Nat.le_of_ble_eq_true rfl)⟩ ?_
                  refine lv_istore (lv' := [(9, .int (pbR t pt_89 cc (n ((4 * pp) + cc)) (nI mn - nI i4))), (0, .ref (a 0)), (1, .int (nI pp)), (2, .int (nI cc)), (4, .int w), (5, .int (n ((4 * pp) + cc))), (6, .int (plF t pt_89 cc (n (4 * pp + cc)) mn i4)), (7, .int (plL t pt_89 cc (n (4 * pp + cc)) mn i4)), (8, .int (nI mn - nI i4))]) hx hb dX10_plan_224 hl (by decide) rfl (fun ls hl => ?_)
                  refine lv_iload hx hb dX10_plan_226 (lv_at hl 0 rfl) ?_
                  refine lv_iload hx hb dX10_plan_228 (lv_at hl 6 rfl) ?_
                  refine lv_icmp_ge (tgt := 241) hx hb dX10_plan_230 (by decide) (fun cq11 => ?_) (fun cq11 => ?_)
                  · skip
                    have hq7 : ¬ pbR t pt_89 cc (n (4 * pp + cc)) (nI mn - nI i4) < plF t pt_89 cc (n (4 * pp + cc)) mn i4 := i32_nlt.mpr cq11
                    refine lv_iload hx hb dX10_plan_241 (lv_at hl 7 rfl) ?_
                    refine lv_istore (lv' := [(7, .int (plL t pt_89 cc (n (4 * pp + cc)) mn i4)), (9, .int (pbR t pt_89 cc (n ((4 * pp) + cc)) (nI mn - nI i4))), (0, .ref (a 0)), (1, .int (nI pp)), (2, .int (nI cc)), (4, .int w), (5, .int (n ((4 * pp) + cc))), (6, .int (plF t pt_89 cc (n (4 * pp + cc)) mn i4)), (8, .int (nI mn - nI i4))]) hx hb dX10_plan_243 hl (by decide) rfl (fun ls hl => ?_)
                    refine lv_iload hx hb dX10_plan_245 (lv_at hl 7 rfl) ?_
                    refine lv_iload hx hb dX10_plan_247 (lv_at hl 1 rfl) ?_
                    refine cR_S (n := 2) (As := [.int (plF t pt_89 cc (n (4 * pp + cc)) mn i4), .int (pbR t pt_89 cc (n ((4 * pp) + cc)) (nI mn - nI i4))]) (rest := []) C (c_X10_lesser l G    (plF t pt_89 cc (n (4 * pp + cc)) mn i4) (pbR t pt_89 cc (n ((4 * pp) + cc)) (nI mn - nI i4)) ) gX10_plan_X10_lesser rfl ⟨rfl, rfl⟩ hd_X10_lesser ⟨(Nat.le_of_ble_eq_true rfl), (Nat.le_of_ble_eq_true rfl)⟩ hK (hP.sub [] rfl) rfl hl.1 rfl (Nat.le_of_ble_eq_true rfl) dX10_plan_249 ⟨(Nat.le_of_ble_eq_true rfl), (Nat.le_of_ble_eq_true rfl)⟩ ?_
                    refine lv_istore (lv' := [(6, .int (lessI (plF t pt_89 cc (n (4 * pp + cc)) mn i4) (pbR t pt_89 cc (n ((4 * pp) + cc)) (nI mn - nI i4)))), (7, .int (plL t pt_89 cc (n (4 * pp + cc)) mn i4)), (9, .int (pbR t pt_89 cc (n ((4 * pp) + cc)) (nI mn - nI i4))), (0, .ref (a 0)), (1, .int (nI pp)), (2, .int (nI cc)), (4, .int w), (5, .int (n ((4 * pp) + cc))), (8, .int (nI mn - nI i4))]) hx hb dX10_plan_252 hl (by decide) rfl (fun ls hl => ?_)
                    refine lv_iinc (v := nI mn - nI (i4 + 1)) (lv' := [(8, .int (nI mn - nI (i4 + 1))), (6, .int (lessI (plF t pt_89 cc (n (4 * pp + cc)) mn i4) (pbR t pt_89 cc (n ((4 * pp) + cc)) (nI mn - nI i4)))), (7, .int (plL t pt_89 cc (n (4 * pp + cc)) mn i4)), (9, .int (pbR t pt_89 cc (n ((4 * pp) + cc)) (nI mn - nI i4))), (0, .ref (a 0)), (1, .int (nI pp)), (2, .int (nI cc)), (4, .int w), (5, .int (n ((4 * pp) + cc)))]) hx hb dX10_plan_254 hl (k := 8) rfl (mn_dec mn i4) (by decide) rfl (fun ls hl => ?_)
                    refine lv_goto (tgt := 210) hx hb dX10_plan_257 (by decide) ?_
                    have e12 : lessI (plF t pt_89 cc (n (4 * pp + cc)) mn i4) (pbR t pt_89 cc (n ((4 * pp) + cc)) (nI mn - nI i4)) = plF t pt_89 cc (n (4 * pp + cc)) mn (i4 + 1) := rfl
                    have e13 : plL t pt_89 cc (n (4 * pp + cc)) mn i4 = plL t pt_89 cc (n (4 * pp + cc)) mn (i4 + 1) := by first | exact (if_pos hq7).symm | exact (if_neg hq7).symm
                    exact ih210 _ _ _ (by omega) ⟨hP, hD, hS, lv_sub hl [4, 5, 6, 7, 8, 1, 2, 0] (by rw [← e12, ← e13]; rfl), trivial⟩
                  · skip
                    have hq7 : pbR t pt_89 cc (n (4 * pp + cc)) (nI mn - nI i4) < plF t pt_89 cc (n (4 * pp + cc)) mn i4 := i32_nle.mp cq11
                    refine lv_iload hx hb dX10_plan_233 (lv_at hl 5 rfl) ?_
                    refine lv_iload hx hb dX10_plan_235 (lv_at hl 8 rfl) ?_
                    refine lv_isub hx hb dX10_plan_237 ?_
                    refine lv_goto (tgt := 243) hx hb dX10_plan_238 (by decide) ?_
                    refine lv_istore (lv' := [(7, .int ((n ((4 * pp) + cc)) - (nI mn - nI i4))), (9, .int (pbR t pt_89 cc (n ((4 * pp) + cc)) (nI mn - nI i4))), (0, .ref (a 0)), (1, .int (nI pp)), (2, .int (nI cc)), (4, .int w), (5, .int (n ((4 * pp) + cc))), (6, .int (plF t pt_89 cc (n (4 * pp + cc)) mn i4)), (8, .int (nI mn - nI i4))]) hx hb dX10_plan_243 hl (by decide) rfl (fun ls hl => ?_)
                    refine lv_iload hx hb dX10_plan_245 (lv_at hl 7 rfl) ?_
                    refine lv_iload hx hb dX10_plan_247 (lv_at hl 1 rfl) ?_
                    refine cR_S (n := 2) (As := [.int (plF t pt_89 cc (n (4 * pp + cc)) mn i4), .int (pbR t pt_89 cc (n ((4 * pp) + cc)) (nI mn - nI i4))]) (rest := []) C (c_X10_lesser l G    (plF t pt_89 cc (n (4 * pp + cc)) mn i4) (pbR t pt_89 cc (n ((4 * pp) + cc)) (nI mn - nI i4)) ) gX10_plan_X10_lesser rfl ⟨rfl, rfl⟩ hd_X10_lesser ⟨(Nat.le_of_ble_eq_true rfl), (Nat.le_of_ble_eq_true rfl)⟩ hK (hP.sub [] rfl) rfl hl.1 rfl (Nat.le_of_ble_eq_true rfl) dX10_plan_249 ⟨(Nat.le_of_ble_eq_true rfl), (Nat.le_of_ble_eq_true rfl)⟩ ?_
                    refine lv_istore (lv' := [(6, .int (lessI (plF t pt_89 cc (n (4 * pp + cc)) mn i4) (pbR t pt_89 cc (n ((4 * pp) + cc)) (nI mn - nI i4)))), (7, .int ((n ((4 * pp) + cc)) - (nI mn - nI i4))), (9, .int (pbR t pt_89 cc (n ((4 * pp) + cc)) (nI mn - nI i4))), (0, .ref (a 0)), (1, .int (nI pp)), (2, .int (nI cc)), (4, .int w), (5, .int (n ((4 * pp) + cc))), (8, .int (nI mn - nI i4))]) hx hb dX10_plan_252 hl (by decide) rfl (fun ls hl => ?_)
                    refine lv_iinc (v := nI mn - nI (i4 + 1)) (lv' := [(8, .int (nI mn - nI (i4 + 1))), (6, .int (lessI (plF t pt_89 cc (n (4 * pp + cc)) mn i4) (pbR t pt_89 cc (n ((4 * pp) + cc)) (nI mn - nI i4)))), (7, .int ((n ((4 * pp) + cc)) - (nI mn - nI i4))), (9, .int (pbR t pt_89 cc (n ((4 * pp) + cc)) (nI mn - nI i4))), (0, .ref (a 0)), (1, .int (nI pp)), (2, .int (nI cc)), (4, .int w), (5, .int (n ((4 * pp) + cc)))]) hx hb dX10_plan_254 hl (k := 8) rfl (mn_dec mn i4) (by decide) rfl (fun ls hl => ?_)
                    refine lv_goto (tgt := 210) hx hb dX10_plan_257 (by decide) ?_
                    have e14 : lessI (plF t pt_89 cc (n (4 * pp + cc)) mn i4) (pbR t pt_89 cc (n ((4 * pp) + cc)) (nI mn - nI i4)) = plF t pt_89 cc (n (4 * pp + cc)) mn (i4 + 1) := rfl
                    have e15 : (n ((4 * pp) + cc)) - (nI mn - nI i4) = plL t pt_89 cc (n (4 * pp + cc)) mn (i4 + 1) := by first | exact (if_pos hq7).symm | exact (if_neg hq7).symm
                    exact ih210 _ _ _ (by omega) ⟨hP, hD, hS, lv_sub hl [4, 5, 6, 7, 8, 1, 2, 0] (by rw [← e14, ← e15]; rfl), trivial⟩
              · skip
                refine lv_ldc hx hb hown k6 dX10_plan_95 ?_
                refine lv_istore (lv' := [(6, .int 1000000), (0, .ref (a 0)), (1, .int (nI pp)), (2, .int (nI cc)), (3, .int (nI kk)), (4, .int w), (5, .int (nI (kk - i2)))]) hx hb dX10_plan_97 hl (by decide) rfl (fun ls hl => ?_)
                refine lv_iconst (v := 0) hx hb dX10_plan_99 (by decide) ?_
                refine lv_istore (lv' := [(7, .int 0), (6, .int 1000000), (0, .ref (a 0)), (1, .int (nI pp)), (2, .int (nI cc)), (3, .int (nI kk)), (4, .int w), (5, .int (nI (kk - i2)))]) hx hb dX10_plan_100 hl (by decide) rfl (fun ls hl => ?_)
                refine wl_X (B := 1000) (i0 := 0) (Inv := fun i3 H locs ls => va_P G.1 vwCl (mW G a i j t r n d ps im kp tx cd bk (upto py_89 (plG t pt_89 cc) i3) pt_89 mt) H ∧ va_D A (mW G a i j t r n d ps im kp tx cd bk (upto py_89 (plG t pt_89 cc) i3) pt_89 mt) ∧ va_S A zs.heap H locs ∧ lv_has ls 10 [(0, .ref (a 0)), (1, .int (nI pp)), (2, .int (nI cc)), (3, .int (nI kk)), (4, .int w), (5, .int (nI (kk - i2))), (6, .int (plB t pt_89 cc i3)), (7, .int (nI i3))] ∧ True) (by omega) ⟨by rw [upto_0]; exact hP, by rw [upto_0]; exact hD, hS, lv_sub hl [2, 3, 4, 5, 6, 7, 1, 0] (rfl), trivial⟩ ?_
                rintro i3 H locs ls hle102 ⟨hP, hD, hS, hl, -⟩ ih102
                refine lv_iload hx hb dX10_plan_102 (lv_at hl 7 rfl) ?_
                refine lv_sipush (v := 1000) hx hb dX10_plan_104 (by decide) ?_
                refine n_icmp_ge (tgt := 156) hx hb dX10_plan_107 (by decide) (u := i3) (v := 1000) rfl rfl (by omega) (by omega) (fun cq16 => ?_) (fun cq16 => ?_)
                · skip
                  obtain rfl : i3 = 1000 := by omega
                  refine lv_aload_n hx hb dX10_plan_156 rfl (lv_at hl 0 rfl) ?_
                  refine va_get (D := G.1) (ci := 10) (v := .ref (a 11)) (C := RX10) (T := TX10) (N := 25) hx hb hts k4 hown hK hP 0 rfl rfl 22 (by decide) k7 (fun _ h9 => h9) rfl dX10_plan_157 ?_
                  refine lv_iconst (v := 0) hx hb dX10_plan_160 (by decide) ?_
                  refine lv_aload_n hx hb dX10_plan_161 rfl (lv_at hl 0 rfl) ?_
                  refine va_get (D := G.1) (ci := 10) (v := .ref (a 12)) (C := RX10) (T := TX10) (N := 25) hx hb hts k4 hown hK hP 0 rfl rfl 23 (by decide) k8 (fun _ h9 => h9) rfl dX10_plan_162 ?_
                  refine lv_iconst (v := 0) hx hb dX10_plan_165 (by decide) ?_
                  refine lv_sipush (v := 1000) hx hb dX10_plan_166 (by decide) ?_
                  refine cX_S (n := 5) (As := [.ref (a 11), .int (nI 0), .ref (a 12), .int (nI 0), .int (nI 1000)]) (rest := []) (wsn := mW G a i j t r n d ps im kp tx cd bk (upto py_89 (plG t pt_89 cc) 1000) (va_cpy (upto py_89 (plG t pt_89 cc) 1000) pt_89 0 0 1000) mt) C (c_X10_copies l G (a 11) (a 12) 1000 1000 (upto py_89 (plG t pt_89 cc) 1000) pt_89  0 0 1000 (by omega) (by omega) (by decide)) gX10_plan_X10_copies rfl ⟨rfl, rfl⟩ hd_X10_copies ⟨(Nat.le_of_ble_eq_true rfl), (Nat.le_of_ble_eq_true rfl)⟩ hK hP hD hS [11, 12] (by decide) rfl (cpW_f.trans cpW_f.symm) rfl (mW_f.trans mW_f.symm) rfl hl.1 rfl (Nat.le_of_ble_eq_true rfl) dX10_plan_169 ⟨(Nat.le_of_ble_eq_true rfl), (Nat.le_of_ble_eq_true rfl)⟩ (fun H locs hP hD hS => ?_)
                  refine lv_iinc (v := nI (kk - (i2 + 1))) (lv' := [(5, .int (nI (kk - (i2 + 1)))), (0, .ref (a 0)), (1, .int (nI pp)), (2, .int (nI cc)), (3, .int (nI kk)), (4, .int w), (6, .int (plB t pt_89 cc 1000)), (7, .int (nI 1000))]) hx hb dX10_plan_172 hl (k := 5) rfl (by rw [show kk - (i2 + 1) = (kk - i2) - 1 by omega]; exact sb_m1 (by omega)) (by decide) rfl (fun ls hl => ?_)
                  refine lv_goto (tgt := 89) hx hb dX10_plan_175 (by decide) ?_
                  exact ih89 _ _ _ (by omega) ⟨upto py_89 (plG t pt_89 cc) 1000, va_cpy (upto py_89 (plG t pt_89 cc) 1000) pt_89 0 0 1000, hP, hD, hS, lv_sub hl [1, 2, 3, 4, 5, 0] (rfl), (fun v hv => by rw [cpyN hv]; exact (if_pos hv).trans (plG_c (hLH cc hcc) hpt v))⟩
                · skip
                  refine lv_iload hx hb dX10_plan_110 (lv_at hl 6 rfl) ?_
                  refine lv_aload_n hx hb dX10_plan_112 rfl (lv_at hl 0 rfl) ?_
                  refine lv_iconst (v := 0) hx hb dX10_plan_113 (by decide) ?_
                  refine lv_iload hx hb dX10_plan_114 (lv_at hl 7 rfl) ?_
                  refine lv_iload_n hx hb dX10_plan_116 rfl (lv_at hl 2 rfl) ?_
                  refine cR_V (Cn := RX10) (n := 3) (As := [.int 0, .int (nI i3), .int (nI cc)]) (rest := [.int (plB t pt_89 cc i3)]) C (c_X10_paysBy l G a i j t r n d ps im kp tx cd bk (upto py_89 (plG t pt_89 cc) i3) pt_89 mt  0 (nI i3) cc (by omega) (hLH cc hcc)) gX10_plan_X10_paysBy rfl ⟨rfl, rfl⟩ hd_X10_paysBy ⟨(Nat.le_of_ble_eq_true rfl), (Nat.le_of_ble_eq_true rfl)⟩ hK hP (va_recv hK hP (ci := 10) (q0 := 0) rfl rfl) rfl hl.1 rfl (Nat.le_of_ble_eq_true rfl) dX10_plan_117 ⟨(Nat.le_of_ble_eq_true rfl), (Nat.le_of_ble_eq_true rfl)⟩ ?_
                  refine cR_S (n := 2) (As := [.int (plB t pt_89 cc i3), .int (pbR t pt_89 cc 0 (nI i3))]) (rest := []) C (c_X10_lesser l G    (plB t pt_89 cc i3) (pbR t pt_89 cc 0 (nI i3)) ) gX10_plan_X10_lesser rfl ⟨rfl, rfl⟩ hd_X10_lesser ⟨(Nat.le_of_ble_eq_true rfl), (Nat.le_of_ble_eq_true rfl)⟩ hK (hP.sub [] rfl) rfl hl.1 rfl (Nat.le_of_ble_eq_true rfl) dX10_plan_120 ⟨(Nat.le_of_ble_eq_true rfl), (Nat.le_of_ble_eq_true rfl)⟩ ?_
                  refine lv_istore (lv' := [(6, .int (lessI (plB t pt_89 cc i3) (pbR t pt_89 cc 0 (nI i3)))), (0, .ref (a 0)), (1, .int (nI pp)), (2, .int (nI cc)), (3, .int (nI kk)), (4, .int w), (5, .int (nI (kk - i2))), (7, .int (nI i3))]) hx hb dX10_plan_123 hl (by decide) rfl (fun ls hl => ?_)
                  refine lv_aload_n hx hb dX10_plan_125 rfl (lv_at hl 1 rfl) ?_
                  refine va_get (D := G.1) (ci := 10) (v := .ref (a 11)) (C := RX10) (T := TX10) (N := 25) hx hb hts k4 hown hK hP 0 rfl rfl 22 (by decide) k7 (fun _ h9 => h9) rfl dX10_plan_126 ?_
                  refine lv_iload hx hb dX10_plan_129 (lv_at hl 7 rfl) ?_
                  refine lv_iload hx hb dX10_plan_131 (lv_at hl 0 rfl) ?_
                  refine lv_ldcw hx hb hown k5 dX10_plan_133 ?_
                  refine lv_icmp_lt (tgt := 144) hx hb dX10_plan_136 (by decide) (fun cq17 => ?_) (fun cq17 => ?_)
                  · skip
                    have hb5 : plB t pt_89 cc (i3 + 1) < 500000 := cq17
                    refine lv_iload hx hb dX10_plan_144 (lv_at hl 0 rfl) ?_
                    refine lv_iload hx hb dX10_plan_146 (lv_at hl 7 rfl) ?_
                    refine lv_iadd hx hb dX10_plan_148 ?_
                    refine n_iast hx hb hK hP hD hS 11 0 rfl rfl (x := ((lessI (plB t pt_89 cc i3) (pbR t pt_89 cc 0 (nI i3))) + (nI i3))) (j := i3) rfl (by omega) (by decide) dX10_plan_149 (wsn := mW G a i j t r n d ps im kp tx cd bk (upd (upto py_89 (plG t pt_89 cc) i3) i3 ((lessI (plB t pt_89 cc i3) (pbR t pt_89 cc 0 (nI i3))) + (nI i3))) pt_89 mt) rfl (fun H locs hP hD hS => ?_)
                    refine lv_iinc (v := nI (i3 + 1)) (lv' := [(7, .int (nI (i3 + 1))), (6, .int (lessI (plB t pt_89 cc i3) (pbR t pt_89 cc 0 (nI i3)))), (0, .ref (a 0)), (1, .int (nI pp)), (2, .int (nI cc)), (3, .int (nI kk)), (4, .int w), (5, .int (nI (kk - i2)))]) hx hb dX10_plan_150 hl (k := 7) rfl (by rw [show (nI i3 : Int32) = nI i3 from rfl]; exact nI_add _ 1) (by decide) rfl (fun ls hl => ?_)
                    refine lv_goto (tgt := 102) hx hb dX10_plan_153 (by decide) ?_
                    have e18 : lessI (plB t pt_89 cc i3) (pbR t pt_89 cc 0 (nI i3)) = plB t pt_89 cc (i3 + 1) := rfl
                    have e19 : (upd (upto py_89 (plG t pt_89 cc) i3) i3 ((lessI (plB t pt_89 cc i3) (pbR t pt_89 cc 0 (nI i3))) + (nI i3))) = upto py_89 (plG t pt_89 cc) (i3 + 1) := upto_v (by first | exact (if_pos hb5).symm | exact (if_neg hb5).symm)
                    rw [e19] at hP hD
                    exact ih102 _ _ _ (by omega) ⟨hP, hD, hS, lv_sub hl [2, 3, 4, 5, 6, 7, 1, 0] (by rw [← e18]; rfl), trivial⟩
                  · skip
                    have hb5 : ¬ plB t pt_89 cc (i3 + 1) < 500000 := cq17
                    refine lv_ldc hx hb hown k6 dX10_plan_139 ?_
                    refine lv_goto (tgt := 149) hx hb dX10_plan_141 (by decide) ?_
                    refine n_iast hx hb hK hP hD hS 11 0 rfl rfl (x := 1000000) (j := i3) rfl (by omega) (by decide) dX10_plan_149 (wsn := mW G a i j t r n d ps im kp tx cd bk (upd (upto py_89 (plG t pt_89 cc) i3) i3 1000000) pt_89 mt) rfl (fun H locs hP hD hS => ?_)
                    refine lv_iinc (v := nI (i3 + 1)) (lv' := [(7, .int (nI (i3 + 1))), (6, .int (lessI (plB t pt_89 cc i3) (pbR t pt_89 cc 0 (nI i3)))), (0, .ref (a 0)), (1, .int (nI pp)), (2, .int (nI cc)), (3, .int (nI kk)), (4, .int w), (5, .int (nI (kk - i2)))]) hx hb dX10_plan_150 hl (k := 7) rfl (by rw [show (nI i3 : Int32) = nI i3 from rfl]; exact nI_add _ 1) (by decide) rfl (fun ls hl => ?_)
                    refine lv_goto (tgt := 102) hx hb dX10_plan_153 (by decide) ?_
                    have e20 : lessI (plB t pt_89 cc i3) (pbR t pt_89 cc 0 (nI i3)) = plB t pt_89 cc (i3 + 1) := rfl
                    have e21 : (upd (upto py_89 (plG t pt_89 cc) i3) i3 1000000) = upto py_89 (plG t pt_89 cc) (i3 + 1) := upto_v (by first | exact (if_pos hb5).symm | exact (if_neg hb5).symm)
                    rw [e21] at hP hD
                    exact ih102 _ _ _ (by omega) ⟨hP, hD, hS, lv_sub hl [2, 3, 4, 5, 6, 7, 1, 0] (by rw [← e20]; rfl), trivial⟩
            · skip
              refine lv_aload_n hx hb dX10_plan_72 rfl (lv_at hl 0 rfl) ?_
              refine va_get (D := G.1) (ci := 10) (v := .ref (a 12)) (C := RX10) (T := TX10) (N := 25) hx hb hts k4 hown hK hP 0 rfl rfl 23 (by decide) k8 (fun _ h9 => h9) rfl dX10_plan_73 ?_
              refine lv_iload hx hb dX10_plan_76 (lv_at hl 5 rfl) ?_
              refine lv_iconst (v := 0) hx hb dX10_plan_78 (by decide) ?_
              refine n_iast hx hb hK hP hD hS 12 0 rfl rfl (x := 0) (j := i1) rfl (by omega) (by decide) dX10_plan_79 (wsn := mW G a i j t r n d ps im kp tx cd bk py (upd (upto pt (fun _ => 0) i1) i1 0) mt) rfl (fun H locs hP hD hS => ?_)
              refine lv_iinc (v := nI (i1 + 1)) (lv' := [(5, .int (nI (i1 + 1))), (0, .ref (a 0)), (1, .int (nI pp)), (2, .int (nI cc)), (3, .int (nI kk)), (4, .int w)]) hx hb dX10_plan_80 hl (k := 5) rfl (by rw [show (nI i1 : Int32) = nI i1 from rfl]; exact nI_add _ 1) (by decide) rfl (fun ls hl => ?_)
              refine lv_goto (tgt := 64) hx hb dX10_plan_83 (by decide) ?_
              have e22 : (upd (upto pt (fun _ => 0) i1) i1 0) = upto pt (fun _ => 0) (i1 + 1) := upto_v rfl
              rw [e22] at hP hD
              exact ih64 _ _ _ (by omega) ⟨hP, hD, hS, lv_sub hl [1, 2, 3, 4, 5, 0] (rfl), trivial⟩
          · skip
            refine lv_iconst (v := (-1)) hx hb dX10_plan_59 (by decide) ?_
            exact mE_iret hAe C (u := (py, pt)) hP hS dX10_plan_60 (by simp [plR, cq1, hcl_pp, cq2, hcl_cc, cq3, hcl_kk, cq4, cq5])
        · skip
          refine lv_ldc hx hb hown k2 dX10_plan_42 ?_
          exact mE_iret hAe C (u := (py, pt)) hP hS dX10_plan_44 (by simp [plR, cq1, hcl_pp, cq2, hcl_cc, cq3, hcl_kk, cq4])
    · skip
      refine lv_ldc hx hb hown k0 dX10_plan_16 ?_
      exact mE_iret hAe C (u := (py, pt)) hP hS dX10_plan_18 (by simp [plR, cq1, hcl_pp, cq2])
