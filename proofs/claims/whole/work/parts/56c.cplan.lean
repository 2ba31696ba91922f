theorem hd_X5_costFrom : yX5_costFrom.cls = RX5 ∧ yX5_costFrom.cls ≠ "java/lang/invoke/MethodHandle" ∧ yX5_costFrom.cls ≠ "java/lang/invoke/VarHandle" ∧ (parseMethodDescriptor yX5_costFrom.desc).map (fun d => d.parameters.length) = some 3 := by decide +kernel
set_option maxRecDepth 100000 in
set_option maxHeartbeats 4000000 in
theorem c_X5_costFrom (l : Launch) (G : gG) (f0 : Nat) (f1 : Nat) (b0 : Nat) (b1 : Nat) (b2 : Nat) (b3 : Nat) (es : Nat → Int32) (co : Nat → Int32) (t : Nat → Int32) (c : Nat) (r0 : Int32) (hc : c < 4) (hL : loHi t c) : mR l yX5_costFrom wsX5_costFrom ({ frames := 2, cells := 0, slots := 0, locals := 42 }) G (pkW G f0 f1 b0 b1 b2 b3 es co t) [.ref f0, .ref b0, .int (nI c), .int r0] (cfR t co c r0) := by
  refine mR.of (cc := cX5_costFrom) (maxL := 6) (ret := (some .int)) (by decide) rfl (Nat.le_of_ble_eq_true rfl) ?_
  intro zp ze zs zm zb zt zc ls C hP hK hl
  obtain ⟨hx, hb, hr, hml, hown, hts, hlk⟩ := id C
  have hl : lv_has ls 6 [(0, .ref f0), (1, .ref b0), (2, .int (nI c)), (3, .int r0)] := hl
  obtain ⟨lo, hi, hlo, hhi, hlo2, hhi2⟩ := hL
  have k0 := hts (.constant RX5 19 (1000000)) (by decide +kernel)
  have k1 := hts (.fieldLink RX5 9 "DebtDowry$Planner" "cost" "[I") (by decide +kernel)
  have k2 := (fun w h => by revert w; decide +kernel : ∀ w ∈ wsX50, w ∈ wsX5_costFrom)
  refine lv_aload_n hx hb dX5_costFrom_0 rfl (lv_at hl 1 rfl) ?_
  refine lv_iload_n hx hb dX5_costFrom_1 rfl (lv_at hl 3 rfl) ?_
  refine cR_V (Cn := RX8) (n := 1) (As := [.int r0]) (rest := []) C (c_X8_grown l G b0 b1 b2 b3 t  r0 ) gX5_costFrom_X8_grown rfl ⟨rfl, rfl⟩ hd_X8_grown ⟨(Nat.le_of_ble_eq_true rfl), (Nat.le_of_ble_eq_true rfl)⟩ hK (hP.sub [2, 3, 4, 5] rfl) (va_recv hK hP (ci := 8) (q0 := 2) rfl rfl) rfl hl.1 rfl (Nat.le_of_ble_eq_true rfl) dX5_costFrom_2 ⟨(Nat.le_of_ble_eq_true rfl), (Nat.le_of_ble_eq_true rfl)⟩ ?_
  refine lv_istore (lv' := [(4, .int (growI r0 (t 1))), (0, .ref f0), (1, .ref b0), (2, .int (nI c)), (3, .int r0)]) hx hb dX5_costFrom_5 hl (by decide) rfl (fun ls hl => ?_)
  refine lv_iload hx hb dX5_costFrom_7 (lv_at hl 0 rfl) ?_
  refine lv_if_lt (tgt := 24) hx hb dX5_costFrom_9 (by decide) (fun cq1 => ?_) (fun cq1 => ?_)
  · skip
    have hno : ¬ inB (growI r0 (t 1)) (t (9 + c)) (t (13 + c)) := inB_lo hlo (by omega) cq1
    refine lv_iconst (v := 0) hx hb dX5_costFrom_24 (by decide) ?_
    refine lv_istore (lv' := [(5, .int 0), (4, .int (growI r0 (t 1))), (0, .ref f0), (1, .ref b0), (2, .int (nI c)), (3, .int r0)]) hx hb dX5_costFrom_25 hl (by decide) rfl (fun ls hl => ?_)
    refine lv_iload hx hb dX5_costFrom_27 (lv_at hl 0 rfl) ?_
    refine lv_if_eq (tgt := 52) hx hb dX5_costFrom_29 (by decide) (fun cq2 => ?_) (fun cq2 => ?_)
    rotate_left
    · exact absurd cq2 (by decide)
    refine lv_ldc hx hb hown k0 dX5_costFrom_52 ?_
    exact mR_iret C dX5_costFrom_54 ((if_neg hno).symm)
  · skip
    refine lv_iload hx hb dX5_costFrom_12 (lv_at hl 0 rfl) ?_
    refine lv_sipush (v := 999) hx hb dX5_costFrom_14 (by decide) ?_
    refine lv_icmp_gt (tgt := 24) hx hb dX5_costFrom_17 (by decide) (fun cq3 => ?_) (fun cq3 => ?_)
    · skip
      have hno : ¬ inB (growI r0 (t 1)) (t (9 + c)) (t (13 + c)) := inB_hi hhi hhi2 cq3
      refine lv_iconst (v := 0) hx hb dX5_costFrom_24 (by decide) ?_
      refine lv_istore (lv' := [(5, .int 0), (4, .int (growI r0 (t 1))), (0, .ref f0), (1, .ref b0), (2, .int (nI c)), (3, .int r0)]) hx hb dX5_costFrom_25 hl (by decide) rfl (fun ls hl => ?_)
      refine lv_iload hx hb dX5_costFrom_27 (lv_at hl 0 rfl) ?_
      refine lv_if_eq (tgt := 52) hx hb dX5_costFrom_29 (by decide) (fun cq4 => ?_) (fun cq4 => ?_)
      rotate_left
      · exact absurd cq4 (by decide)
      refine lv_ldc hx hb hown k0 dX5_costFrom_52 ?_
      exact mR_iret C dX5_costFrom_54 ((if_neg hno).symm)
    · skip
      refine lv_iconst (v := 1) hx hb dX5_costFrom_20 (by decide) ?_
      refine lv_goto (tgt := 25) hx hb dX5_costFrom_21 (by decide) ?_
      refine lv_istore (lv' := [(5, .int 1), (4, .int (growI r0 (t 1))), (0, .ref f0), (1, .ref b0), (2, .int (nI c)), (3, .int r0)]) hx hb dX5_costFrom_25 hl (by decide) rfl (fun ls hl => ?_)
      refine lv_iload hx hb dX5_costFrom_27 (lv_at hl 0 rfl) ?_
      refine lv_if_eq (tgt := 52) hx hb dX5_costFrom_29 (by decide) (fun cq5 => ?_) (fun cq5 => ?_)
      · exact absurd cq5 (by decide)
      refine lv_aload_n hx hb dX5_costFrom_32 rfl (lv_at hl 3 rfl) ?_
      refine lv_iload_n hx hb dX5_costFrom_33 rfl (lv_at hl 4 rfl) ?_
      refine lv_iload hx hb dX5_costFrom_34 (lv_at hl 1 rfl) ?_
      refine cR_V (Cn := RX8) (n := 2) (As := [.int (nI c), .int (growI r0 (t 1))]) (rest := []) C (c_X8_within l G b0 b1 b2 b3 t  c (growI r0 (t 1)) (by omega)) gX5_costFrom_X8_within rfl ⟨rfl, rfl⟩ hd_X8_within ⟨(Nat.le_of_ble_eq_true rfl), (Nat.le_of_ble_eq_true rfl)⟩ hK (hP.sub [2, 3, 4, 5] rfl) (va_recv hK hP (ci := 8) (q0 := 2) rfl rfl) rfl hl.1 rfl (Nat.le_of_ble_eq_true rfl) dX5_costFrom_36 ⟨(Nat.le_of_ble_eq_true rfl), (Nat.le_of_ble_eq_true rfl)⟩ ?_
      refine b_if_eq (tgt := 52) hx hb dX5_costFrom_39 (by decide) (fun cq6 => ?_) (fun cq6 => ?_)
      · skip
        have hno := cq6
        refine lv_ldc hx hb hown k0 dX5_costFrom_52 ?_
        exact mR_iret C dX5_costFrom_54 ((if_neg hno).symm)
      · skip
        have hyes := cq6
        obtain ⟨vv, hv1, hv2, hve⟩ := inB_rng hlo hhi (by omega) (by omega) cq6
        have hcv : cl (growI r0 (t 1)) = vv := by rw [hve]; exact cl_nI (by omega)
        refine lv_aload_n hx hb dX5_costFrom_42 rfl (lv_at hl 2 rfl) ?_
        refine va_get (D := G.1) (ci := 5) (v := .ref f1) (C := RX5) (T := TX5) (N := 3) hx hb hts k2 hown hK hP 0 rfl rfl 0 (by decide) k1 (fun _ h9 => h9) rfl dX5_costFrom_43 ?_
        refine lv_iload hx hb dX5_costFrom_46 (lv_at hl 1 rfl) ?_
        refine n_iald hx hb hK hP 1 0 rfl rfl (j := vv) hve (by omega) (by decide) dX5_costFrom_48 ?_
        refine lv_goto (tgt := 54) hx hb dX5_costFrom_49 (by decide) ?_
        exact mR_iret C dX5_costFrom_54 (by unfold cfR; rw [if_pos hyes, hcv])
theorem hd_X5_addQuarter : yX5_addQuarter.cls = RX5 ∧ yX5_addQuarter.cls ≠ "java/lang/invoke/MethodHandle" ∧ yX5_addQuarter.cls ≠ "java/lang/invoke/VarHandle" ∧ (parseMethodDescriptor yX5_addQuarter.desc).map (fun d => d.parameters.length) = some 2 := by decide +kernel
set_option maxRecDepth 100000 in
set_option maxHeartbeats 4000000 in
theorem c_X5_addQuarter (l : Launch) (G : gG) (f0 : Nat) (f1 : Nat) (b0 : Nat) (b1 : Nat) (b2 : Nat) (b3 : Nat) (es : Nat → Int32) (co : Nat → Int32) (t : Nat → Int32) (hi : Nat) (ir : Nat) (c : Nat) (hc : c < 4) (hL : loHi t c) (hh : t (13 + c) = nI hi) (hhi : hi ≤ 999) (hir : t 1 = nI ir) (hir2 : ir ≤ 30) : mX l yX5_addQuarter wsX5_addQuarter ({ frames := 3, cells := 0, slots := 0, locals := 67 }) G (pkW G f0 f1 b0 b1 b2 b3 es co t) (pkW G f0 f1 b0 b1 b2 b3 es (upto co (lqG t co c) (hi + 1)) t) [.ref f0, .ref b0, .int (nI c)] (.returned none) := by
  refine mX.of (cc := cX5_addQuarter) (maxL := 6) (ret := none) (by decide) rfl (Nat.le_of_ble_eq_true rfl) ?_
  intro zp ze zs zm zb zt zc ls A hAe C hP hK hD hS hl
  obtain ⟨hx, hb, hr, hml, hown, hts, hlk⟩ := id C
  have hl : lv_has ls 6 [(0, .ref f0), (1, .ref b0), (2, .int (nI c))] := hl
  have k0 := hts (.constant RX5 19 (1000000)) (by decide +kernel)
  have k1 := hts (.fieldLink RX5 24 "DebtDowry$Terms" "high" "[I") (by decide +kernel)
  have k2 := (fun w h => by revert w; decide +kernel : ∀ w ∈ wsX80, w ∈ wsX5_addQuarter)
  have k3 := hts (.fieldLink RX5 9 "DebtDowry$Planner" "cost" "[I") (by decide +kernel)
  have k4 := (fun w h => by revert w; decide +kernel : ∀ w ∈ wsX50, w ∈ wsX5_addQuarter)
  have k5 := hts (.methodLink RX5 29 Lib.Math.min.name) (by decide +kernel)
  have k6 := hts (.static Lib.Math.min.name) (by decide +kernel)
  have k7 := hts (.initialized "java/lang/Math") (by decide +kernel)
  have k8 := hts (.code Lib.Math.min.name Lib.Math.min.code 2 (some .int)) (by decide +kernel)
  refine lv_ldc hx hb hown k0 dX5_addQuarter_0 ?_
  refine lv_istore_n (lv' := [(3, .int 1000000), (0, .ref f0), (1, .ref b0), (2, .int (nI c))]) hx hb dX5_addQuarter_2 rfl hl (by decide) rfl (fun ls hl => ?_)
  refine lv_iconst (v := 0) hx hb dX5_addQuarter_3 (by decide) ?_
  refine lv_istore (lv' := [(4, .int 0), (3, .int 1000000), (0, .ref f0), (1, .ref b0), (2, .int (nI c))]) hx hb dX5_addQuarter_4 hl (by decide) rfl (fun ls hl => ?_)
  refine wl_X (B := (hi + 1)) (i0 := 0) (Inv := fun i1 H locs ls => va_P G.1 vwCl (pkW G f0 f1 b0 b1 b2 b3 es (upto co (lqG t co c) i1) t) H ∧ va_D A (pkW G f0 f1 b0 b1 b2 b3 es (upto co (lqG t co c) i1) t) ∧ va_S A zs.heap H locs ∧ lv_has ls 6 [(0, .ref f0), (1, .ref b0), (2, .int (nI c)), (3, .int (lqU t co c i1)), (4, .int (nI i1))] ∧ True) (by omega) ⟨by rw [upto_0]; exact hP, by rw [upto_0]; exact hD, hS, lv_sub hl [2, 3, 4, 1, 0] (rfl), trivial⟩ ?_
  rintro i1 H locs ls hle6 ⟨hP, hD, hS, hl, -⟩ ih6
  refine lv_iload hx hb dX5_addQuarter_6 (lv_at hl 4 rfl) ?_
  refine lv_sipush (v := 999) hx hb dX5_addQuarter_8 (by decide) ?_
  refine n_icmp_gt (tgt := 80) hx hb dX5_addQuarter_11 (by decide) (u := i1) (v := 999) rfl rfl (by omega) (by omega) (fun cq1 => ?_) (fun cq1 => ?_)
  · skip
    obtain rfl : i1 = hi + 1 := by omega
    exact mX_vret hAe C hP hS dX5_addQuarter_80
  · skip
    refine lv_iload hx hb dX5_addQuarter_14 (lv_at hl 4 rfl) ?_
    refine lv_aload_n hx hb dX5_addQuarter_16 rfl (lv_at hl 1 rfl) ?_
    refine va_get (D := G.1) (ci := 8) (v := .ref b2) (C := RX8) (T := TX8) (N := 9) hx hb hts k2 hown hK hP 2 rfl rfl 7 (by decide) k1 (fun _ h9 => h9) rfl dX5_addQuarter_17 ?_
    refine lv_iload_n hx hb dX5_addQuarter_20 rfl (lv_at hl 2 rfl) ?_
    refine n_iald hx hb hK hP 4 0 rfl rfl (j := c) rfl (by omega) (by decide) dX5_addQuarter_21 ?_
    refine n_icmp_gt (tgt := 80) hx hb dX5_addQuarter_22 (by decide) (u := i1) (v := hi) rfl hh (by omega) (by omega) (fun cq2 => ?_) (fun cq2 => ?_)
    · skip
      obtain rfl : i1 = hi + 1 := by omega
      exact mX_vret hAe C hP hS dX5_addQuarter_80
    · skip
      refine lv_aload_n hx hb dX5_addQuarter_25 rfl (lv_at hl 0 rfl) ?_
      refine lv_aload_n hx hb dX5_addQuarter_26 rfl (lv_at hl 1 rfl) ?_
      refine lv_iload_n hx hb dX5_addQuarter_27 rfl (lv_at hl 2 rfl) ?_
      refine lv_iload hx hb dX5_addQuarter_28 (lv_at hl 4 rfl) ?_
      refine cR_V (Cn := RX5) (n := 3) (As := [.ref b0, .int (nI c), .int (nI i1)]) (rest := []) C (c_X5_costFrom l G f0 f1 b0 b1 b2 b3 es (upto co (lqG t co c) i1) t  c (nI i1) (by omega) hL) gX5_addQuarter_X5_costFrom rfl ⟨rfl, rfl⟩ hd_X5_costFrom ⟨(Nat.le_of_ble_eq_true rfl), (Nat.le_of_ble_eq_true rfl)⟩ hK hP (va_recv hK hP (ci := 5) (q0 := 0) rfl rfl) rfl hl.1 rfl (Nat.le_of_ble_eq_true rfl) dX5_addQuarter_30 ⟨(Nat.le_of_ble_eq_true rfl), (Nat.le_of_ble_eq_true rfl)⟩ ?_
      rw [cfR_up hir hir2 (by omega)]
      refine lv_istore (lv' := [(5, .int (cfR t co c (nI i1))), (0, .ref f0), (1, .ref b0), (2, .int (nI c)), (3, .int (lqU t co c i1)), (4, .int (nI i1))]) hx hb dX5_addQuarter_33 hl (by decide) rfl (fun ls hl => ?_)
      refine lv_iload hx hb dX5_addQuarter_35 (lv_at hl 0 rfl) ?_
      refine lv_ldc hx hb hown k0 dX5_addQuarter_37 ?_
      refine lv_icmp_ge (tgt := 52) hx hb dX5_addQuarter_39 (by decide) (fun cq3 => ?_) (fun cq3 => ?_)
      · skip
        have hcf : lqU t co c (i1 + 1) = lqU t co c i1 := if_neg (i32_nlt.mpr cq3)
        have hl3 : (lqU t co c i1) = lqU t co c (i1 + 1) := hcf.symm
        rw [hl3] at hl
        refine lv_aload_n hx hb dX5_addQuarter_52 rfl (lv_at hl 1 rfl) ?_
        refine va_get (D := G.1) (ci := 5) (v := .ref f1) (C := RX5) (T := TX5) (N := 3) hx hb hts k4 hown hK hP 0 rfl rfl 0 (by decide) k3 (fun _ h9 => h9) rfl dX5_addQuarter_53 ?_
        refine lv_iload hx hb dX5_addQuarter_56 (lv_at hl 5 rfl) ?_
        refine lv_iload_n hx hb dX5_addQuarter_58 rfl (lv_at hl 4 rfl) ?_
        refine lv_ldc hx hb hown k0 dX5_addQuarter_59 ?_
        refine lv_icmp_ne (tgt := 69) hx hb dX5_addQuarter_61 (by decide) (fun cq4 => ?_) (fun cq4 => ?_)
        · skip
          have hq6 : lqU t co c (i1 + 1) + nI i1 = lqG t co c i1 := (if_neg cq4).symm
          refine lv_iload_n hx hb dX5_addQuarter_69 rfl (lv_at hl 4 rfl) ?_
          refine lv_iload hx hb dX5_addQuarter_70 (lv_at hl 5 rfl) ?_
          refine lv_iadd hx hb dX5_addQuarter_72 ?_
          refine n_iastQ hx hb hK hP hD hS 1 0 rfl rfl (x := ((lqU t co c (i1 + 1)) + (nI i1))) (j := i1) rfl (by omega) (by decide) dX5_addQuarter_73 (wsn := pkW G f0 f1 b0 b1 b2 b3 es (upd (upto co (lqG t co c) i1) i1 ((lqU t co c (i1 + 1)) + (nI i1))) t) (pkW_r1 (by omega)) (fun H locs hP hD hS => ?_)
          refine lv_iinc (v := nI (i1 + 1)) (lv' := [(4, .int (nI (i1 + 1))), (5, .int (cfR t co c (nI i1))), (0, .ref f0), (1, .ref b0), (2, .int (nI c)), (3, .int (lqU t co c (i1 + 1)))]) hx hb dX5_addQuarter_74 hl (k := 5) rfl (by rw [show (nI i1 : Int32) = nI i1 from rfl]; exact nI_add _ 1) (by decide) rfl (fun ls hl => ?_)
          refine lv_goto (tgt := 6) hx hb dX5_addQuarter_77 (by decide) ?_
          have e5 : (upd (upto co (lqG t co c) i1) i1 ((lqU t co c (i1 + 1)) + (nI i1))) = upto co (lqG t co c) (i1 + 1) := upto_v hq6
          rw [e5] at hP hD
          exact ih6 _ _ _ (by omega) ⟨hP, hD, hS, lv_sub hl [2, 3, 4, 5, 0] (rfl), trivial⟩
        · skip
          have hq6 : (1000000 : Int32) = lqG t co c i1 := (if_pos cq4).symm
          refine lv_ldc hx hb hown k0 dX5_addQuarter_64 ?_
          refine lv_goto (tgt := 73) hx hb dX5_addQuarter_66 (by decide) ?_
          refine n_iastQ hx hb hK hP hD hS 1 0 rfl rfl (x := 1000000) (j := i1) rfl (by omega) (by decide) dX5_addQuarter_73 (wsn := pkW G f0 f1 b0 b1 b2 b3 es (upd (upto co (lqG t co c) i1) i1 1000000) t) (pkW_r1 (by omega)) (fun H locs hP hD hS => ?_)
          refine lv_iinc (v := nI (i1 + 1)) (lv' := [(4, .int (nI (i1 + 1))), (5, .int (cfR t co c (nI i1))), (0, .ref f0), (1, .ref b0), (2, .int (nI c)), (3, .int (lqU t co c (i1 + 1)))]) hx hb dX5_addQuarter_74 hl (k := 5) rfl (by rw [show (nI i1 : Int32) = nI i1 from rfl]; exact nI_add _ 1) (by decide) rfl (fun ls hl => ?_)
          refine lv_goto (tgt := 6) hx hb dX5_addQuarter_77 (by decide) ?_
          have e6 : (upd (upto co (lqG t co c) i1) i1 1000000) = upto co (lqG t co c) (i1 + 1) := upto_v hq6
          rw [e6] at hP hD
          exact ih6 _ _ _ (by omega) ⟨hP, hD, hS, lv_sub hl [2, 3, 4, 5, 0] (rfl), trivial⟩
      · skip
        have hcf : lqU t co c (i1 + 1) = (if cfR t co c (nI i1) - nI i1 < lqU t co c i1 then cfR t co c (nI i1) - nI i1 else lqU t co c i1) := if_pos (i32_nle.mp cq3)
        refine lv_iload_n hx hb dX5_addQuarter_42 rfl (lv_at hl 4 rfl) ?_
        refine lv_iload hx hb dX5_addQuarter_43 (lv_at hl 0 rfl) ?_
        refine lv_iload hx hb dX5_addQuarter_45 (lv_at hl 5 rfl) ?_
        refine lv_isub hx hb dX5_addQuarter_47 ?_
        refine va_mmin hx hb (hml.trans hl.1.symm) hown k5 k6 k7 k8 (Nat.le_of_ble_eq_true rfl) (Nat.le_of_ble_eq_true rfl) (Nat.le_of_ble_eq_true rfl) (Nat.le_of_ble_eq_true rfl) dX5_addQuarter_48 ?_
        refine lv_istore_n (lv' := [(3, .int (if ((cfR t co c (nI i1)) - (nI i1)) < (lqU t co c i1) then ((cfR t co c (nI i1)) - (nI i1)) else (lqU t co c i1))), (5, .int (cfR t co c (nI i1))), (0, .ref f0), (1, .ref b0), (2, .int (nI c)), (4, .int (nI i1))]) hx hb dX5_addQuarter_51 rfl hl (by decide) rfl (fun ls hl => ?_)
        have hl3 : (if ((cfR t co c (nI i1)) - (nI i1)) < (lqU t co c i1) then ((cfR t co c (nI i1)) - (nI i1)) else (lqU t co c i1)) = lqU t co c (i1 + 1) := hcf.symm
        rw [hl3] at hl
        refine lv_aload_n hx hb dX5_addQuarter_52 rfl (lv_at hl 2 rfl) ?_
        refine va_get (D := G.1) (ci := 5) (v := .ref f1) (C := RX5) (T := TX5) (N := 3) hx hb hts k4 hown hK hP 0 rfl rfl 0 (by decide) k3 (fun _ h9 => h9) rfl dX5_addQuarter_53 ?_
        refine lv_iload hx hb dX5_addQuarter_56 (lv_at hl 5 rfl) ?_
        refine lv_iload_n hx hb dX5_addQuarter_58 rfl (lv_at hl 0 rfl) ?_
        refine lv_ldc hx hb hown k0 dX5_addQuarter_59 ?_
        refine lv_icmp_ne (tgt := 69) hx hb dX5_addQuarter_61 (by decide) (fun cq7 => ?_) (fun cq7 => ?_)
        · skip
          have hq6 : lqU t co c (i1 + 1) + nI i1 = lqG t co c i1 := (if_neg cq7).symm
          refine lv_iload_n hx hb dX5_addQuarter_69 rfl (lv_at hl 0 rfl) ?_
          refine lv_iload hx hb dX5_addQuarter_70 (lv_at hl 5 rfl) ?_
          refine lv_iadd hx hb dX5_addQuarter_72 ?_
          refine n_iastQ hx hb hK hP hD hS 1 0 rfl rfl (x := ((lqU t co c (i1 + 1)) + (nI i1))) (j := i1) rfl (by omega) (by decide) dX5_addQuarter_73 (wsn := pkW G f0 f1 b0 b1 b2 b3 es (upd (upto co (lqG t co c) i1) i1 ((lqU t co c (i1 + 1)) + (nI i1))) t) (pkW_r1 (by omega)) (fun H locs hP hD hS => ?_)
          refine lv_iinc (v := nI (i1 + 1)) (lv' := [(4, .int (nI (i1 + 1))), (3, .int (lqU t co c (i1 + 1))), (5, .int (cfR t co c (nI i1))), (0, .ref f0), (1, .ref b0), (2, .int (nI c))]) hx hb dX5_addQuarter_74 hl (k := 5) rfl (by rw [show (nI i1 : Int32) = nI i1 from rfl]; exact nI_add _ 1) (by decide) rfl (fun ls hl => ?_)
          refine lv_goto (tgt := 6) hx hb dX5_addQuarter_77 (by decide) ?_
          have e8 : (upd (upto co (lqG t co c) i1) i1 ((lqU t co c (i1 + 1)) + (nI i1))) = upto co (lqG t co c) (i1 + 1) := upto_v hq6
          rw [e8] at hP hD
          exact ih6 _ _ _ (by omega) ⟨hP, hD, hS, lv_sub hl [3, 4, 5, 1, 0] (rfl), trivial⟩
        · skip
          have hq6 : (1000000 : Int32) = lqG t co c i1 := (if_pos cq7).symm
          refine lv_ldc hx hb hown k0 dX5_addQuarter_64 ?_
          refine lv_goto (tgt := 73) hx hb dX5_addQuarter_66 (by decide) ?_
          refine n_iastQ hx hb hK hP hD hS 1 0 rfl rfl (x := 1000000) (j := i1) rfl (by omega) (by decide) dX5_addQuarter_73 (wsn := pkW G f0 f1 b0 b1 b2 b3 es (upd (upto co (lqG t co c) i1) i1 1000000) t) (pkW_r1 (by omega)) (fun H locs hP hD hS => ?_)
          refine lv_iinc (v := nI (i1 + 1)) (lv' := [(4, .int (nI (i1 + 1))), (3, .int (lqU t co c (i1 + 1))), (5, .int (cfR t co c (nI i1))), (0, .ref f0), (1, .ref b0), (2, .int (nI c))]) hx hb dX5_addQuarter_74 hl (k := 5) rfl (by rw [show (nI i1 : Int32) = nI i1 from rfl]; exact nI_add _ 1) (by decide) rfl (fun ls hl => ?_)
          refine lv_goto (tgt := 6) hx hb dX5_addQuarter_77 (by decide) ?_
          have e9 : (upd (upto co (lqG t co c) i1) i1 1000000) = upto co (lqG t co c) (i1 + 1) := upto_v hq6
          rw [e9] at hP hD
          exact ih6 _ _ _ (by omega) ⟨hP, hD, hS, lv_sub hl [3, 4, 5, 1, 0] (rfl), trivial⟩
theorem hd_X5_work : yX5_work.cls = RX5 ∧ yX5_work.cls ≠ "java/lang/invoke/MethodHandle" ∧ yX5_work.cls ≠ "java/lang/invoke/VarHandle" ∧ (parseMethodDescriptor yX5_work.desc).map (fun d => d.parameters.length) = some 4 := by decide +kernel
set_option maxRecDepth 100000 in
set_option maxHeartbeats 4000000 in
theorem c_X5_work (l : Launch) (G : gG) (f0 : Nat) (f1 : Nat) (b0 : Nat) (b1 : Nat) (b2 : Nat) (b3 : Nat) (es : Nat → Int32) (co : Nat → Int32) (t : Nat → Int32) (hi : Nat) (ir : Nat) (c : Nat) (ow : Nat) (k : Nat) (hc : c < 4) (hL : loHi t c) (hh : t (13 + c) = nI hi) (hhi : hi ≤ 999) (hir : t 1 = nI ir) (hir2 : ir ≤ 30) (how : ow ≤ 9999) (hk1 : 1 ≤ k) (hk8 : k ≤ 8) : mX l yX5_work wsX5_work ({ frames := 4, cells := 0, slots := 0, locals := 92 }) G (pkW G f0 f1 b0 b1 b2 b3 es co t) (pkW G f0 f1 b0 b1 b2 b3 (upd (upd es 4 (paF t (rwQ t c hi (upto co (fun _ => 0) 1000) (k - 1)) c (nI ow) (min ow hi + 1))) 5 (paL t (rwQ t c hi (upto co (fun _ => 0) 1000) (k - 1)) c (nI ow) (es 5) (min ow hi + 1))) (rwQ t c hi (upto co (fun _ => 0) 1000) (k - 1)) t) [.ref f0, .ref b0, .int (nI c), .int (nI ow), .int (nI k)] (.returned (some (.int (bI (paF t (rwQ t c hi (upto co (fun _ => 0) 1000) (k - 1)) c (nI ow) (min ow hi + 1) < 1000000))))) := by
  refine mX.of (cc := cX5_work) (maxL := 8) (ret := (some .boolean)) (by decide) rfl (Nat.le_of_ble_eq_true rfl) ?_
  intro zp ze zs zm zb zt zc ls A hAe C hP hK hD hS hl
  obtain ⟨hx, hb, hr, hml, hown, hts, hlk⟩ := id C
  have hl : lv_has ls 8 [(0, .ref f0), (1, .ref b0), (2, .int (nI c)), (3, .int (nI ow)), (4, .int (nI k))] := hl
  have k0 := hts (.constant RX5 19 (1000000)) (by decide +kernel)
  have k1 := hts (.fieldLink RX5 20 "DebtDowry$Planner" "together" "I") (by decide +kernel)
  have k2 := (fun w h => by revert w; decide +kernel : ∀ w ∈ wsX50, w ∈ wsX5_work)
  have k3 := hts (.fieldLink RX5 24 "DebtDowry$Terms" "high" "[I") (by decide +kernel)
  have k4 := (fun w h => by revert w; decide +kernel : ∀ w ∈ wsX80, w ∈ wsX5_work)
  have k5 := hts (.methodLink RX5 29 Lib.Math.min.name) (by decide +kernel)
  have k6 := hts (.static Lib.Math.min.name) (by decide +kernel)
  have k7 := hts (.initialized "java/lang/Math") (by decide +kernel)
  have k8 := hts (.code Lib.Math.min.name Lib.Math.min.code 2 (some .int)) (by decide +kernel)
  have k9 := hts (.fieldLink RX5 39 "DebtDowry$Planner" "first" "I") (by decide +kernel)
  have k10 := hts (.fieldLink RX5 9 "DebtDowry$Planner" "cost" "[I") (by decide +kernel)
  refine lv_iconst (v := 0) hx hb dX5_work_0 (by decide) ?_
  refine lv_istore (lv' := [(5, .int 0), (0, .ref f0), (1, .ref b0), (2, .int (nI c)), (3, .int (nI ow)), (4, .int (nI k))]) hx hb dX5_work_1 hl (by decide) rfl (fun ls hl => ?_)
  refine wl_X (B := 1000) (i0 := 0) (Inv := fun i1 H locs ls => va_P G.1 vwCl (pkW G f0 f1 b0 b1 b2 b3 es (upto co (fun _ => 0) i1) t) H ∧ va_D A (pkW G f0 f1 b0 b1 b2 b3 es (upto co (fun _ => 0) i1) t) ∧ va_S A zs.heap H locs ∧ lv_has ls 8 [(0, .ref f0), (1, .ref b0), (2, .int (nI c)), (3, .int (nI ow)), (4, .int (nI k)), (5, .int (nI i1))] ∧ True) (by omega) ⟨by rw [upto_0]; exact hP, by rw [upto_0]; exact hD, hS, lv_sub hl [1, 2, 3, 4, 5, 0] (rfl), trivial⟩ ?_
  rintro i1 H locs ls hle3 ⟨hP, hD, hS, hl, -⟩ ih3
  refine lv_iload hx hb dX5_work_3 (lv_at hl 5 rfl) ?_
  refine lv_sipush (v := 999) hx hb dX5_work_5 (by decide) ?_
  refine n_icmp_gt (tgt := 25) hx hb dX5_work_8 (by decide) (u := i1) (v := 999) rfl rfl (by omega) (by omega) (fun cq1 => ?_) (fun cq1 => ?_)
  · skip
    obtain rfl : i1 = 1000 := by omega
    refine lv_iconst (v := 1) hx hb dX5_work_25 (by decide) ?_
    refine lv_istore (lv' := [(5, .int 1), (0, .ref f0), (1, .ref b0), (2, .int (nI c)), (3, .int (nI ow)), (4, .int (nI k))]) hx hb dX5_work_26 hl (by decide) rfl (fun ls hl => ?_)
    refine wl_X (B := (k - 1)) (i0 := 0) (Inv := fun i2 H locs ls => va_P G.1 vwCl (pkW G f0 f1 b0 b1 b2 b3 es (rwQ t c hi (upto co (fun _ => 0) 1000) i2) t) H ∧ va_D A (pkW G f0 f1 b0 b1 b2 b3 es (rwQ t c hi (upto co (fun _ => 0) 1000) i2) t) ∧ va_S A zs.heap H locs ∧ lv_has ls 8 [(0, .ref f0), (1, .ref b0), (2, .int (nI c)), (3, .int (nI ow)), (4, .int (nI k)), (5, .int (nI (i2 + 1)))] ∧ True) (by omega) ⟨hP, hD, hS, lv_sub hl [1, 2, 3, 4, 5, 0] (rfl), trivial⟩ ?_
    rintro i2 H locs ls hle28 ⟨hP, hD, hS, hl, -⟩ ih28
    refine lv_iload hx hb dX5_work_28 (lv_at hl 5 rfl) ?_
    refine lv_iload hx hb dX5_work_30 (lv_at hl 4 rfl) ?_
    refine n_icmp_ge (tgt := 47) hx hb dX5_work_32 (by decide) (u := i2 + 1) (v := k) rfl rfl (by omega) (by omega) (fun cq2 => ?_) (fun cq2 => ?_)
    · skip
      obtain rfl : i2 = k - 1 := by omega
      refine lv_aload_n hx hb dX5_work_47 rfl (lv_at hl 0 rfl) ?_
      refine lv_ldc hx hb hown k0 dX5_work_48 ?_
      refine n_putQ (D := G.1) (wsn := pkW G f0 f1 b0 b1 b2 b3 (upd es 4 1000000) (rwQ t c hi (upto co (fun _ => 0) 1000) (k - 1)) t) (ci := 5) (v := .int 1000000) (ty := .int) (C := RX5) (T := TX5) (N := 3) hx hb hts k2 tyX5 tyX5_ok nmX5 hown hK hP hD hS 0 rfl rfl 1 (by decide) k1 (fun _ h9 => h9) rfl (by decide +kernel) rfl rfl (Nat.le_of_ble_eq_true rfl) pkW_p0_1 dX5_work_50 (fun H locs hP hD hS => ?_)
      refine lv_iload_n hx hb dX5_work_53 rfl (lv_at hl 3 rfl) ?_
      refine lv_aload_n hx hb dX5_work_54 rfl (lv_at hl 1 rfl) ?_
      refine va_get (D := G.1) (ci := 8) (v := .ref b2) (C := RX8) (T := TX8) (N := 9) hx hb hts k4 hown hK hP 2 rfl rfl 7 (by decide) k3 (fun _ h9 => h9) rfl dX5_work_55 ?_
      refine lv_iload_n hx hb dX5_work_58 rfl (lv_at hl 2 rfl) ?_
      refine n_iald hx hb hK hP 4 0 rfl rfl (j := c) rfl (by omega) (by decide) dX5_work_59 ?_
      refine va_mmin hx hb (hml.trans hl.1.symm) hown k5 k6 k7 k8 (Nat.le_of_ble_eq_true rfl) (Nat.le_of_ble_eq_true rfl) (Nat.le_of_ble_eq_true rfl) (Nat.le_of_ble_eq_true rfl) dX5_work_60 ?_
      rw [show (if t (13 + c) < nI ow then t (13 + c) else nI ow) = nI (min ow hi) from mn_hi hh (by omega) (by omega)]
      refine lv_istore (lv' := [(5, .int (nI (min ow hi))), (0, .ref f0), (1, .ref b0), (2, .int (nI c)), (3, .int (nI ow)), (4, .int (nI k))]) hx hb dX5_work_63 hl (by decide) rfl (fun ls hl => ?_)
      refine lv_iconst (v := 0) hx hb dX5_work_65 (by decide) ?_
      refine lv_istore (lv' := [(6, .int 0), (5, .int (nI (min ow hi))), (0, .ref f0), (1, .ref b0), (2, .int (nI c)), (3, .int (nI ow)), (4, .int (nI k))]) hx hb dX5_work_66 hl (by decide) rfl (fun ls hl => ?_)
      have hes0 : upd (upd es 4 (paF t (rwQ t c hi (upto co (fun _ => 0) 1000) (k - 1)) c (nI ow) 0)) 5 (paL t (rwQ t c hi (upto co (fun _ => 0) 1000) (k - 1)) c (nI ow) (es 5) 0) = upd es 4 1000000 := upd_self rfl
      refine wl_X (B := (min ow hi + 1)) (i0 := 0) (Inv := fun i3 H locs ls => va_P G.1 vwCl (pkW G f0 f1 b0 b1 b2 b3 (upd (upd es 4 (paF t (rwQ t c hi (upto co (fun _ => 0) 1000) (k - 1)) c (nI ow) i3)) 5 (paL t (rwQ t c hi (upto co (fun _ => 0) 1000) (k - 1)) c (nI ow) (es 5) i3)) (rwQ t c hi (upto co (fun _ => 0) 1000) (k - 1)) t) H ∧ va_D A (pkW G f0 f1 b0 b1 b2 b3 (upd (upd es 4 (paF t (rwQ t c hi (upto co (fun _ => 0) 1000) (k - 1)) c (nI ow) i3)) 5 (paL t (rwQ t c hi (upto co (fun _ => 0) 1000) (k - 1)) c (nI ow) (es 5) i3)) (rwQ t c hi (upto co (fun _ => 0) 1000) (k - 1)) t) ∧ va_S A zs.heap H locs ∧ lv_has ls 8 [(0, .ref f0), (1, .ref b0), (2, .int (nI c)), (3, .int (nI ow)), (4, .int (nI k)), (5, .int (nI (min ow hi))), (6, .int (nI i3))] ∧ True) (by omega) ⟨by rw [hes0]; exact hP, by rw [hes0]; exact hD, hS, lv_sub hl [2, 3, 4, 5, 6, 1, 0] (rfl), trivial⟩ ?_
      rintro i3 H locs ls hle68 ⟨hP, hD, hS, hl, -⟩ ih68
      refine lv_iload hx hb dX5_work_68 (lv_at hl 6 rfl) ?_
      refine lv_iload hx hb dX5_work_70 (lv_at hl 5 rfl) ?_
      refine n_icmp_gt (tgt := 126) hx hb dX5_work_72 (by decide) (u := i3) (v := min ow hi) rfl rfl (by omega) (by omega) (fun cq3 => ?_) (fun cq3 => ?_)
      · skip
        obtain rfl : i3 = min ow hi + 1 := by omega
        refine lv_aload_n hx hb dX5_work_126 rfl (lv_at hl 0 rfl) ?_
        refine va_get (D := G.1) (ci := 5) (v := .int (paF t (rwQ t c hi (upto co (fun _ => 0) 1000) (k - 1)) c (nI ow) (min ow hi + 1))) (C := RX5) (T := TX5) (N := 3) hx hb hts k2 hown hK hP 0 rfl rfl 1 (by decide) k1 (fun _ h9 => h9) rfl dX5_work_127 ?_
        refine lv_ldc hx hb hown k0 dX5_work_130 ?_
        refine lv_icmp_ge (tgt := 139) hx hb dX5_work_132 (by decide) (fun cq4 => ?_) (fun cq4 => ?_)
        · skip
          refine lv_iconst (v := 0) hx hb dX5_work_139 (by decide) ?_
          exact mX_zret hAe C hP hS dX5_work_140 (by decide) ((bI_f (i32_nlt.mpr cq4)).symm)
        · skip
          refine lv_iconst (v := 1) hx hb dX5_work_135 (by decide) ?_
          refine lv_goto (tgt := 140) hx hb dX5_work_136 (by decide) ?_
          exact mX_zret hAe C hP hS dX5_work_140 (by decide) ((bI_t (i32_nle.mp cq4)).symm)
      · skip
        refine lv_aload_n hx hb dX5_work_75 rfl (lv_at hl 0 rfl) ?_
        refine lv_aload_n hx hb dX5_work_76 rfl (lv_at hl 1 rfl) ?_
        refine lv_iload_n hx hb dX5_work_77 rfl (lv_at hl 2 rfl) ?_
        refine lv_iload hx hb dX5_work_78 (lv_at hl 6 rfl) ?_
        refine cR_V (Cn := RX5) (n := 3) (As := [.ref b0, .int (nI c), .int (nI i3)]) (rest := []) C (c_X5_costFrom l G f0 f1 b0 b1 b2 b3 (upd (upd es 4 (paF t (rwQ t c hi (upto co (fun _ => 0) 1000) (k - 1)) c (nI ow) i3)) 5 (paL t (rwQ t c hi (upto co (fun _ => 0) 1000) (k - 1)) c (nI ow) (es 5) i3)) (rwQ t c hi (upto co (fun _ => 0) 1000) (k - 1)) t  c (nI i3) (by omega) hL) gX5_work_X5_costFrom rfl ⟨rfl, rfl⟩ hd_X5_costFrom ⟨(Nat.le_of_ble_eq_true rfl), (Nat.le_of_ble_eq_true rfl)⟩ hK hP (va_recv hK hP (ci := 5) (q0 := 0) rfl rfl) rfl hl.1 rfl (Nat.le_of_ble_eq_true rfl) dX5_work_80 ⟨(Nat.le_of_ble_eq_true rfl), (Nat.le_of_ble_eq_true rfl)⟩ ?_
        refine lv_iload_n hx hb dX5_work_83 rfl (lv_at hl 3 rfl) ?_
        refine lv_iadd hx hb dX5_work_84 ?_
        refine lv_iload hx hb dX5_work_85 (lv_at hl 6 rfl) ?_
        refine lv_isub hx hb dX5_work_87 ?_
        refine lv_istore (lv' := [(7, .int (paB t (rwQ t c hi (upto co (fun _ => 0) 1000) (k - 1)) c (nI ow) i3)), (0, .ref f0), (1, .ref b0), (2, .int (nI c)), (3, .int (nI ow)), (4, .int (nI k)), (5, .int (nI (min ow hi))), (6, .int (nI i3))]) hx hb dX5_work_88 hl (by decide) rfl (fun ls hl => ?_)
        refine lv_iload hx hb dX5_work_90 (lv_at hl 0 rfl) ?_
        refine lv_aload_n hx hb dX5_work_92 rfl (lv_at hl 1 rfl) ?_
        refine va_get (D := G.1) (ci := 5) (v := .int (paF t (rwQ t c hi (upto co (fun _ => 0) 1000) (k - 1)) c (nI ow) i3)) (C := RX5) (T := TX5) (N := 3) hx hb hts k2 hown hK hP 0 rfl rfl 1 (by decide) k1 (fun _ h9 => h9) rfl dX5_work_93 ?_
        refine lv_icmp_gt (tgt := 120) hx hb dX5_work_96 (by decide) (fun cq5 => ?_) (fun cq5 => ?_)
        · skip
          have hcd : ¬ (paB t (rwQ t c hi (upto co (fun _ => 0) 1000) (k - 1)) c (nI ow) i3 ≤ paF t (rwQ t c hi (upto co (fun _ => 0) 1000) (k - 1)) c (nI ow) i3 ∧ paB t (rwQ t c hi (upto co (fun _ => 0) 1000) (k - 1)) c (nI ow) i3 < 1000000) := fun q => i32_nle.mpr cq5 q.1
          have hpF : paF t (rwQ t c hi (upto co (fun _ => 0) 1000) (k - 1)) c (nI ow) (i3 + 1) = paF t (rwQ t c hi (upto co (fun _ => 0) 1000) (k - 1)) c (nI ow) i3 := if_neg hcd
          have hpL : paL t (rwQ t c hi (upto co (fun _ => 0) 1000) (k - 1)) c (nI ow) (es 5) (i3 + 1) = paL t (rwQ t c hi (upto co (fun _ => 0) 1000) (k - 1)) c (nI ow) (es 5) i3 := if_neg hcd
          refine lv_iinc (v := nI (i3 + 1)) (lv' := [(6, .int (nI (i3 + 1))), (7, .int (paB t (rwQ t c hi (upto co (fun _ => 0) 1000) (k - 1)) c (nI ow) i3)), (0, .ref f0), (1, .ref b0), (2, .int (nI c)), (3, .int (nI ow)), (4, .int (nI k)), (5, .int (nI (min ow hi)))]) hx hb dX5_work_120 hl (k := 7) rfl (by rw [show (nI i3 : Int32) = nI i3 from rfl]; exact nI_add _ 1) (by decide) rfl (fun ls hl => ?_)
          refine lv_goto (tgt := 68) hx hb dX5_work_123 (by decide) ?_
          have e6 : (upd (upd es 4 (paF t (rwQ t c hi (upto co (fun _ => 0) 1000) (k - 1)) c (nI ow) i3)) 5 (paL t (rwQ t c hi (upto co (fun _ => 0) 1000) (k - 1)) c (nI ow) (es 5) i3)) = (upd (upd es 4 (paF t (rwQ t c hi (upto co (fun _ => 0) 1000) (k - 1)) c (nI ow) (i3 + 1))) 5 (paL t (rwQ t c hi (upto co (fun _ => 0) 1000) (k - 1)) c (nI ow) (es 5) (i3 + 1))) := by rw [hpF, hpL]; first | done | exact upd4 (by decide)
          rw [e6] at hP hD
          exact ih68 _ _ _ (by omega) ⟨hP, hD, hS, lv_sub hl [2, 3, 4, 5, 6, 7, 0] (rfl), trivial⟩
        · skip
          have h96 := i32_nlt.mp cq5
          refine lv_iload hx hb dX5_work_99 (lv_at hl 0 rfl) ?_
          refine lv_ldc hx hb hown k0 dX5_work_101 ?_
          refine lv_icmp_ge (tgt := 120) hx hb dX5_work_103 (by decide) (fun cq7 => ?_) (fun cq7 => ?_)
          · skip
            have hcd : ¬ (paB t (rwQ t c hi (upto co (fun _ => 0) 1000) (k - 1)) c (nI ow) i3 ≤ paF t (rwQ t c hi (upto co (fun _ => 0) 1000) (k - 1)) c (nI ow) i3 ∧ paB t (rwQ t c hi (upto co (fun _ => 0) 1000) (k - 1)) c (nI ow) i3 < 1000000) := fun q => i32_nlt.mpr cq7 q.2
            have hpF : paF t (rwQ t c hi (upto co (fun _ => 0) 1000) (k - 1)) c (nI ow) (i3 + 1) = paF t (rwQ t c hi (upto co (fun _ => 0) 1000) (k - 1)) c (nI ow) i3 := if_neg hcd
            have hpL : paL t (rwQ t c hi (upto co (fun _ => 0) 1000) (k - 1)) c (nI ow) (es 5) (i3 + 1) = paL t (rwQ t c hi (upto co (fun _ => 0) 1000) (k - 1)) c (nI ow) (es 5) i3 := if_neg hcd
            refine lv_iinc (v := nI (i3 + 1)) (lv' := [(6, .int (nI (i3 + 1))), (7, .int (paB t (rwQ t c hi (upto co (fun _ => 0) 1000) (k - 1)) c (nI ow) i3)), (0, .ref f0), (1, .ref b0), (2, .int (nI c)), (3, .int (nI ow)), (4, .int (nI k)), (5, .int (nI (min ow hi)))]) hx hb dX5_work_120 hl (k := 7) rfl (by rw [show (nI i3 : Int32) = nI i3 from rfl]; exact nI_add _ 1) (by decide) rfl (fun ls hl => ?_)
            refine lv_goto (tgt := 68) hx hb dX5_work_123 (by decide) ?_
            have e8 : (upd (upd es 4 (paF t (rwQ t c hi (upto co (fun _ => 0) 1000) (k - 1)) c (nI ow) i3)) 5 (paL t (rwQ t c hi (upto co (fun _ => 0) 1000) (k - 1)) c (nI ow) (es 5) i3)) = (upd (upd es 4 (paF t (rwQ t c hi (upto co (fun _ => 0) 1000) (k - 1)) c (nI ow) (i3 + 1))) 5 (paL t (rwQ t c hi (upto co (fun _ => 0) 1000) (k - 1)) c (nI ow) (es 5) (i3 + 1))) := by rw [hpF, hpL]; first | done | exact upd4 (by decide)
            rw [e8] at hP hD
            exact ih68 _ _ _ (by omega) ⟨hP, hD, hS, lv_sub hl [2, 3, 4, 5, 6, 7, 0] (rfl), trivial⟩
          · skip
            have hcd : (paB t (rwQ t c hi (upto co (fun _ => 0) 1000) (k - 1)) c (nI ow) i3 ≤ paF t (rwQ t c hi (upto co (fun _ => 0) 1000) (k - 1)) c (nI ow) i3 ∧ paB t (rwQ t c hi (upto co (fun _ => 0) 1000) (k - 1)) c (nI ow) i3 < 1000000) := ⟨h96, i32_nle.mp cq7⟩
            have hpF : paF t (rwQ t c hi (upto co (fun _ => 0) 1000) (k - 1)) c (nI ow) (i3 + 1) = paB t (rwQ t c hi (upto co (fun _ => 0) 1000) (k - 1)) c (nI ow) i3 := if_pos hcd
            have hpL : paL t (rwQ t c hi (upto co (fun _ => 0) 1000) (k - 1)) c (nI ow) (es 5) (i3 + 1) = nI ow - nI i3 := if_pos hcd
            refine lv_aload_n hx hb dX5_work_106 rfl (lv_at hl 1 rfl) ?_
            refine lv_iload hx hb dX5_work_107 (lv_at hl 0 rfl) ?_
            refine n_putQ (D := G.1) (wsn := pkW G f0 f1 b0 b1 b2 b3 (upd (upd (upd es 4 (paF t (rwQ t c hi (upto co (fun _ => 0) 1000) (k - 1)) c (nI ow) i3)) 5 (paL t (rwQ t c hi (upto co (fun _ => 0) 1000) (k - 1)) c (nI ow) (es 5) i3)) 4 (paB t (rwQ t c hi (upto co (fun _ => 0) 1000) (k - 1)) c (nI ow) i3)) (rwQ t c hi (upto co (fun _ => 0) 1000) (k - 1)) t) (ci := 5) (v := .int (paB t (rwQ t c hi (upto co (fun _ => 0) 1000) (k - 1)) c (nI ow) i3)) (ty := .int) (C := RX5) (T := TX5) (N := 3) hx hb hts k2 tyX5 tyX5_ok nmX5 hown hK hP hD hS 0 rfl rfl 1 (by decide) k1 (fun _ h9 => h9) rfl (by decide +kernel) rfl rfl (Nat.le_of_ble_eq_true rfl) pkW_p0_1 dX5_work_109 (fun H locs hP hD hS => ?_)
            refine lv_aload_n hx hb dX5_work_112 rfl (lv_at hl 1 rfl) ?_
            refine lv_iload_n hx hb dX5_work_113 rfl (lv_at hl 4 rfl) ?_
            refine lv_iload hx hb dX5_work_114 (lv_at hl 7 rfl) ?_
            refine lv_isub hx hb dX5_work_116 ?_
            refine n_putQ (D := G.1) (wsn := pkW G f0 f1 b0 b1 b2 b3 (upd (upd (upd (upd es 4 (paF t (rwQ t c hi (upto co (fun _ => 0) 1000) (k - 1)) c (nI ow) i3)) 5 (paL t (rwQ t c hi (upto co (fun _ => 0) 1000) (k - 1)) c (nI ow) (es 5) i3)) 4 (paB t (rwQ t c hi (upto co (fun _ => 0) 1000) (k - 1)) c (nI ow) i3)) 5 ((nI ow) - (nI i3))) (rwQ t c hi (upto co (fun _ => 0) 1000) (k - 1)) t) (ci := 5) (v := .int ((nI ow) - (nI i3))) (ty := .int) (C := RX5) (T := TX5) (N := 3) hx hb hts k2 tyX5 tyX5_ok nmX5 hown hK hP hD hS 0 rfl rfl 2 (by decide) k9 (fun _ h9 => h9) rfl (by decide +kernel) rfl rfl (Nat.le_of_ble_eq_true rfl) pkW_p0_2 dX5_work_117 (fun H locs hP hD hS => ?_)
            refine lv_iinc (v := nI (i3 + 1)) (lv' := [(6, .int (nI (i3 + 1))), (7, .int (paB t (rwQ t c hi (upto co (fun _ => 0) 1000) (k - 1)) c (nI ow) i3)), (0, .ref f0), (1, .ref b0), (2, .int (nI c)), (3, .int (nI ow)), (4, .int (nI k)), (5, .int (nI (min ow hi)))]) hx hb dX5_work_120 hl (k := 7) rfl (by rw [show (nI i3 : Int32) = nI i3 from rfl]; exact nI_add _ 1) (by decide) rfl (fun ls hl => ?_)
            refine lv_goto (tgt := 68) hx hb dX5_work_123 (by decide) ?_
            have e9 : (upd (upd (upd (upd es 4 (paF t (rwQ t c hi (upto co (fun _ => 0) 1000) (k - 1)) c (nI ow) i3)) 5 (paL t (rwQ t c hi (upto co (fun _ => 0) 1000) (k - 1)) c (nI ow) (es 5) i3)) 4 (paB t (rwQ t c hi (upto co (fun _ => 0) 1000) (k - 1)) c (nI ow) i3)) 5 ((nI ow) - (nI i3))) = (upd (upd es 4 (paF t (rwQ t c hi (upto co (fun _ => 0) 1000) (k - 1)) c (nI ow) (i3 + 1))) 5 (paL t (rwQ t c hi (upto co (fun _ => 0) 1000) (k - 1)) c (nI ow) (es 5) (i3 + 1))) := by rw [hpF, hpL]; first | done | exact upd4 (by decide)
            rw [e9] at hP hD
            exact ih68 _ _ _ (by omega) ⟨hP, hD, hS, lv_sub hl [2, 3, 4, 5, 6, 7, 0] (rfl), trivial⟩
    · skip
      refine lv_aload_n hx hb dX5_work_35 rfl (lv_at hl 0 rfl) ?_
      refine lv_aload_n hx hb dX5_work_36 rfl (lv_at hl 1 rfl) ?_
      refine lv_iload_n hx hb dX5_work_37 rfl (lv_at hl 2 rfl) ?_
      refine cX_V (Cn := RX5) (n := 2) (As := [.ref b0, .int (nI c)]) (rest := []) (wsn := pkW G f0 f1 b0 b1 b2 b3 es (upto (rwQ t c hi (upto co (fun _ => 0) 1000) i2) (lqG t (rwQ t c hi (upto co (fun _ => 0) 1000) i2) c) (hi + 1)) t) C (c_X5_addQuarter l G f0 f1 b0 b1 b2 b3 es (rwQ t c hi (upto co (fun _ => 0) 1000) i2) t hi ir c (by omega) hL hh hhi hir hir2) gX5_work_X5_addQuarter rfl ⟨rfl, rfl⟩ hd_X5_addQuarter ⟨(Nat.le_of_ble_eq_true rfl), (Nat.le_of_ble_eq_true rfl)⟩ hK hP hD hS [0, 1, 2, 3, 4, 5] (by decide) rfl (pkW_f.trans pkW_f.symm) rfl (pkW_f.trans pkW_f.symm) (va_recv hK hP (ci := 5) (q0 := 0) rfl rfl) rfl hl.1 rfl (Nat.le_of_ble_eq_true rfl) dX5_work_38 ⟨(Nat.le_of_ble_eq_true rfl), (Nat.le_of_ble_eq_true rfl)⟩ (fun H locs hP hD hS => ?_)
      refine lv_iinc (v := nI ((i2 + 1) + 1)) (lv' := [(5, .int (nI ((i2 + 1) + 1))), (0, .ref f0), (1, .ref b0), (2, .int (nI c)), (3, .int (nI ow)), (4, .int (nI k))]) hx hb dX5_work_41 hl (k := 5) rfl (by rw [show (nI (i2 + 1) : Int32) = nI (i2 + 1) from rfl]; exact nI_add _ 1) (by decide) rfl (fun ls hl => ?_)
      refine lv_goto (tgt := 28) hx hb dX5_work_44 (by decide) ?_
      have e10 : upto (rwQ t c hi (upto co (fun _ => 0) 1000) i2) (lqG t (rwQ t c hi (upto co (fun _ => 0) 1000) i2) c) (hi + 1) = rwQ t c hi (upto co (fun _ => 0) 1000) (i2 + 1) := rfl
      rw [e10] at hP hD
      exact ih28 _ _ _ (by omega) ⟨hP, hD, hS, lv_sub hl [1, 2, 3, 4, 5, 0] (rfl), trivial⟩
  · skip
    refine lv_aload_n hx hb dX5_work_11 rfl (lv_at hl 0 rfl) ?_
    refine va_get (D := G.1) (ci := 5) (v := .ref f1) (C := RX5) (T := TX5) (N := 3) hx hb hts k2 hown hK hP 0 rfl rfl 0 (by decide) k10 (fun _ h9 => h9) rfl dX5_work_12 ?_
    refine lv_iload hx hb dX5_work_15 (lv_at hl 5 rfl) ?_
    refine lv_iconst (v := 0) hx hb dX5_work_17 (by decide) ?_
    refine n_iastQ hx hb hK hP hD hS 1 0 rfl rfl (x := 0) (j := i1) rfl (by omega) (by decide) dX5_work_18 (wsn := pkW G f0 f1 b0 b1 b2 b3 es (upd (upto co (fun _ => 0) i1) i1 0) t) (pkW_r1 (by omega)) (fun H locs hP hD hS => ?_)
    refine lv_iinc (v := nI (i1 + 1)) (lv' := [(5, .int (nI (i1 + 1))), (0, .ref f0), (1, .ref b0), (2, .int (nI c)), (3, .int (nI ow)), (4, .int (nI k))]) hx hb dX5_work_19 hl (k := 5) rfl (by rw [show (nI i1 : Int32) = nI i1 from rfl]; exact nI_add _ 1) (by decide) rfl (fun ls hl => ?_)
    refine lv_goto (tgt := 3) hx hb dX5_work_22 (by decide) ?_
    have e11 : (upd (upto co (fun _ => 0) i1) i1 0) = upto co (fun _ => 0) (i1 + 1) := upto_v rfl
    rw [e11] at hP hD
    exact ih3 _ _ _ (by omega) ⟨hP, hD, hS, lv_sub hl [1, 2, 3, 4, 5, 0] (rfl), trivial⟩
