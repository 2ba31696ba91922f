theorem hd_X7_unite : yX7_unite.cls = RX7 ∧ yX7_unite.cls ≠ "java/lang/invoke/MethodHandle" ∧ yX7_unite.cls ≠ "java/lang/invoke/VarHandle" ∧ (parseMethodDescriptor yX7_unite.desc).map (fun d => d.parameters.length) = some 2 := by decide +kernel
set_option maxRecDepth 100000 in
set_option maxHeartbeats 4000000 in
theorem c_X7_unite (l : Launch) (G : gG) (s0 : Nat) (s1 : Nat) (s2 : Nat) (s3 : Nat) (s4 : Nat) (b0 : Nat) (b1 : Nat) (b2 : Nat) (b3 : Nat) (t : Nat → Int32) (n : Nat → Int32) (nc : Nat) (np : Nat) (g : Nat) (m : Nat) (hT : tw t nc np) (hO : okS t n nc np) (hg : g < 8) (hm : m < 8) : mX l yX7_unite wsX7_unite ({ frames := 2, cells := 0, slots := 0, locals := 44 }) G (sW G s0 s1 s2 s3 s4 b0 b1 b2 b3 t n) (sW G s0 s1 s2 s3 s4 b0 b1 b2 b3 t (wedF n g m)) [.ref s0, .int (nI g), .int (nI m)] (.returned none) := by
  refine mX.of (cc := cX7_unite) (maxL := 4) (ret := none) (by decide) rfl (Nat.le_of_ble_eq_true rfl) ?_
  intro zp ze zs zm zb zt zc ls A hAe C hP hK hD hS hl
  obtain ⟨hx, hb, hr, hml, hown, hts, hlk⟩ := id C
  have hl : lv_has ls 4 [(0, .ref s0), (1, .int (nI g)), (2, .int (nI m))] := hl
  have hT2 := hT.2.2
  have k0 := hts (.fieldLink RX7 24 "DebtDowry$State" "terms" "LDebtDowry$Terms;") (by decide +kernel)
  have k1 := (fun w h => by revert w; decide +kernel : ∀ w ∈ wsX70, w ∈ wsX7_unite)
  have k2 := hts (.fieldLink RX7 47 "DebtDowry$Terms" "creditors" "I") (by decide +kernel)
  have k3 := (fun w h => by revert w; decide +kernel : ∀ w ∈ wsX80, w ∈ wsX7_unite)
  have k4 := hts (.fieldLink RX7 18 "DebtDowry$State" "insults" "[I") (by decide +kernel)
  have k5 := hts (.fieldLink RX7 21 "DebtDowry$State" "spouse" "[I") (by decide +kernel)
  refine lv_iconst (v := 0) hx hb dX7_unite_0 (by decide) ?_
  refine lv_istore_n (lv' := [(3, .int 0), (0, .ref s0), (1, .int (nI g)), (2, .int (nI m))]) hx hb dX7_unite_1 rfl hl (by decide) rfl (fun ls hl => ?_)
  refine wl_X (B := nc) (i0 := 0) (Inv := fun i1 H locs ls => va_P G.1 vwCl (sW G s0 s1 s2 s3 s4 b0 b1 b2 b3 t (wdU n g m i1)) H ∧ va_D A (sW G s0 s1 s2 s3 s4 b0 b1 b2 b3 t (wdU n g m i1)) ∧ va_S A zs.heap H locs ∧ lv_has ls 4 [(0, .ref s0), (1, .int (nI g)), (2, .int (nI m)), (3, .int (nI i1))] ∧ True) (by omega) ⟨hP, hD, hS, lv_sub hl [1, 2, 3, 0] (rfl), trivial⟩ ?_
  rintro i1 H locs ls hle2 ⟨hP, hD, hS, hl, -⟩ ih2
  refine lv_iload_n hx hb dX7_unite_2 rfl (lv_at hl 3 rfl) ?_
  refine lv_aload_n hx hb dX7_unite_3 rfl (lv_at hl 0 rfl) ?_
  refine va_get (D := G.1) (ci := 7) (v := .ref b0) (C := RX7) (T := TX7) (N := 7) hx hb hts k1 hown hK hP 0 rfl rfl 0 (by decide) k0 (fun _ h9 => h9) rfl dX7_unite_4 ?_
  refine va_get (D := G.1) (ci := 8) (v := .int (t 3)) (C := RX8) (T := TX8) (N := 9) hx hb hts k3 hown hK hP 5 rfl rfl 3 (by decide) k2 (fun _ h9 => h9) rfl dX7_unite_7 ?_
  refine n_icmp_ge (tgt := 45) hx hb dX7_unite_10 (by decide) (u := i1) (v := nc) rfl hT.1 (by omega) (by omega) (fun cq1 => ?_) (fun cq1 => ?_)
  · skip
    obtain rfl : nc = i1 := by omega
    refine lv_aload_n hx hb dX7_unite_45 rfl (lv_at hl 0 rfl) ?_
    refine va_get (D := G.1) (ci := 7) (v := .ref s3) (C := RX7) (T := TX7) (N := 7) hx hb hts k1 hown hK hP 0 rfl rfl 3 (by decide) k4 (fun _ h9 => h9) rfl dX7_unite_46 ?_
    refine lv_iload_n hx hb dX7_unite_49 rfl (lv_at hl 1 rfl) ?_
    refine lv_dup2_11 hx hb dX7_unite_50 rfl rfl ?_
    refine n_iald hx hb hK hP 3 0 rfl rfl (j := g) rfl (by omega) (by decide) dX7_unite_51 ?_
    refine lv_aload_n hx hb dX7_unite_52 rfl (lv_at hl 0 rfl) ?_
    refine va_get (D := G.1) (ci := 7) (v := .ref s3) (C := RX7) (T := TX7) (N := 7) hx hb hts k1 hown hK hP 0 rfl rfl 3 (by decide) k4 (fun _ h9 => h9) rfl dX7_unite_53 ?_
    refine lv_iload_n hx hb dX7_unite_56 rfl (lv_at hl 2 rfl) ?_
    refine n_iald hx hb hK hP 3 0 rfl rfl (j := m) rfl (by omega) (by decide) dX7_unite_57 ?_
    refine lv_ior hx hb dX7_unite_58 ?_
    refine n_iastQ hx hb hK hP hD hS 3 0 rfl rfl (x := (((wdU n g m nc) (36 + g)) ||| ((wdU n g m nc) (36 + m)))) (j := g) rfl (by omega) (by decide) dX7_unite_59 (wsn := sW G s0 s1 s2 s3 s4 b0 b1 b2 b3 t (upd (wdU n g m nc) (36 + g) (((wdU n g m nc) (36 + g)) ||| ((wdU n g m nc) (36 + m))))) (sW_r3 (by omega)) (fun H locs hP hD hS => ?_)
    refine lv_aload_n hx hb dX7_unite_60 rfl (lv_at hl 0 rfl) ?_
    refine va_get (D := G.1) (ci := 7) (v := .ref s3) (C := RX7) (T := TX7) (N := 7) hx hb hts k1 hown hK hP 0 rfl rfl 3 (by decide) k4 (fun _ h9 => h9) rfl dX7_unite_61 ?_
    refine lv_iload_n hx hb dX7_unite_64 rfl (lv_at hl 2 rfl) ?_
    refine lv_iconst (v := 0) hx hb dX7_unite_65 (by decide) ?_
    refine n_iastQ hx hb hK hP hD hS 3 0 rfl rfl (x := 0) (j := m) rfl (by omega) (by decide) dX7_unite_66 (wsn := sW G s0 s1 s2 s3 s4 b0 b1 b2 b3 t (upd (upd (wdU n g m nc) (36 + g) (((wdU n g m nc) (36 + g)) ||| ((wdU n g m nc) (36 + m)))) (36 + m) 0)) (sW_r3 (by omega)) (fun H locs hP hD hS => ?_)
    refine lv_aload_n hx hb dX7_unite_67 rfl (lv_at hl 0 rfl) ?_
    refine va_get (D := G.1) (ci := 7) (v := .ref s4) (C := RX7) (T := TX7) (N := 7) hx hb hts k1 hown hK hP 0 rfl rfl 4 (by decide) k5 (fun _ h9 => h9) rfl dX7_unite_68 ?_
    refine lv_iload_n hx hb dX7_unite_71 rfl (lv_at hl 1 rfl) ?_
    refine lv_iload_n hx hb dX7_unite_72 rfl (lv_at hl 2 rfl) ?_
    refine n_iastQ hx hb hK hP hD hS 4 0 rfl rfl (x := (nI m)) (j := g) rfl (by omega) (by decide) dX7_unite_73 (wsn := sW G s0 s1 s2 s3 s4 b0 b1 b2 b3 t (upd (upd (upd (wdU n g m nc) (36 + g) (((wdU n g m nc) (36 + g)) ||| ((wdU n g m nc) (36 + m)))) (36 + m) 0) (44 + g) (nI m))) (sW_r4 (by omega)) (fun H locs hP hD hS => ?_)
    refine lv_aload_n hx hb dX7_unite_74 rfl (lv_at hl 0 rfl) ?_
    refine va_get (D := G.1) (ci := 7) (v := .ref s4) (C := RX7) (T := TX7) (N := 7) hx hb hts k1 hown hK hP 0 rfl rfl 4 (by decide) k5 (fun _ h9 => h9) rfl dX7_unite_75 ?_
    refine lv_iload_n hx hb dX7_unite_78 rfl (lv_at hl 2 rfl) ?_
    refine lv_iload_n hx hb dX7_unite_79 rfl (lv_at hl 1 rfl) ?_
    refine n_iastQ hx hb hK hP hD hS 4 0 rfl rfl (x := (nI g)) (j := m) rfl (by omega) (by decide) dX7_unite_80 (wsn := sW G s0 s1 s2 s3 s4 b0 b1 b2 b3 t (upd (upd (upd (upd (wdU n g m nc) (36 + g) (((wdU n g m nc) (36 + g)) ||| ((wdU n g m nc) (36 + m)))) (36 + m) 0) (44 + g) (nI m)) (44 + m) (nI g))) (sW_r4 (by omega)) (fun H locs hP hD hS => ?_)
    have hP : va_P G.1 vwCl (sW G s0 s1 s2 s3 s4 b0 b1 b2 b3 t (wedF n g m)) H := by rw [show (wedF n g m) = (upd (upd (upd (upd (wdU n g m nc) (36 + g) (((wdU n g m nc) (36 + g)) ||| ((wdU n g m nc) (36 + m)))) (36 + m) 0) (44 + g) (nI m)) (44 + m) (nI g)) from by unfold wedF wd1; rw [wdU_4 hO hT2.1 hg hm]]; exact hP
    exact mX_vret hAe C hP hS dX7_unite_81
  · skip
    refine lv_aload_n hx hb dX7_unite_13 rfl (lv_at hl 0 rfl) ?_
    refine lv_iload_n hx hb dX7_unite_14 rfl (lv_at hl 1 rfl) ?_
    refine lv_iload_n hx hb dX7_unite_15 rfl (lv_at hl 3 rfl) ?_
    refine lv_aload_n hx hb dX7_unite_16 rfl (lv_at hl 0 rfl) ?_
    refine lv_iload_n hx hb dX7_unite_17 rfl (lv_at hl 1 rfl) ?_
    refine lv_iload_n hx hb dX7_unite_18 rfl (lv_at hl 3 rfl) ?_
    refine cR_V (Cn := RX7) (n := 2) (As := [.int (nI g), .int (nI i1)]) (rest := [.int (nI i1), .int (nI g), .ref s0]) C (c_X7_owedTo l G s0 s1 s2 s3 s4 b0 b1 b2 b3 t (wdU n g m i1)  g i1 (by omega) (by omega)) gX7_unite_X7_owedTo rfl ⟨rfl, rfl⟩ hd_X7_owedTo ⟨(Nat.le_of_ble_eq_true rfl), (Nat.le_of_ble_eq_true rfl)⟩ hK hP (va_recv hK hP (ci := 7) (q0 := 0) rfl rfl) rfl hl.1 rfl (Nat.le_of_ble_eq_true rfl) dX7_unite_19 ⟨(Nat.le_of_ble_eq_true rfl), (Nat.le_of_ble_eq_true rfl)⟩ ?_
    refine lv_aload_n hx hb dX7_unite_22 rfl (lv_at hl 0 rfl) ?_
    refine lv_iload_n hx hb dX7_unite_23 rfl (lv_at hl 2 rfl) ?_
    refine lv_iload_n hx hb dX7_unite_24 rfl (lv_at hl 3 rfl) ?_
    refine cR_V (Cn := RX7) (n := 2) (As := [.int (nI m), .int (nI i1)]) (rest := [.int ((wdU n g m i1) (4 * g + i1)), .int (nI i1), .int (nI g), .ref s0]) C (c_X7_owedTo l G s0 s1 s2 s3 s4 b0 b1 b2 b3 t (wdU n g m i1)  m i1 (by omega) (by omega)) gX7_unite_X7_owedTo rfl ⟨rfl, rfl⟩ hd_X7_owedTo ⟨(Nat.le_of_ble_eq_true rfl), (Nat.le_of_ble_eq_true rfl)⟩ hK hP (va_recv hK hP (ci := 7) (q0 := 0) rfl rfl) rfl hl.1 rfl (Nat.le_of_ble_eq_true rfl) dX7_unite_25 ⟨(Nat.le_of_ble_eq_true rfl), (Nat.le_of_ble_eq_true rfl)⟩ ?_
    refine lv_iadd hx hb dX7_unite_28 ?_
    refine cX_V (Cn := RX7) (n := 3) (As := [.int (nI g), .int (nI i1), .int (((wdU n g m i1) (4 * g + i1)) + ((wdU n g m i1) (4 * m + i1)))]) (rest := []) (wsn := sW G s0 s1 s2 s3 s4 b0 b1 b2 b3 t (upd (wdU n g m i1) (4 * g + i1) (lessI (((wdU n g m i1) (4 * g + i1)) + ((wdU n g m i1) (4 * m + i1))) 9999))) C (c_X7_setOwed l G s0 s1 s2 s3 s4 b0 b1 b2 b3 t (wdU n g m i1)  g i1 (((wdU n g m i1) (4 * g + i1)) + ((wdU n g m i1) (4 * m + i1))) (by omega) (by omega)) gX7_unite_X7_setOwed rfl ⟨rfl, rfl⟩ hd_X7_setOwed ⟨(Nat.le_of_ble_eq_true rfl), (Nat.le_of_ble_eq_true rfl)⟩ hK hP hD hS [0, 1, 2, 3, 4, 5, 6, 7, 8] (by decide) rfl (sW_f.trans sW_f.symm) rfl (sW_f.trans sW_f.symm) (va_recv hK hP (ci := 7) (q0 := 0) rfl rfl) rfl hl.1 rfl (Nat.le_of_ble_eq_true rfl) dX7_unite_29 ⟨(Nat.le_of_ble_eq_true rfl), (Nat.le_of_ble_eq_true rfl)⟩ (fun H locs hP hD hS => ?_)
    refine lv_aload_n hx hb dX7_unite_32 rfl (lv_at hl 0 rfl) ?_
    refine lv_iload_n hx hb dX7_unite_33 rfl (lv_at hl 2 rfl) ?_
    refine lv_iload_n hx hb dX7_unite_34 rfl (lv_at hl 3 rfl) ?_
    refine lv_iconst (v := 0) hx hb dX7_unite_35 (by decide) ?_
    refine cX_V (Cn := RX7) (n := 3) (As := [.int (nI m), .int (nI i1), .int 0]) (rest := []) (wsn := sW G s0 s1 s2 s3 s4 b0 b1 b2 b3 t (upd (upd (wdU n g m i1) (4 * g + i1) (lessI (((wdU n g m i1) (4 * g + i1)) + ((wdU n g m i1) (4 * m + i1))) 9999)) (4 * m + i1) (lessI 0 9999))) C (c_X7_setOwed l G s0 s1 s2 s3 s4 b0 b1 b2 b3 t (upd (wdU n g m i1) (4 * g + i1) (lessI (((wdU n g m i1) (4 * g + i1)) + ((wdU n g m i1) (4 * m + i1))) 9999))  m i1 0 (by omega) (by omega)) gX7_unite_X7_setOwed rfl ⟨rfl, rfl⟩ hd_X7_setOwed ⟨(Nat.le_of_ble_eq_true rfl), (Nat.le_of_ble_eq_true rfl)⟩ hK hP hD hS [0, 1, 2, 3, 4, 5, 6, 7, 8] (by decide) rfl (sW_f.trans sW_f.symm) rfl (sW_f.trans sW_f.symm) (va_recv hK hP (ci := 7) (q0 := 0) rfl rfl) rfl hl.1 rfl (Nat.le_of_ble_eq_true rfl) dX7_unite_36 ⟨(Nat.le_of_ble_eq_true rfl), (Nat.le_of_ble_eq_true rfl)⟩ (fun H locs hP hD hS => ?_)
    refine lv_iinc (v := nI (i1 + 1)) (lv' := [(3, .int (nI (i1 + 1))), (0, .ref s0), (1, .int (nI g)), (2, .int (nI m))]) hx hb dX7_unite_39 hl (k := 3) rfl (by rw [show (nI i1 : Int32) = nI i1 from rfl]; exact nI_add _ 1) (by decide) rfl (fun ls hl => ?_)
    refine lv_goto (tgt := 2) hx hb dX7_unite_42 (by decide) ?_
    have e2 : upd (upd (wdU n g m i1) (4 * g + i1) (lessI (((wdU n g m i1) (4 * g + i1)) + ((wdU n g m i1) (4 * m + i1))) 9999)) (4 * m + i1) (lessI 0 9999) = wdU n g m (i1 + 1) := by rw [less0]; rfl
    rw [e2] at hP hD
    exact ih2 _ _ _ (by omega) ⟨hP, hD, hS, lv_sub hl [1, 2, 3, 0] (rfl), trivial⟩
theorem hd_X7_part : yX7_part.cls = RX7 ∧ yX7_part.cls ≠ "java/lang/invoke/MethodHandle" ∧ yX7_part.cls ≠ "java/lang/invoke/VarHandle" ∧ (parseMethodDescriptor yX7_part.desc).map (fun d => d.parameters.length) = some 2 := by decide +kernel
set_option maxRecDepth 100000 in
set_option maxHeartbeats 4000000 in
theorem c_X7_part (l : Launch) (G : gG) (s0 : Nat) (s1 : Nat) (s2 : Nat) (s3 : Nat) (s4 : Nat) (b0 : Nat) (b1 : Nat) (b2 : Nat) (b3 : Nat) (t : Nat → Int32) (n : Nat → Int32) (nc : Nat) (np : Nat) (g : Nat) (m : Nat) (hT : tw t nc np) (hO : okS t n nc np) (hg : g < 8) (hm : m < 8) (hne : g ≠ m) : mX l yX7_part wsX7_part ({ frames := 2, cells := 0, slots := 0, locals := 44 }) G (sW G s0 s1 s2 s3 s4 b0 b1 b2 b3 t n) (sW G s0 s1 s2 s3 s4 b0 b1 b2 b3 t (divF n g m)) [.ref s0, .int (nI g), .int (nI m)] (.returned none) := by
  refine mX.of (cc := cX7_part) (maxL := 5) (ret := none) (by decide) rfl (Nat.le_of_ble_eq_true rfl) ?_
  intro zp ze zs zm zb zt zc ls A hAe C hP hK hD hS hl
  obtain ⟨hx, hb, hr, hml, hown, hts, hlk⟩ := id C
  have hl : lv_has ls 5 [(0, .ref s0), (1, .int (nI g)), (2, .int (nI m))] := hl
  have hT2 := hT.2.2
  have k0 := hts (.fieldLink RX7 24 "DebtDowry$State" "terms" "LDebtDowry$Terms;") (by decide +kernel)
  have k1 := (fun w h => by revert w; decide +kernel : ∀ w ∈ wsX70, w ∈ wsX7_part)
  have k2 := hts (.fieldLink RX7 47 "DebtDowry$Terms" "creditors" "I") (by decide +kernel)
  have k3 := (fun w h => by revert w; decide +kernel : ∀ w ∈ wsX80, w ∈ wsX7_part)
  have k4 := hts (.fieldLink RX7 18 "DebtDowry$State" "insults" "[I") (by decide +kernel)
  have k5 := hts (.fieldLink RX7 21 "DebtDowry$State" "spouse" "[I") (by decide +kernel)
  refine lv_iconst (v := 0) hx hb dX7_part_0 (by decide) ?_
  refine lv_istore_n (lv' := [(3, .int 0), (0, .ref s0), (1, .int (nI g)), (2, .int (nI m))]) hx hb dX7_part_1 rfl hl (by decide) rfl (fun ls hl => ?_)
  refine wl_X (B := nc) (i0 := 0) (Inv := fun i1 H locs ls => va_P G.1 vwCl (sW G s0 s1 s2 s3 s4 b0 b1 b2 b3 t (dvU n g m i1)) H ∧ va_D A (sW G s0 s1 s2 s3 s4 b0 b1 b2 b3 t (dvU n g m i1)) ∧ va_S A zs.heap H locs ∧ lv_has ls 5 [(0, .ref s0), (1, .int (nI g)), (2, .int (nI m)), (3, .int (nI i1))] ∧ True) (by omega) ⟨hP, hD, hS, lv_sub hl [1, 2, 3, 0] (rfl), trivial⟩ ?_
  rintro i1 H locs ls hle2 ⟨hP, hD, hS, hl, -⟩ ih2
  refine lv_iload_n hx hb dX7_part_2 rfl (lv_at hl 3 rfl) ?_
  refine lv_aload_n hx hb dX7_part_3 rfl (lv_at hl 0 rfl) ?_
  refine va_get (D := G.1) (ci := 7) (v := .ref b0) (C := RX7) (T := TX7) (N := 7) hx hb hts k1 hown hK hP 0 rfl rfl 0 (by decide) k0 (fun _ h9 => h9) rfl dX7_part_4 ?_
  refine va_get (D := G.1) (ci := 8) (v := .int (t 3)) (C := RX8) (T := TX8) (N := 9) hx hb hts k3 hown hK hP 5 rfl rfl 3 (by decide) k2 (fun _ h9 => h9) rfl dX7_part_7 ?_
  refine n_icmp_ge (tgt := 52) hx hb dX7_part_10 (by decide) (u := i1) (v := nc) rfl hT.1 (by omega) (by omega) (fun cq1 => ?_) (fun cq1 => ?_)
  · skip
    obtain rfl : nc = i1 := by omega
    refine lv_aload_n hx hb dX7_part_52 rfl (lv_at hl 0 rfl) ?_
    refine va_get (D := G.1) (ci := 7) (v := .ref s3) (C := RX7) (T := TX7) (N := 7) hx hb hts k1 hown hK hP 0 rfl rfl 3 (by decide) k4 (fun _ h9 => h9) rfl dX7_part_53 ?_
    refine lv_iload_n hx hb dX7_part_56 rfl (lv_at hl 2 rfl) ?_
    refine lv_aload_n hx hb dX7_part_57 rfl (lv_at hl 0 rfl) ?_
    refine va_get (D := G.1) (ci := 7) (v := .ref s3) (C := RX7) (T := TX7) (N := 7) hx hb hts k1 hown hK hP 0 rfl rfl 3 (by decide) k4 (fun _ h9 => h9) rfl dX7_part_58 ?_
    refine lv_iload_n hx hb dX7_part_61 rfl (lv_at hl 1 rfl) ?_
    refine n_iald hx hb hK hP 3 0 rfl rfl (j := g) rfl (by omega) (by decide) dX7_part_62 ?_
    refine n_iastQ hx hb hK hP hD hS 3 0 rfl rfl (x := ((dvU n g m nc) (36 + g))) (j := m) rfl (by omega) (by decide) dX7_part_63 (wsn := sW G s0 s1 s2 s3 s4 b0 b1 b2 b3 t (upd (dvU n g m nc) (36 + m) ((dvU n g m nc) (36 + g)))) (sW_r3 (by omega)) (fun H locs hP hD hS => ?_)
    refine lv_aload_n hx hb dX7_part_64 rfl (lv_at hl 0 rfl) ?_
    refine va_get (D := G.1) (ci := 7) (v := .ref s4) (C := RX7) (T := TX7) (N := 7) hx hb hts k1 hown hK hP 0 rfl rfl 4 (by decide) k5 (fun _ h9 => h9) rfl dX7_part_65 ?_
    refine lv_iload_n hx hb dX7_part_68 rfl (lv_at hl 1 rfl) ?_
    refine lv_iconst (v := (-1)) hx hb dX7_part_69 (by decide) ?_
    refine n_iastQ hx hb hK hP hD hS 4 0 rfl rfl (x := (-1)) (j := g) rfl (by omega) (by decide) dX7_part_70 (wsn := sW G s0 s1 s2 s3 s4 b0 b1 b2 b3 t (upd (upd (dvU n g m nc) (36 + m) ((dvU n g m nc) (36 + g))) (44 + g) (-1))) (sW_r4 (by omega)) (fun H locs hP hD hS => ?_)
    refine lv_aload_n hx hb dX7_part_71 rfl (lv_at hl 0 rfl) ?_
    refine va_get (D := G.1) (ci := 7) (v := .ref s4) (C := RX7) (T := TX7) (N := 7) hx hb hts k1 hown hK hP 0 rfl rfl 4 (by decide) k5 (fun _ h9 => h9) rfl dX7_part_72 ?_
    refine lv_iload_n hx hb dX7_part_75 rfl (lv_at hl 2 rfl) ?_
    refine lv_iconst (v := (-1)) hx hb dX7_part_76 (by decide) ?_
    refine n_iastQ hx hb hK hP hD hS 4 0 rfl rfl (x := (-1)) (j := m) rfl (by omega) (by decide) dX7_part_77 (wsn := sW G s0 s1 s2 s3 s4 b0 b1 b2 b3 t (upd (upd (upd (dvU n g m nc) (36 + m) ((dvU n g m nc) (36 + g))) (44 + g) (-1)) (44 + m) (-1))) (sW_r4 (by omega)) (fun H locs hP hD hS => ?_)
    have hP : va_P G.1 vwCl (sW G s0 s1 s2 s3 s4 b0 b1 b2 b3 t (divF n g m)) H := by rw [show (divF n g m) = (upd (upd (upd (dvU n g m nc) (36 + m) ((dvU n g m nc) (36 + g))) (44 + g) (-1)) (44 + m) (-1)) from by unfold divF dv1; rw [dvU_4 hO hT2.1 hg hm]]; exact hP
    exact mX_vret hAe C hP hS dX7_part_78
  · skip
    refine lv_aload_n hx hb dX7_part_13 rfl (lv_at hl 0 rfl) ?_
    refine lv_iload_n hx hb dX7_part_14 rfl (lv_at hl 1 rfl) ?_
    refine lv_iload_n hx hb dX7_part_15 rfl (lv_at hl 3 rfl) ?_
    refine cR_V (Cn := RX7) (n := 2) (As := [.int (nI g), .int (nI i1)]) (rest := []) C (c_X7_owedTo l G s0 s1 s2 s3 s4 b0 b1 b2 b3 t (dvU n g m i1)  g i1 (by omega) (by omega)) gX7_part_X7_owedTo rfl ⟨rfl, rfl⟩ hd_X7_owedTo ⟨(Nat.le_of_ble_eq_true rfl), (Nat.le_of_ble_eq_true rfl)⟩ hK hP (va_recv hK hP (ci := 7) (q0 := 0) rfl rfl) rfl hl.1 rfl (Nat.le_of_ble_eq_true rfl) dX7_part_16 ⟨(Nat.le_of_ble_eq_true rfl), (Nat.le_of_ble_eq_true rfl)⟩ ?_
    refine lv_iconst (v := 2) hx hb dX7_part_19 (by decide) ?_
    refine lv_idiv hx hb dX7_part_20 (by decide) ?_
    refine lv_istore (lv' := [(4, .int (((dvU n g m i1) (4 * g + i1)) / 2)), (0, .ref s0), (1, .int (nI g)), (2, .int (nI m)), (3, .int (nI i1))]) hx hb dX7_part_21 hl (by decide) rfl (fun ls hl => ?_)
    refine lv_aload_n hx hb dX7_part_23 rfl (lv_at hl 1 rfl) ?_
    refine lv_iload_n hx hb dX7_part_24 rfl (lv_at hl 3 rfl) ?_
    refine lv_iload_n hx hb dX7_part_25 rfl (lv_at hl 4 rfl) ?_
    refine lv_iload hx hb dX7_part_26 (lv_at hl 0 rfl) ?_
    refine cX_V (Cn := RX7) (n := 3) (As := [.int (nI m), .int (nI i1), .int (((dvU n g m i1) (4 * g + i1)) / 2)]) (rest := []) (wsn := sW G s0 s1 s2 s3 s4 b0 b1 b2 b3 t (upd (dvU n g m i1) (4 * m + i1) (lessI (((dvU n g m i1) (4 * g + i1)) / 2) 9999))) C (c_X7_setOwed l G s0 s1 s2 s3 s4 b0 b1 b2 b3 t (dvU n g m i1)  m i1 (((dvU n g m i1) (4 * g + i1)) / 2) (by omega) (by omega)) gX7_part_X7_setOwed rfl ⟨rfl, rfl⟩ hd_X7_setOwed ⟨(Nat.le_of_ble_eq_true rfl), (Nat.le_of_ble_eq_true rfl)⟩ hK hP hD hS [0, 1, 2, 3, 4, 5, 6, 7, 8] (by decide) rfl (sW_f.trans sW_f.symm) rfl (sW_f.trans sW_f.symm) (va_recv hK hP (ci := 7) (q0 := 0) rfl rfl) rfl hl.1 rfl (Nat.le_of_ble_eq_true rfl) dX7_part_28 ⟨(Nat.le_of_ble_eq_true rfl), (Nat.le_of_ble_eq_true rfl)⟩ (fun H locs hP hD hS => ?_)
    refine lv_aload_n hx hb dX7_part_31 rfl (lv_at hl 1 rfl) ?_
    refine lv_iload_n hx hb dX7_part_32 rfl (lv_at hl 2 rfl) ?_
    refine lv_iload_n hx hb dX7_part_33 rfl (lv_at hl 4 rfl) ?_
    refine lv_aload_n hx hb dX7_part_34 rfl (lv_at hl 1 rfl) ?_
    refine lv_iload_n hx hb dX7_part_35 rfl (lv_at hl 2 rfl) ?_
    refine lv_iload_n hx hb dX7_part_36 rfl (lv_at hl 4 rfl) ?_
    refine cR_V (Cn := RX7) (n := 2) (As := [.int (nI g), .int (nI i1)]) (rest := [.int (nI i1), .int (nI g), .ref s0]) C (c_X7_owedTo l G s0 s1 s2 s3 s4 b0 b1 b2 b3 t (upd (dvU n g m i1) (4 * m + i1) (lessI (((dvU n g m i1) (4 * g + i1)) / 2) 9999))  g i1 (by omega) (by omega)) gX7_part_X7_owedTo rfl ⟨rfl, rfl⟩ hd_X7_owedTo ⟨(Nat.le_of_ble_eq_true rfl), (Nat.le_of_ble_eq_true rfl)⟩ hK hP (va_recv hK hP (ci := 7) (q0 := 0) rfl rfl) rfl hl.1 rfl (Nat.le_of_ble_eq_true rfl) dX7_part_37 ⟨(Nat.le_of_ble_eq_true rfl), (Nat.le_of_ble_eq_true rfl)⟩ ?_
    refine lv_iload hx hb dX7_part_40 (lv_at hl 0 rfl) ?_
    refine lv_isub hx hb dX7_part_42 ?_
    refine cX_V (Cn := RX7) (n := 3) (As := [.int (nI g), .int (nI i1), .int (((upd (dvU n g m i1) (4 * m + i1) (lessI (((dvU n g m i1) (4 * g + i1)) / 2) 9999)) (4 * g + i1)) - (((dvU n g m i1) (4 * g + i1)) / 2))]) (rest := []) (wsn := sW G s0 s1 s2 s3 s4 b0 b1 b2 b3 t (upd (upd (dvU n g m i1) (4 * m + i1) (lessI (((dvU n g m i1) (4 * g + i1)) / 2) 9999)) (4 * g + i1) (lessI (((upd (dvU n g m i1) (4 * m + i1) (lessI (((dvU n g m i1) (4 * g + i1)) / 2) 9999)) (4 * g + i1)) - (((dvU n g m i1) (4 * g + i1)) / 2)) 9999))) C (c_X7_setOwed l G s0 s1 s2 s3 s4 b0 b1 b2 b3 t (upd (dvU n g m i1) (4 * m + i1) (lessI (((dvU n g m i1) (4 * g + i1)) / 2) 9999))  g i1 (((upd (dvU n g m i1) (4 * m + i1) (lessI (((dvU n g m i1) (4 * g + i1)) / 2) 9999)) (4 * g + i1)) - (((dvU n g m i1) (4 * g + i1)) / 2)) (by omega) (by omega)) gX7_part_X7_setOwed rfl ⟨rfl, rfl⟩ hd_X7_setOwed ⟨(Nat.le_of_ble_eq_true rfl), (Nat.le_of_ble_eq_true rfl)⟩ hK hP hD hS [0, 1, 2, 3, 4, 5, 6, 7, 8] (by decide) rfl (sW_f.trans sW_f.symm) rfl (sW_f.trans sW_f.symm) (va_recv hK hP (ci := 7) (q0 := 0) rfl rfl) rfl hl.1 rfl (Nat.le_of_ble_eq_true rfl) dX7_part_43 ⟨(Nat.le_of_ble_eq_true rfl), (Nat.le_of_ble_eq_true rfl)⟩ (fun H locs hP hD hS => ?_)
    refine lv_iinc (v := nI (i1 + 1)) (lv' := [(3, .int (nI (i1 + 1))), (4, .int (((dvU n g m i1) (4 * g + i1)) / 2)), (0, .ref s0), (1, .int (nI g)), (2, .int (nI m))]) hx hb dX7_part_46 hl (k := 4) rfl (by rw [show (nI i1 : Int32) = nI i1 from rfl]; exact nI_add _ 1) (by decide) rfl (fun ls hl => ?_)
    refine lv_goto (tgt := 2) hx hb dX7_part_49 (by decide) ?_
    have e2 : upd (upd (dvU n g m i1) (4 * m + i1) (lessI (((dvU n g m i1) (4 * g + i1)) / 2) 9999)) (4 * g + i1) (lessI (((upd (dvU n g m i1) (4 * m + i1) (lessI (((dvU n g m i1) (4 * g + i1)) / 2) 9999)) (4 * g + i1)) - (((dvU n g m i1) (4 * g + i1)) / 2)) 9999) = dvU n g m (i1 + 1) := dvU_s hO hg hm hne (by omega)
    rw [e2] at hP hD
    exact ih2 _ _ _ (by omega) ⟨hP, hD, hS, lv_sub hl [2, 3, 4, 0] (rfl), trivial⟩
theorem hd_X7_owedSourly : yX7_owedSourly.cls = RX7 ∧ yX7_owedSourly.cls ≠ "java/lang/invoke/MethodHandle" ∧ yX7_owedSourly.cls ≠ "java/lang/invoke/VarHandle" ∧ (parseMethodDescriptor yX7_owedSourly.desc).map (fun d => d.parameters.length) = some 1 := by decide +kernel
set_option maxRecDepth 100000 in
set_option maxHeartbeats 4000000 in
theorem c_X7_owedSourly (l : Launch) (G : gG) (s0 : Nat) (s1 : Nat) (s2 : Nat) (s3 : Nat) (s4 : Nat) (b0 : Nat) (b1 : Nat) (b2 : Nat) (b3 : Nat) (t : Nat → Int32) (n : Nat → Int32) (nc : Nat) (np : Nat) (c : Nat) (hT : tw t nc np) (hc : c < 4) : mR l yX7_owedSourly wsX7_owedSourly ({ frames := 3, cells := 0, slots := 0, locals := 66 }) G (sW G s0 s1 s2 s3 s4 b0 b1 b2 b3 t n) [.ref s0, .int (nI c)] (sourU t n c np) := by
  refine mR.of (cc := cX7_owedSourly) (maxL := 4) (ret := (some .int)) (by decide) rfl (Nat.le_of_ble_eq_true rfl) ?_
  intro zp ze zs zm zb zt zc ls C hP hK hl
  obtain ⟨hx, hb, hr, hml, hown, hts, hlk⟩ := id C
  have hl : lv_has ls 4 [(0, .ref s0), (1, .int (nI c))] := hl
  have hT2 := hT.2.2
  have k0 := hts (.fieldLink RX7 24 "DebtDowry$State" "terms" "LDebtDowry$Terms;") (by decide +kernel)
  have k1 := (fun w h => by revert w; decide +kernel : ∀ w ∈ wsX70, w ∈ wsX7_owedSourly)
  have k2 := hts (.fieldLink RX7 55 "DebtDowry$Terms" "persons" "I") (by decide +kernel)
  have k3 := (fun w h => by revert w; decide +kernel : ∀ w ∈ wsX80, w ∈ wsX7_owedSourly)
  refine lv_iconst (v := 0) hx hb dX7_owedSourly_0 (by decide) ?_
  refine lv_istore_n (lv' := [(2, .int 0), (0, .ref s0), (1, .int (nI c))]) hx hb dX7_owedSourly_1 rfl hl (by decide) rfl (fun ls hl => ?_)
  refine lv_iconst (v := 0) hx hb dX7_owedSourly_2 (by decide) ?_
  refine lv_istore_n (lv' := [(3, .int 0), (2, .int 0), (0, .ref s0), (1, .int (nI c))]) hx hb dX7_owedSourly_3 rfl hl (by decide) rfl (fun ls hl => ?_)
  refine wl_R (B := np) (i0 := 0) (Inv := fun i1 ls => lv_has ls 4 [(0, .ref s0), (1, .int (nI c)), (2, .int (sourU t n c i1)), (3, .int (nI i1))] ∧ True) (by omega) ⟨lv_sub hl [2, 3, 1, 0] (rfl), trivial⟩ ?_
  rintro i1 ls hle4 ⟨hl, -⟩ ih4
  refine lv_iload_n hx hb dX7_owedSourly_4 rfl (lv_at hl 3 rfl) ?_
  refine lv_aload_n hx hb dX7_owedSourly_5 rfl (lv_at hl 0 rfl) ?_
  refine va_get (D := G.1) (ci := 7) (v := .ref b0) (C := RX7) (T := TX7) (N := 7) hx hb hts k1 hown hK hP 0 rfl rfl 0 (by decide) k0 (fun _ h9 => h9) rfl dX7_owedSourly_6 ?_
  refine va_get (D := G.1) (ci := 8) (v := .int (t 4)) (C := RX8) (T := TX8) (N := 9) hx hb hts k3 hown hK hP 5 rfl rfl 4 (by decide) k2 (fun _ h9 => h9) rfl dX7_owedSourly_9 ?_
  refine n_icmp_ge (tgt := 40) hx hb dX7_owedSourly_12 (by decide) (u := i1) (v := np) rfl hT.2.1 (by omega) (by omega) (fun cq1 => ?_) (fun cq1 => ?_)
  · skip
    obtain rfl : np = i1 := by omega
    refine lv_iload_n hx hb dX7_owedSourly_40 rfl (lv_at hl 2 rfl) ?_
    exact mR_iret C dX7_owedSourly_41 (rfl)
  · skip
    refine lv_aload_n hx hb dX7_owedSourly_15 rfl (lv_at hl 0 rfl) ?_
    refine lv_iload_n hx hb dX7_owedSourly_16 rfl (lv_at hl 3 rfl) ?_
    refine lv_iload_n hx hb dX7_owedSourly_17 rfl (lv_at hl 1 rfl) ?_
    refine cR_V (Cn := RX7) (n := 2) (As := [.int (nI i1), .int (nI c)]) (rest := []) C (c_X7_moodTo l G s0 s1 s2 s3 s4 b0 b1 b2 b3 t n  i1 c (by omega) (by omega)) gX7_owedSourly_X7_moodTo rfl ⟨rfl, rfl⟩ hd_X7_moodTo ⟨(Nat.le_of_ble_eq_true rfl), (Nat.le_of_ble_eq_true rfl)⟩ hK hP (va_recv hK hP (ci := 7) (q0 := 0) rfl rfl) rfl hl.1 rfl (Nat.le_of_ble_eq_true rfl) dX7_owedSourly_18 ⟨(Nat.le_of_ble_eq_true rfl), (Nat.le_of_ble_eq_true rfl)⟩ ?_
    refine lv_iconst (v := 2) hx hb dX7_owedSourly_21 (by decide) ?_
    refine lv_icmp_ne (tgt := 34) hx hb dX7_owedSourly_22 (by decide) (fun cq2 => ?_) (fun cq2 => ?_)
    · skip
      refine lv_iinc (v := nI (i1 + 1)) (lv' := [(3, .int (nI (i1 + 1))), (0, .ref s0), (1, .int (nI c)), (2, .int (sourU t n c i1))]) hx hb dX7_owedSourly_34 hl (k := 3) rfl (by rw [show (nI i1 : Int32) = nI i1 from rfl]; exact nI_add _ 1) (by decide) rfl (fun ls hl => ?_)
      refine lv_goto (tgt := 4) hx hb dX7_owedSourly_37 (by decide) ?_
      have e3 : sourU t n c i1 = sourU t n c (i1 + 1) := by show _ = sumU _ _ + ite _ _ _; simp [sourU, cq1, cq2]
      exact ih4 _ (by omega) ⟨lv_sub hl [1, 2, 3, 0] (by rw [← e3]; rfl), trivial⟩
    · skip
      refine lv_iload_n hx hb dX7_owedSourly_25 rfl (lv_at hl 2 rfl) ?_
      refine lv_aload_n hx hb dX7_owedSourly_26 rfl (lv_at hl 0 rfl) ?_
      refine lv_iload_n hx hb dX7_owedSourly_27 rfl (lv_at hl 3 rfl) ?_
      refine lv_iload_n hx hb dX7_owedSourly_28 rfl (lv_at hl 1 rfl) ?_
      refine cR_V (Cn := RX7) (n := 2) (As := [.int (nI i1), .int (nI c)]) (rest := [.int (sourU t n c i1)]) C (c_X7_owedTo l G s0 s1 s2 s3 s4 b0 b1 b2 b3 t n  i1 c (by omega) (by omega)) gX7_owedSourly_X7_owedTo rfl ⟨rfl, rfl⟩ hd_X7_owedTo ⟨(Nat.le_of_ble_eq_true rfl), (Nat.le_of_ble_eq_true rfl)⟩ hK hP (va_recv hK hP (ci := 7) (q0 := 0) rfl rfl) rfl hl.1 rfl (Nat.le_of_ble_eq_true rfl) dX7_owedSourly_29 ⟨(Nat.le_of_ble_eq_true rfl), (Nat.le_of_ble_eq_true rfl)⟩ ?_
      refine lv_iadd hx hb dX7_owedSourly_32 ?_
      refine lv_istore_n (lv' := [(2, .int ((sourU t n c i1) + (n (4 * i1 + c)))), (0, .ref s0), (1, .int (nI c)), (3, .int (nI i1))]) hx hb dX7_owedSourly_33 rfl hl (by decide) rfl (fun ls hl => ?_)
      refine lv_iinc (v := nI (i1 + 1)) (lv' := [(3, .int (nI (i1 + 1))), (2, .int ((sourU t n c i1) + (n (4 * i1 + c)))), (0, .ref s0), (1, .int (nI c))]) hx hb dX7_owedSourly_34 hl (k := 3) rfl (by rw [show (nI i1 : Int32) = nI i1 from rfl]; exact nI_add _ 1) (by decide) rfl (fun ls hl => ?_)
      refine lv_goto (tgt := 4) hx hb dX7_owedSourly_37 (by decide) ?_
      have e4 : (sourU t n c i1) + (n (4 * i1 + c)) = sourU t n c (i1 + 1) := by show _ = sumU _ _ + ite _ _ _; simp [sourU, cq1, cq2]
      exact ih4 _ (by omega) ⟨lv_sub hl [2, 3, 1, 0] (by rw [← e4]; rfl), trivial⟩
theorem hd_X7_forgive : yX7_forgive.cls = RX7 ∧ yX7_forgive.cls ≠ "java/lang/invoke/MethodHandle" ∧ yX7_forgive.cls ≠ "java/lang/invoke/VarHandle" ∧ (parseMethodDescriptor yX7_forgive.desc).map (fun d => d.parameters.length) = some 1 := by decide +kernel
set_option maxRecDepth 100000 in
set_option maxHeartbeats 4000000 in
theorem c_X7_forgive (l : Launch) (G : gG) (s0 : Nat) (s1 : Nat) (s2 : Nat) (s3 : Nat) (s4 : Nat) (b0 : Nat) (b1 : Nat) (b2 : Nat) (b3 : Nat) (t : Nat → Int32) (n : Nat → Int32) (nc : Nat) (np : Nat) (c : Nat) (hT : tw t nc np) (hc : c < 4) : mX l yX7_forgive wsX7_forgive ({ frames := 2, cells := 0, slots := 0, locals := 44 }) G (sW G s0 s1 s2 s3 s4 b0 b1 b2 b3 t n) (sW G s0 s1 s2 s3 s4 b0 b1 b2 b3 t (fgF n c np)) [.ref s0, .int (nI c)] (.returned none) := by
  refine mX.of (cc := cX7_forgive) (maxL := 3) (ret := none) (by decide) rfl (Nat.le_of_ble_eq_true rfl) ?_
  intro zp ze zs zm zb zt zc ls A hAe C hP hK hD hS hl
  obtain ⟨hx, hb, hr, hml, hown, hts, hlk⟩ := id C
  have hl : lv_has ls 3 [(0, .ref s0), (1, .int (nI c))] := hl
  have hT2 := hT.2.2
  have k0 := hts (.fieldLink RX7 24 "DebtDowry$State" "terms" "LDebtDowry$Terms;") (by decide +kernel)
  have k1 := (fun w h => by revert w; decide +kernel : ∀ w ∈ wsX70, w ∈ wsX7_forgive)
  have k2 := hts (.fieldLink RX7 55 "DebtDowry$Terms" "persons" "I") (by decide +kernel)
  have k3 := (fun w h => by revert w; decide +kernel : ∀ w ∈ wsX80, w ∈ wsX7_forgive)
  refine lv_iconst (v := 0) hx hb dX7_forgive_0 (by decide) ?_
  refine lv_istore_n (lv' := [(2, .int 0), (0, .ref s0), (1, .int (nI c))]) hx hb dX7_forgive_1 rfl hl (by decide) rfl (fun ls hl => ?_)
  refine wl_X (B := np) (i0 := 0) (Inv := fun i1 H locs ls => va_P G.1 vwCl (sW G s0 s1 s2 s3 s4 b0 b1 b2 b3 t (fgF n c i1)) H ∧ va_D A (sW G s0 s1 s2 s3 s4 b0 b1 b2 b3 t (fgF n c i1)) ∧ va_S A zs.heap H locs ∧ lv_has ls 3 [(0, .ref s0), (1, .int (nI c)), (2, .int (nI i1))] ∧ True) (by omega) ⟨by rw [fgF_0]; exact hP, by rw [fgF_0]; exact hD, hS, lv_sub hl [1, 2, 0] (rfl), trivial⟩ ?_
  rintro i1 H locs ls hle2 ⟨hP, hD, hS, hl, -⟩ ih2
  refine lv_iload_n hx hb dX7_forgive_2 rfl (lv_at hl 2 rfl) ?_
  refine lv_aload_n hx hb dX7_forgive_3 rfl (lv_at hl 0 rfl) ?_
  refine va_get (D := G.1) (ci := 7) (v := .ref b0) (C := RX7) (T := TX7) (N := 7) hx hb hts k1 hown hK hP 0 rfl rfl 0 (by decide) k0 (fun _ h9 => h9) rfl dX7_forgive_4 ?_
  refine va_get (D := G.1) (ci := 8) (v := .int (t 4)) (C := RX8) (T := TX8) (N := 9) hx hb hts k3 hown hK hP 5 rfl rfl 4 (by decide) k2 (fun _ h9 => h9) rfl dX7_forgive_7 ?_
  refine n_icmp_ge (tgt := 26) hx hb dX7_forgive_10 (by decide) (u := i1) (v := np) rfl hT.2.1 (by omega) (by omega) (fun cq1 => ?_) (fun cq1 => ?_)
  · skip
    obtain rfl : np = i1 := by omega
    exact mX_vret hAe C hP hS dX7_forgive_26
  · skip
    refine lv_aload_n hx hb dX7_forgive_13 rfl (lv_at hl 0 rfl) ?_
    refine lv_iload_n hx hb dX7_forgive_14 rfl (lv_at hl 2 rfl) ?_
    refine lv_iload_n hx hb dX7_forgive_15 rfl (lv_at hl 1 rfl) ?_
    refine lv_iconst (v := 0) hx hb dX7_forgive_16 (by decide) ?_
    refine cX_V (Cn := RX7) (n := 3) (As := [.int (nI i1), .int (nI c), .int 0]) (rest := []) (wsn := sW G s0 s1 s2 s3 s4 b0 b1 b2 b3 t (upd (fgF n c i1) (4 * i1 + c) (lessI 0 9999))) C (c_X7_setOwed l G s0 s1 s2 s3 s4 b0 b1 b2 b3 t (fgF n c i1)  i1 c 0 (by omega) (by omega)) gX7_forgive_X7_setOwed rfl ⟨rfl, rfl⟩ hd_X7_setOwed ⟨(Nat.le_of_ble_eq_true rfl), (Nat.le_of_ble_eq_true rfl)⟩ hK hP hD hS [0, 1, 2, 3, 4, 5, 6, 7, 8] (by decide) rfl (sW_f.trans sW_f.symm) rfl (sW_f.trans sW_f.symm) (va_recv hK hP (ci := 7) (q0 := 0) rfl rfl) rfl hl.1 rfl (Nat.le_of_ble_eq_true rfl) dX7_forgive_17 ⟨(Nat.le_of_ble_eq_true rfl), (Nat.le_of_ble_eq_true rfl)⟩ (fun H locs hP hD hS => ?_)
    refine lv_iinc (v := nI (i1 + 1)) (lv' := [(2, .int (nI (i1 + 1))), (0, .ref s0), (1, .int (nI c))]) hx hb dX7_forgive_20 hl (k := 2) rfl (by rw [show (nI i1 : Int32) = nI i1 from rfl]; exact nI_add _ 1) (by decide) rfl (fun ls hl => ?_)
    refine lv_goto (tgt := 2) hx hb dX7_forgive_23 (by decide) ?_
    have e2 : upd (fgF n c i1) (4 * i1 + c) (lessI 0 9999) = fgF n c (i1 + 1) := by rw [less0]; exact fgF_s hc
    rw [e2] at hP hD
    exact ih2 _ _ _ (by omega) ⟨hP, hD, hS, lv_sub hl [1, 2, 0] (rfl), trivial⟩
theorem hd_X7_passQuarter : yX7_passQuarter.cls = RX7 ∧ yX7_passQuarter.cls ≠ "java/lang/invoke/MethodHandle" ∧ yX7_passQuarter.cls ≠ "java/lang/invoke/VarHandle" ∧ (parseMethodDescriptor yX7_passQuarter.desc).map (fun d => d.parameters.length) = some 0 := by decide +kernel
set_option maxRecDepth 100000 in
set_option maxHeartbeats 4000000 in
theorem c_X7_passQuarter (l : Launch) (G : gG) (s0 : Nat) (s1 : Nat) (s2 : Nat) (s3 : Nat) (s4 : Nat) (b0 : Nat) (b1 : Nat) (b2 : Nat) (b3 : Nat) (t : Nat → Int32) (n : Nat → Int32) (nc : Nat) (np : Nat) (hT : tw t nc np) (hO : okS t n nc np) : mX l yX7_passQuarter wsX7_passQuarter ({ frames := 4, cells := 0, slots := 0, locals := 89 }) G (sW G s0 s1 s2 s3 s4 b0 b1 b2 b3 t n) (sW G s0 s1 s2 s3 s4 b0 b1 b2 b3 t (qgF t n nc np)) [.ref s0] (.returned (some (.int (soursU t (qg2 t n) np nc)))) := by
  refine mX.of (cc := cX7_passQuarter) (maxL := 3) (ret := (some .int)) (by decide) rfl (Nat.le_of_ble_eq_true rfl) ?_
  intro zp ze zs zm zb zt zc ls A hAe C hP hK hD hS hl
  obtain ⟨hx, hb, hr, hml, hown, hts, hlk⟩ := id C
  have hl : lv_has ls 3 [(0, .ref s0)] := hl
  have hT2 := hT.2.2
  have k0 := hts (.fieldLink RX7 24 "DebtDowry$State" "terms" "LDebtDowry$Terms;") (by decide +kernel)
  have k1 := (fun w h => by revert w; decide +kernel : ∀ w ∈ wsX70, w ∈ wsX7_passQuarter)
  have k2 := hts (.fieldLink RX7 55 "DebtDowry$Terms" "persons" "I") (by decide +kernel)
  have k3 := (fun w h => by revert w; decide +kernel : ∀ w ∈ wsX80, w ∈ wsX7_passQuarter)
  have k4 := hts (.fieldLink RX7 47 "DebtDowry$Terms" "creditors" "I") (by decide +kernel)
  have k5 := hts (.fieldLink RX7 28 "DebtDowry$State" "failed" "I") (by decide +kernel)
  have k6 := hts (.fieldLink RX7 32 "DebtDowry$State" "quarters" "I") (by decide +kernel)
  have k7 := hts (.fieldLink RX7 15 "DebtDowry$State" "purse" "[I") (by decide +kernel)
  have k8 := hts (.fieldLink RX7 18 "DebtDowry$State" "insults" "[I") (by decide +kernel)
  refine lv_iconst (v := 0) hx hb dX7_passQuarter_0 (by decide) ?_
  refine lv_istore_n (lv' := [(1, .int 0), (0, .ref s0)]) hx hb dX7_passQuarter_1 rfl hl (by decide) rfl (fun ls hl => ?_)
  refine wl_X (B := np) (i0 := 0) (Inv := fun i1 H locs ls => va_P G.1 vwCl (sW G s0 s1 s2 s3 s4 b0 b1 b2 b3 t (cqP t n nc i1)) H ∧ va_D A (sW G s0 s1 s2 s3 s4 b0 b1 b2 b3 t (cqP t n nc i1)) ∧ va_S A zs.heap H locs ∧ lv_has ls 3 [(0, .ref s0), (1, .int (nI i1))] ∧ True) (by omega) ⟨hP, hD, hS, lv_sub hl [1, 0] (rfl), trivial⟩ ?_
  rintro i1 H locs ls hle2 ⟨hP, hD, hS, hl, -⟩ ih2
  refine lv_iload_n hx hb dX7_passQuarter_2 rfl (lv_at hl 1 rfl) ?_
  refine lv_aload_n hx hb dX7_passQuarter_3 rfl (lv_at hl 0 rfl) ?_
  refine va_get (D := G.1) (ci := 7) (v := .ref b0) (C := RX7) (T := TX7) (N := 7) hx hb hts k1 hown hK hP 0 rfl rfl 0 (by decide) k0 (fun _ h9 => h9) rfl dX7_passQuarter_4 ?_
  refine va_get (D := G.1) (ci := 8) (v := .int (t 4)) (C := RX8) (T := TX8) (N := 9) hx hb hts k3 hown hK hP 5 rfl rfl 4 (by decide) k2 (fun _ h9 => h9) rfl dX7_passQuarter_7 ?_
  refine n_icmp_ge (tgt := 64) hx hb dX7_passQuarter_10 (by decide) (u := i1) (v := np) rfl hT.2.1 (by omega) (by omega) (fun cq1 => ?_) (fun cq1 => ?_)
  · skip
    obtain rfl : np = i1 := by omega
    have hQ2 : cqP t n nc np = qg2 t n := cqP_eq hO hT2.1 hT2.2
    rw [hQ2] at hP hD
    refine lv_iconst (v := 0) hx hb dX7_passQuarter_64 (by decide) ?_
    refine lv_istore_n (lv' := [(1, .int 0), (0, .ref s0)]) hx hb dX7_passQuarter_65 rfl hl (by decide) rfl (fun ls hl => ?_)
    refine lv_iconst (v := 0) hx hb dX7_passQuarter_66 (by decide) ?_
    refine lv_istore_n (lv' := [(2, .int 0), (1, .int 0), (0, .ref s0)]) hx hb dX7_passQuarter_67 rfl hl (by decide) rfl (fun ls hl => ?_)
    refine wl_X (B := nc) (i0 := 0) (Inv := fun i3 H locs ls => va_P G.1 vwCl (sW G s0 s1 s2 s3 s4 b0 b1 b2 b3 t (fgS (failP t (qg2 t n) np) (qg2 t n) np i3)) H ∧ va_D A (sW G s0 s1 s2 s3 s4 b0 b1 b2 b3 t (fgS (failP t (qg2 t n) np) (qg2 t n) np i3)) ∧ va_S A zs.heap H locs ∧ lv_has ls 3 [(0, .ref s0), (1, .int (soursU t (qg2 t n) np i3)), (2, .int (nI i3))] ∧ True) (by omega) ⟨by rw [fgS_0]; exact hP, by rw [fgS_0]; exact hD, hS, lv_sub hl [2, 1, 0] (rfl), trivial⟩ ?_
    rintro i3 H locs ls hle68 ⟨hP, hD, hS, hl, -⟩ ih68
    have h52 : fgS (failP t (qg2 t n) np) (qg2 t n) np i3 52 = qg2 t n 52 := fgS_hi hT2.2 (by omega)
    have hpu : i3 < 4 → fgS (failP t (qg2 t n) np) (qg2 t n) np i3 (32 + i3) = qg2 t n (32 + i3) := fun _ => fgS_hi hT2.2 (by omega)
    have hso : i3 < 4 → sourU t (fgS (failP t (qg2 t n) np) (qg2 t n) np i3) i3 np = sourU t (qg2 t n) i3 np := fun h4 => fgS_so h4 hT2.2
    refine lv_iload_n hx hb dX7_passQuarter_68 rfl (lv_at hl 2 rfl) ?_
    refine lv_aload_n hx hb dX7_passQuarter_69 rfl (lv_at hl 0 rfl) ?_
    refine va_get (D := G.1) (ci := 7) (v := .ref b0) (C := RX7) (T := TX7) (N := 7) hx hb hts k1 hown hK hP 0 rfl rfl 0 (by decide) k0 (fun _ h9 => h9) rfl dX7_passQuarter_70 ?_
    refine va_get (D := G.1) (ci := 8) (v := .int (t 3)) (C := RX8) (T := TX8) (N := 9) hx hb hts k3 hown hK hP 5 rfl rfl 3 (by decide) k4 (fun _ h9 => h9) rfl dX7_passQuarter_73 ?_
    refine n_icmp_ge (tgt := 118) hx hb dX7_passQuarter_76 (by decide) (u := i3) (v := nc) rfl hT.1 (by omega) (by omega) (fun cq2 => ?_) (fun cq2 => ?_)
    · skip
      obtain rfl : nc = i3 := by omega
      refine lv_aload_n hx hb dX7_passQuarter_118 rfl (lv_at hl 0 rfl) ?_
      refine lv_dup hx hb dX7_passQuarter_119 rfl ?_
      refine va_get (D := G.1) (ci := 7) (v := .int ((fgS (failP t (qg2 t n) np) (qg2 t n) np nc) 52)) (C := RX7) (T := TX7) (N := 7) hx hb hts k1 hown hK hP 0 rfl rfl 5 (by decide) k5 (fun _ h9 => h9) rfl dX7_passQuarter_120 ?_
      refine lv_iload_n hx hb dX7_passQuarter_123 rfl (lv_at hl 1 rfl) ?_
      refine lv_ior hx hb dX7_passQuarter_124 ?_
      refine n_putQ (D := G.1) (wsn := sW G s0 s1 s2 s3 s4 b0 b1 b2 b3 t (upd (fgS (failP t (qg2 t n) np) (qg2 t n) np nc) 52 (((fgS (failP t (qg2 t n) np) (qg2 t n) np nc) 52) ||| (soursU t (qg2 t n) np nc)))) (ci := 7) (v := .int (((fgS (failP t (qg2 t n) np) (qg2 t n) np nc) 52) ||| (soursU t (qg2 t n) np nc))) (ty := .int) (C := RX7) (T := TX7) (N := 7) hx hb hts k1 tyX7 tyX7_ok nmX7 hown hK hP hD hS 0 rfl rfl 5 (by decide) k5 (fun _ h9 => h9) rfl (by decide +kernel) rfl rfl (Nat.le_of_ble_eq_true rfl) sW_p0_5 dX7_passQuarter_125 (fun H locs hP hD hS => ?_)
      refine lv_aload_n hx hb dX7_passQuarter_128 rfl (lv_at hl 0 rfl) ?_
      refine lv_dup hx hb dX7_passQuarter_129 rfl ?_
      refine va_get (D := G.1) (ci := 7) (v := .int ((fgS (failP t (qg2 t n) np) (qg2 t n) np nc) 53)) (C := RX7) (T := TX7) (N := 7) hx hb hts k1 hown hK hP 0 rfl rfl 6 (by decide) k6 (fun _ h9 => h9) rfl dX7_passQuarter_130 ?_
      refine lv_iconst (v := 1) hx hb dX7_passQuarter_133 (by decide) ?_
      refine lv_iadd hx hb dX7_passQuarter_134 ?_
      refine n_putQ (D := G.1) (wsn := sW G s0 s1 s2 s3 s4 b0 b1 b2 b3 t (upd (upd (fgS (failP t (qg2 t n) np) (qg2 t n) np nc) 52 (((fgS (failP t (qg2 t n) np) (qg2 t n) np nc) 52) ||| (soursU t (qg2 t n) np nc))) 53 (((fgS (failP t (qg2 t n) np) (qg2 t n) np nc) 53) + 1))) (ci := 7) (v := .int (((fgS (failP t (qg2 t n) np) (qg2 t n) np nc) 53) + 1)) (ty := .int) (C := RX7) (T := TX7) (N := 7) hx hb hts k1 tyX7 tyX7_ok nmX7 hown hK hP hD hS 0 rfl rfl 6 (by decide) k6 (fun _ h9 => h9) rfl (by decide +kernel) rfl rfl (Nat.le_of_ble_eq_true rfl) sW_p0_6 dX7_passQuarter_135 (fun H locs hP hD hS => ?_)
      refine lv_iload_n hx hb dX7_passQuarter_138 rfl (lv_at hl 1 rfl) ?_
      have hP : va_P G.1 vwCl (sW G s0 s1 s2 s3 s4 b0 b1 b2 b3 t (qgF t n nc np)) H := by rw [show (qgF t n nc np) = (upd (upd (fgS (failP t (qg2 t n) np) (qg2 t n) np nc) 52 (((fgS (failP t (qg2 t n) np) (qg2 t n) np nc) 52) ||| (soursU t (qg2 t n) np nc))) 53 (((fgS (failP t (qg2 t n) np) (qg2 t n) np nc) 53) + 1)) from pass_eq hO hT2.1 hT2.2]; exact hP
      exact mX_iret hAe C hP hS dX7_passQuarter_139 (rfl)
    · skip
      refine lv_aload_n hx hb dX7_passQuarter_79 rfl (lv_at hl 0 rfl) ?_
      refine lv_iload_n hx hb dX7_passQuarter_80 rfl (lv_at hl 2 rfl) ?_
      refine cR_V (Cn := RX7) (n := 1) (As := [.int (nI i3)]) (rest := []) C (c_X7_hasFailed l G s0 s1 s2 s3 s4 b0 b1 b2 b3 t (fgS (failP t (qg2 t n) np) (qg2 t n) np i3)  i3 ) gX7_passQuarter_X7_hasFailed rfl ⟨rfl, rfl⟩ hd_X7_hasFailed ⟨(Nat.le_of_ble_eq_true rfl), (Nat.le_of_ble_eq_true rfl)⟩ hK hP (va_recv hK hP (ci := 7) (q0 := 0) rfl rfl) rfl hl.1 rfl (Nat.le_of_ble_eq_true rfl) dX7_passQuarter_81 ⟨(Nat.le_of_ble_eq_true rfl), (Nat.le_of_ble_eq_true rfl)⟩ ?_
      refine b_if_ne (tgt := 112) hx hb dX7_passQuarter_84 (by decide) (fun cq3 => ?_) (fun cq3 => ?_)
      · skip
        rw [h52] at cq3
        have hfp : ¬ failP t (qg2 t n) np i3 = true := by unfold failP; rw [decide_eq_true_eq]; exact fun q => q.1 cq3
        refine lv_iinc (v := nI (i3 + 1)) (lv' := [(2, .int (nI (i3 + 1))), (0, .ref s0), (1, .int (soursU t (qg2 t n) np i3))]) hx hb dX7_passQuarter_112 hl (k := 2) rfl (by rw [show (nI i3 : Int32) = nI i3 from rfl]; exact nI_add _ 1) (by decide) rfl (fun ls hl => ?_)
        refine lv_goto (tgt := 68) hx hb dX7_passQuarter_115 (by decide) ?_
        have e4 : soursU t (qg2 t n) np i3 = soursU t (qg2 t n) np (i3 + 1) := by first | exact setU_t hfp | exact setU_f' hfp
        have e5 : fgS (failP t (qg2 t n) np) (qg2 t n) np i3 = fgS (failP t (qg2 t n) np) (qg2 t n) np (i3 + 1) := by first | exact fgS_t hfp | exact fgS_f hfp
        rw [e5] at hP hD
        exact ih68 _ _ _ (by omega) ⟨hP, hD, hS, lv_sub hl [1, 2, 0] (by rw [← e4]; rfl), trivial⟩
      · skip
        rw [h52] at cq3
        have h84 := cq3
        refine lv_aload_n hx hb dX7_passQuarter_87 rfl (lv_at hl 0 rfl) ?_
        refine lv_iload_n hx hb dX7_passQuarter_88 rfl (lv_at hl 2 rfl) ?_
        refine cR_V (Cn := RX7) (n := 1) (As := [.int (nI i3)]) (rest := []) C (c_X7_owedSourly l G s0 s1 s2 s3 s4 b0 b1 b2 b3 t (fgS (failP t (qg2 t n) np) (qg2 t n) np i3) nc np i3 hT (by omega)) gX7_passQuarter_X7_owedSourly rfl ⟨rfl, rfl⟩ hd_X7_owedSourly ⟨(Nat.le_of_ble_eq_true rfl), (Nat.le_of_ble_eq_true rfl)⟩ hK hP (va_recv hK hP (ci := 7) (q0 := 0) rfl rfl) rfl hl.1 rfl (Nat.le_of_ble_eq_true rfl) dX7_passQuarter_89 ⟨(Nat.le_of_ble_eq_true rfl), (Nat.le_of_ble_eq_true rfl)⟩ ?_
        refine lv_aload_n hx hb dX7_passQuarter_92 rfl (lv_at hl 0 rfl) ?_
        refine va_get (D := G.1) (ci := 7) (v := .ref s2) (C := RX7) (T := TX7) (N := 7) hx hb hts k1 hown hK hP 0 rfl rfl 2 (by decide) k7 (fun _ h9 => h9) rfl dX7_passQuarter_93 ?_
        refine lv_iload_n hx hb dX7_passQuarter_96 rfl (lv_at hl 2 rfl) ?_
        refine n_iald hx hb hK hP 2 0 rfl rfl (j := i3) rfl (by omega) (by decide) dX7_passQuarter_97 ?_
        refine lv_icmp_le (tgt := 112) hx hb dX7_passQuarter_98 (by decide) (fun cq6 => ?_) (fun cq6 => ?_)
        · skip
          rw [hso (by omega), hpu (by omega)] at cq6
          have hfp : ¬ failP t (qg2 t n) np i3 = true := by unfold failP; rw [decide_eq_true_eq]; exact fun q => i32_nlt.mpr cq6 q.2
          refine lv_iinc (v := nI (i3 + 1)) (lv' := [(2, .int (nI (i3 + 1))), (0, .ref s0), (1, .int (soursU t (qg2 t n) np i3))]) hx hb dX7_passQuarter_112 hl (k := 2) rfl (by rw [show (nI i3 : Int32) = nI i3 from rfl]; exact nI_add _ 1) (by decide) rfl (fun ls hl => ?_)
          refine lv_goto (tgt := 68) hx hb dX7_passQuarter_115 (by decide) ?_
          have e7 : soursU t (qg2 t n) np i3 = soursU t (qg2 t n) np (i3 + 1) := by first | exact setU_t hfp | exact setU_f' hfp
          have e8 : fgS (failP t (qg2 t n) np) (qg2 t n) np i3 = fgS (failP t (qg2 t n) np) (qg2 t n) np (i3 + 1) := by first | exact fgS_t hfp | exact fgS_f hfp
          rw [e8] at hP hD
          exact ih68 _ _ _ (by omega) ⟨hP, hD, hS, lv_sub hl [1, 2, 0] (by rw [← e7]; rfl), trivial⟩
        · skip
          rw [hso (by omega), hpu (by omega)] at cq6
          have hfp : failP t (qg2 t n) np i3 = true := by unfold failP; rw [decide_eq_true_eq]; exact ⟨h84, i32_nle.mp cq6⟩
          refine lv_iload_n hx hb dX7_passQuarter_101 rfl (lv_at hl 1 rfl) ?_
          refine lv_iconst (v := 1) hx hb dX7_passQuarter_102 (by decide) ?_
          refine lv_iload_n hx hb dX7_passQuarter_103 rfl (lv_at hl 2 rfl) ?_
          refine lv_ishl hx hb dX7_passQuarter_104 ?_
          refine lv_ior hx hb dX7_passQuarter_105 ?_
          refine lv_istore_n (lv' := [(1, .int ((soursU t (qg2 t n) np i3) ||| (1 <<< ((nI i3) &&& 31)))), (0, .ref s0), (2, .int (nI i3))]) hx hb dX7_passQuarter_106 rfl hl (by decide) rfl (fun ls hl => ?_)
          refine lv_aload_n hx hb dX7_passQuarter_107 rfl (lv_at hl 1 rfl) ?_
          refine lv_iload_n hx hb dX7_passQuarter_108 rfl (lv_at hl 2 rfl) ?_
          refine cX_V (Cn := RX7) (n := 1) (As := [.int (nI i3)]) (rest := []) (wsn := sW G s0 s1 s2 s3 s4 b0 b1 b2 b3 t (fgF (fgS (failP t (qg2 t n) np) (qg2 t n) np i3) i3 np)) C (c_X7_forgive l G s0 s1 s2 s3 s4 b0 b1 b2 b3 t (fgS (failP t (qg2 t n) np) (qg2 t n) np i3) nc np i3 hT (by omega)) gX7_passQuarter_X7_forgive rfl ⟨rfl, rfl⟩ hd_X7_forgive ⟨(Nat.le_of_ble_eq_true rfl), (Nat.le_of_ble_eq_true rfl)⟩ hK hP hD hS [0, 1, 2, 3, 4, 5, 6, 7, 8] (by decide) rfl (sW_f.trans sW_f.symm) rfl (sW_f.trans sW_f.symm) (va_recv hK hP (ci := 7) (q0 := 0) rfl rfl) rfl hl.1 rfl (Nat.le_of_ble_eq_true rfl) dX7_passQuarter_109 ⟨(Nat.le_of_ble_eq_true rfl), (Nat.le_of_ble_eq_true rfl)⟩ (fun H locs hP hD hS => ?_)
          refine lv_iinc (v := nI (i3 + 1)) (lv' := [(2, .int (nI (i3 + 1))), (1, .int ((soursU t (qg2 t n) np i3) ||| (1 <<< ((nI i3) &&& 31)))), (0, .ref s0)]) hx hb dX7_passQuarter_112 hl (k := 2) rfl (by rw [show (nI i3 : Int32) = nI i3 from rfl]; exact nI_add _ 1) (by decide) rfl (fun ls hl => ?_)
          refine lv_goto (tgt := 68) hx hb dX7_passQuarter_115 (by decide) ?_
          have e9 : (soursU t (qg2 t n) np i3) ||| (1 <<< ((nI i3) &&& 31)) = soursU t (qg2 t n) np (i3 + 1) := by first | exact setU_t hfp | exact setU_f' hfp
          have e10 : fgF (fgS (failP t (qg2 t n) np) (qg2 t n) np i3) i3 np = fgS (failP t (qg2 t n) np) (qg2 t n) np (i3 + 1) := by first | exact fgS_t hfp | exact fgS_f hfp
          rw [e10] at hP hD
          exact ih68 _ _ _ (by omega) ⟨hP, hD, hS, lv_sub hl [2, 1, 0] (by rw [← e9]; rfl), trivial⟩
  · skip
    refine lv_aload_n hx hb dX7_passQuarter_13 rfl (lv_at hl 0 rfl) ?_
    refine va_get (D := G.1) (ci := 7) (v := .ref s3) (C := RX7) (T := TX7) (N := 7) hx hb hts k1 hown hK hP 0 rfl rfl 3 (by decide) k8 (fun _ h9 => h9) rfl dX7_passQuarter_14 ?_
    refine lv_iload_n hx hb dX7_passQuarter_17 rfl (lv_at hl 1 rfl) ?_
    refine lv_iconst (v := 0) hx hb dX7_passQuarter_18 (by decide) ?_
    refine n_iastQ hx hb hK hP hD hS 3 0 rfl rfl (x := 0) (j := i1) rfl (by omega) (by decide) dX7_passQuarter_19 (wsn := sW G s0 s1 s2 s3 s4 b0 b1 b2 b3 t (upd (cqP t n nc i1) (36 + i1) 0)) (sW_r3 (by omega)) (fun H locs hP hD hS => ?_)
    refine lv_iconst (v := 0) hx hb dX7_passQuarter_20 (by decide) ?_
    refine lv_istore_n (lv' := [(2, .int 0), (0, .ref s0), (1, .int (nI i1))]) hx hb dX7_passQuarter_21 rfl hl (by decide) rfl (fun ls hl => ?_)
    refine wl_X (B := nc) (i0 := 0) (Inv := fun i2 H locs ls => va_P G.1 vwCl (sW G s0 s1 s2 s3 s4 b0 b1 b2 b3 t (cqI t (upd (cqP t n nc i1) (36 + i1) 0) i1 i2)) H ∧ va_D A (sW G s0 s1 s2 s3 s4 b0 b1 b2 b3 t (cqI t (upd (cqP t n nc i1) (36 + i1) 0) i1 i2)) ∧ va_S A zs.heap H locs ∧ lv_has ls 3 [(0, .ref s0), (1, .int (nI i1)), (2, .int (nI i2))] ∧ True) (by omega) ⟨hP, hD, hS, lv_sub hl [1, 2, 0] (rfl), trivial⟩ ?_
    rintro i2 H locs ls hle22 ⟨hP, hD, hS, hl, -⟩ ih22
    refine lv_iload_n hx hb dX7_passQuarter_22 rfl (lv_at hl 2 rfl) ?_
    refine lv_aload_n hx hb dX7_passQuarter_23 rfl (lv_at hl 0 rfl) ?_
    refine va_get (D := G.1) (ci := 7) (v := .ref b0) (C := RX7) (T := TX7) (N := 7) hx hb hts k1 hown hK hP 0 rfl rfl 0 (by decide) k0 (fun _ h9 => h9) rfl dX7_passQuarter_24 ?_
    refine va_get (D := G.1) (ci := 8) (v := .int (t 3)) (C := RX8) (T := TX8) (N := 9) hx hb hts k3 hown hK hP 5 rfl rfl 3 (by decide) k4 (fun _ h9 => h9) rfl dX7_passQuarter_27 ?_
    refine n_icmp_ge (tgt := 58) hx hb dX7_passQuarter_30 (by decide) (u := i2) (v := nc) rfl hT.1 (by omega) (by omega) (fun cq11 => ?_) (fun cq11 => ?_)
    · skip
      obtain rfl : nc = i2 := by omega
      refine lv_iinc (v := nI (i1 + 1)) (lv' := [(1, .int (nI (i1 + 1))), (0, .ref s0), (2, .int (nI nc))]) hx hb dX7_passQuarter_58 hl (k := 1) rfl (by rw [show (nI i1 : Int32) = nI i1 from rfl]; exact nI_add _ 1) (by decide) rfl (fun ls hl => ?_)
      refine lv_goto (tgt := 2) hx hb dX7_passQuarter_61 (by decide) ?_
      have e12 : cqI t (upd (cqP t n nc i1) (36 + i1) 0) i1 nc = cqP t n nc (i1 + 1) := rfl
      rw [e12] at hP hD
      exact ih2 _ _ _ (by omega) ⟨hP, hD, hS, lv_sub hl [1, 0] (rfl), trivial⟩
    · skip
      refine lv_aload_n hx hb dX7_passQuarter_33 rfl (lv_at hl 0 rfl) ?_
      refine lv_iload_n hx hb dX7_passQuarter_34 rfl (lv_at hl 1 rfl) ?_
      refine lv_iload_n hx hb dX7_passQuarter_35 rfl (lv_at hl 2 rfl) ?_
      refine lv_aload_n hx hb dX7_passQuarter_36 rfl (lv_at hl 0 rfl) ?_
      refine va_get (D := G.1) (ci := 7) (v := .ref b0) (C := RX7) (T := TX7) (N := 7) hx hb hts k1 hown hK hP 0 rfl rfl 0 (by decide) k0 (fun _ h9 => h9) rfl dX7_passQuarter_37 ?_
      refine lv_aload_n hx hb dX7_passQuarter_40 rfl (lv_at hl 0 rfl) ?_
      refine lv_iload_n hx hb dX7_passQuarter_41 rfl (lv_at hl 1 rfl) ?_
      refine lv_iload_n hx hb dX7_passQuarter_42 rfl (lv_at hl 2 rfl) ?_
      refine cR_V (Cn := RX7) (n := 2) (As := [.int (nI i1), .int (nI i2)]) (rest := [.ref b0, .int (nI i2), .int (nI i1), .ref s0]) C (c_X7_owedTo l G s0 s1 s2 s3 s4 b0 b1 b2 b3 t (cqI t (upd (cqP t n nc i1) (36 + i1) 0) i1 i2)  i1 i2 (by omega) (by omega)) gX7_passQuarter_X7_owedTo rfl ⟨rfl, rfl⟩ hd_X7_owedTo ⟨(Nat.le_of_ble_eq_true rfl), (Nat.le_of_ble_eq_true rfl)⟩ hK hP (va_recv hK hP (ci := 7) (q0 := 0) rfl rfl) rfl hl.1 rfl (Nat.le_of_ble_eq_true rfl) dX7_passQuarter_43 ⟨(Nat.le_of_ble_eq_true rfl), (Nat.le_of_ble_eq_true rfl)⟩ ?_
      refine cR_V (Cn := RX8) (n := 1) (As := [.int ((cqI t (upd (cqP t n nc i1) (36 + i1) 0) i1 i2) (4 * i1 + i2))]) (rest := [.int (nI i2), .int (nI i1), .ref s0]) C (c_X8_grown l G b0 b1 b2 b3 t  ((cqI t (upd (cqP t n nc i1) (36 + i1) 0) i1 i2) (4 * i1 + i2)) ) gX7_passQuarter_X8_grown rfl ⟨rfl, rfl⟩ hd_X8_grown ⟨(Nat.le_of_ble_eq_true rfl), (Nat.le_of_ble_eq_true rfl)⟩ hK (hP.sub [5, 6, 7, 8] rfl) (va_recv hK hP (ci := 8) (q0 := 5) rfl rfl) rfl hl.1 rfl (Nat.le_of_ble_eq_true rfl) dX7_passQuarter_46 ⟨(Nat.le_of_ble_eq_true rfl), (Nat.le_of_ble_eq_true rfl)⟩ ?_
      refine cX_V (Cn := RX7) (n := 3) (As := [.int (nI i1), .int (nI i2), .int (growI ((cqI t (upd (cqP t n nc i1) (36 + i1) 0) i1 i2) (4 * i1 + i2)) (t 1))]) (rest := []) (wsn := sW G s0 s1 s2 s3 s4 b0 b1 b2 b3 t (upd (cqI t (upd (cqP t n nc i1) (36 + i1) 0) i1 i2) (4 * i1 + i2) (lessI (growI ((cqI t (upd (cqP t n nc i1) (36 + i1) 0) i1 i2) (4 * i1 + i2)) (t 1)) 9999))) C (c_X7_setOwed l G s0 s1 s2 s3 s4 b0 b1 b2 b3 t (cqI t (upd (cqP t n nc i1) (36 + i1) 0) i1 i2)  i1 i2 (growI ((cqI t (upd (cqP t n nc i1) (36 + i1) 0) i1 i2) (4 * i1 + i2)) (t 1)) (by omega) (by omega)) gX7_passQuarter_X7_setOwed rfl ⟨rfl, rfl⟩ hd_X7_setOwed ⟨(Nat.le_of_ble_eq_true rfl), (Nat.le_of_ble_eq_true rfl)⟩ hK hP hD hS [0, 1, 2, 3, 4, 5, 6, 7, 8] (by decide) rfl (sW_f.trans sW_f.symm) rfl (sW_f.trans sW_f.symm) (va_recv hK hP (ci := 7) (q0 := 0) rfl rfl) rfl hl.1 rfl (Nat.le_of_ble_eq_true rfl) dX7_passQuarter_49 ⟨(Nat.le_of_ble_eq_true rfl), (Nat.le_of_ble_eq_true rfl)⟩ (fun H locs hP hD hS => ?_)
      refine lv_iinc (v := nI (i2 + 1)) (lv' := [(2, .int (nI (i2 + 1))), (0, .ref s0), (1, .int (nI i1))]) hx hb dX7_passQuarter_52 hl (k := 2) rfl (by rw [show (nI i2 : Int32) = nI i2 from rfl]; exact nI_add _ 1) (by decide) rfl (fun ls hl => ?_)
      refine lv_goto (tgt := 22) hx hb dX7_passQuarter_55 (by decide) ?_
      have e13 : upd (cqI t (upd (cqP t n nc i1) (36 + i1) 0) i1 i2) (4 * i1 + i2) (lessI (growI ((cqI t (upd (cqP t n nc i1) (36 + i1) 0) i1 i2) (4 * i1 + i2)) (t 1)) 9999) = cqI t (upd (cqP t n nc i1) (36 + i1) 0) i1 (i2 + 1) := rfl
      rw [e13] at hP hD
      exact ih22 _ _ _ (by omega) ⟨hP, hD, hS, lv_sub hl [1, 2, 0] (rfl), trivial⟩
