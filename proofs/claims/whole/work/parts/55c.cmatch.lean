theorem hd_X4_bestPair : yX4_bestPair.cls ≠ "java/lang/invoke/MethodHandle" ∧ yX4_bestPair.cls ≠ "java/lang/invoke/VarHandle" ∧ (parseMethodDescriptor yX4_bestPair.desc).map (fun d => d.parameters.length) = some 2 := by decide +kernel
set_option maxRecDepth 100000 in
set_option maxHeartbeats 4000000 in
theorem c_X4_bestPair (l : Launch) (G : gG) (s0 : Nat) (s1 : Nat) (s2 : Nat) (s3 : Nat) (s4 : Nat) (b0 : Nat) (b1 : Nat) (b2 : Nat) (b3 : Nat) (t : Nat → Int32) (n : Nat → Int32) (nc : Nat) (np : Nat) (tk : Int32) (hT : tw t nc np) (hG : okG t nc) : mR l yX4_bestPair wsX4_bestPair ({ frames := 4, cells := 0, slots := 0, locals := 89 }) G (sW G s0 s1 s2 s3 s4 b0 b1 b2 b3 t n) [.ref s0, .int tk] (bst (bpR t n nc np tk)) := by
  refine mR.of (cc := cX4_bestPair) (maxL := 9) (ret := (some .int)) (by decide) rfl (Nat.le_of_ble_eq_true rfl) ?_
  intro zp ze zs zm zb zt zc ls C hP hK hl
  obtain ⟨hx, hb, hr, hml, hown, hts, hlk⟩ := id C
  have hl : lv_has ls 9 [(0, .ref s0), (1, .int tk)] := hl
  have hT2 := hT.2.2
  have k0 := hts (.constant RX4 25 (-1000000001)) (by decide +kernel)
  have k1 := hts (.fieldLink RX4 26 "DebtDowry$State" "terms" "LDebtDowry$Terms;") (by decide +kernel)
  have k2 := (fun w h => by revert w; decide +kernel : ∀ w ∈ wsX70, w ∈ wsX4_bestPair)
  have k3 := hts (.fieldLink RX4 30 "DebtDowry$Terms" "persons" "I") (by decide +kernel)
  have k4 := (fun w h => by revert w; decide +kernel : ∀ w ∈ wsX80, w ∈ wsX4_bestPair)
  refine lv_iconst (v := (-1)) hx hb dX4_bestPair_0 (by decide) ?_
  refine lv_istore_n (lv' := [(2, .int (-1)), (0, .ref s0), (1, .int tk)]) hx hb dX4_bestPair_1 rfl hl (by decide) rfl (fun ls hl => ?_)
  refine lv_ldc hx hb hown k0 dX4_bestPair_2 ?_
  refine lv_istore_n (lv' := [(3, .int (-1000000001)), (2, .int (-1)), (0, .ref s0), (1, .int tk)]) hx hb dX4_bestPair_4 rfl hl (by decide) rfl (fun ls hl => ?_)
  refine lv_iconst (v := 0) hx hb dX4_bestPair_5 (by decide) ?_
  refine lv_istore (lv' := [(4, .int 0), (3, .int (-1000000001)), (2, .int (-1)), (0, .ref s0), (1, .int tk)]) hx hb dX4_bestPair_6 hl (by decide) rfl (fun ls hl => ?_)
  refine wl_R (B := np) (i0 := 0) (Inv := fun i1 ls => lv_has ls 9 [(0, .ref s0), (1, .int tk), (2, .int (bst (bpG t n nc np tk i1))), (3, .int (bsd (bpG t n nc np tk i1))), (4, .int (nI i1))] ∧ True) (by omega) ⟨lv_sub hl [3, 4, 2, 1, 0] (rfl), trivial⟩ ?_
  rintro i1 ls hle8 ⟨hl, -⟩ ih8
  refine lv_iload hx hb dX4_bestPair_8 (lv_at hl 4 rfl) ?_
  refine lv_aload_n hx hb dX4_bestPair_10 rfl (lv_at hl 0 rfl) ?_
  refine va_get (D := G.1) (ci := 7) (v := .ref b0) (C := RX7) (T := TX7) (N := 7) hx hb hts k2 hown hK hP 0 rfl rfl 0 (by decide) k1 (fun _ h9 => h9) rfl dX4_bestPair_11 ?_
  refine va_get (D := G.1) (ci := 8) (v := .int (t 4)) (C := RX8) (T := TX8) (N := 9) hx hb hts k4 hown hK hP 5 rfl rfl 4 (by decide) k3 (fun _ h9 => h9) rfl dX4_bestPair_14 ?_
  refine n_icmp_ge (tgt := 166) hx hb dX4_bestPair_17 (by decide) (u := i1) (v := np) rfl hT.2.1 (by omega) (by omega) (fun cq1 => ?_) (fun cq1 => ?_)
  · skip
    obtain rfl : np = i1 := by omega
    refine lv_iload_n hx hb dX4_bestPair_166 rfl (lv_at hl 2 rfl) ?_
    exact mR_iret C dX4_bestPair_167 (rfl)
  · skip
    refine lv_iconst (v := 0) hx hb dX4_bestPair_20 (by decide) ?_
    refine lv_istore (lv' := [(5, .int 0), (0, .ref s0), (1, .int tk), (2, .int (bst (bpG t n nc np tk i1))), (3, .int (bsd (bpG t n nc np tk i1))), (4, .int (nI i1))]) hx hb dX4_bestPair_21 hl (by decide) rfl (fun ls hl => ?_)
    refine wl_R (B := np) (i0 := 0) (Inv := fun i2 ls => lv_has ls 9 [(0, .ref s0), (1, .int tk), (2, .int (bst (bpI t n nc tk i1 (bpG t n nc np tk i1) i2))), (3, .int (bsd (bpI t n nc tk i1 (bpG t n nc np tk i1) i2))), (4, .int (nI i1)), (5, .int (nI i2))] ∧ True) (by omega) ⟨lv_sub hl [1, 2, 3, 4, 5, 0] (rfl), trivial⟩ ?_
    rintro i2 ls hle23 ⟨hl, -⟩ ih23
    refine lv_iload hx hb dX4_bestPair_23 (lv_at hl 5 rfl) ?_
    refine lv_aload_n hx hb dX4_bestPair_25 rfl (lv_at hl 0 rfl) ?_
    refine va_get (D := G.1) (ci := 7) (v := .ref b0) (C := RX7) (T := TX7) (N := 7) hx hb hts k2 hown hK hP 0 rfl rfl 0 (by decide) k1 (fun _ h9 => h9) rfl dX4_bestPair_26 ?_
    refine va_get (D := G.1) (ci := 8) (v := .int (t 4)) (C := RX8) (T := TX8) (N := 9) hx hb hts k4 hown hK hP 5 rfl rfl 4 (by decide) k3 (fun _ h9 => h9) rfl dX4_bestPair_29 ?_
    refine n_icmp_ge (tgt := 160) hx hb dX4_bestPair_32 (by decide) (u := i2) (v := np) rfl hT.2.1 (by omega) (by omega) (fun cq2 => ?_) (fun cq2 => ?_)
    · skip
      obtain rfl : np = i2 := by omega
      refine lv_iinc (v := nI (i1 + 1)) (lv' := [(4, .int (nI (i1 + 1))), (0, .ref s0), (1, .int tk), (2, .int (bst (bpI t n nc tk i1 (bpG t n nc np tk i1) np))), (3, .int (bsd (bpI t n nc tk i1 (bpG t n nc np tk i1) np))), (5, .int (nI np))]) hx hb dX4_bestPair_160 hl (k := 4) rfl (by rw [show (nI i1 : Int32) = nI i1 from rfl]; exact nI_add _ 1) (by decide) rfl (fun ls hl => ?_)
      refine lv_goto (tgt := 8) hx hb dX4_bestPair_163 (by decide) ?_
      have e3 : bst (bpI t n nc tk i1 (bpG t n nc np tk i1) np) = bst (bpG t n nc np tk (i1 + 1)) := rfl
      have e4 : bsd (bpI t n nc tk i1 (bpG t n nc np tk i1) np) = bsd (bpG t n nc np tk (i1 + 1)) := rfl
      exact ih8 _ (by omega) ⟨lv_sub hl [1, 2, 3, 4, 0] (by rw [← e3, ← e4]; rfl), trivial⟩
    · skip
      refine lv_iload_n hx hb dX4_bestPair_35 rfl (lv_at hl 1 rfl) ?_
      refine lv_iload hx hb dX4_bestPair_36 (lv_at hl 4 rfl) ?_
      refine lv_ishr hx hb dX4_bestPair_38 ?_
      refine lv_iconst (v := 1) hx hb dX4_bestPair_39 (by decide) ?_
      refine lv_iand hx hb dX4_bestPair_40 ?_
      refine lv_if_ne (tgt := 57) hx hb dX4_bestPair_41 (by decide) (fun cq5 => ?_) (fun cq5 => ?_)
      · skip
        have hbp : ¬ bpC t n nc tk (bpI t n nc tk i1 (bpG t n nc np tk i1) i2).1 i1 i2 := fun q => q.2.2.1 (Decidable.of_not_not (fun z => cq5 (nh_0.mp z)))
        refine lv_iconst (v := 0) hx hb dX4_bestPair_57 (by decide) ?_
        refine lv_istore (lv' := [(6, .int 0), (0, .ref s0), (1, .int tk), (2, .int (bst (bpI t n nc tk i1 (bpG t n nc np tk i1) i2))), (3, .int (bsd (bpI t n nc tk i1 (bpG t n nc np tk i1) i2))), (4, .int (nI i1)), (5, .int (nI i2))]) hx hb dX4_bestPair_58 hl (by decide) rfl (fun ls hl => ?_)
        refine lv_iload hx hb dX4_bestPair_60 (lv_at hl 0 rfl) ?_
        refine lv_if_eq (tgt := 154) hx hb dX4_bestPair_62 (by decide) (fun cq6 => ?_) (fun cq6 => ?_)
        rotate_left
        · exact absurd cq6 (by decide)
        refine lv_iinc (v := nI (i2 + 1)) (lv' := [(5, .int (nI (i2 + 1))), (6, .int 0), (0, .ref s0), (1, .int tk), (2, .int (bst (bpI t n nc tk i1 (bpG t n nc np tk i1) i2))), (3, .int (bsd (bpI t n nc tk i1 (bpG t n nc np tk i1) i2))), (4, .int (nI i1))]) hx hb dX4_bestPair_154 hl (k := 6) rfl (by rw [show (nI i2 : Int32) = nI i2 from rfl]; exact nI_add _ 1) (by decide) rfl (fun ls hl => ?_)
        refine lv_goto (tgt := 23) hx hb dX4_bestPair_157 (by decide) ?_
        have hbs : bpI t n nc tk i1 (bpG t n nc np tk i1) (i2 + 1) = if bpC t n nc tk (bpI t n nc tk i1 (bpG t n nc np tk i1) i2).1 i1 i2 then (jnV t n nc i1 i2, nI i1, nI i2) else bpI t n nc tk i1 (bpG t n nc np tk i1) i2 := rfl
        have e7 : bst (bpI t n nc tk i1 (bpG t n nc np tk i1) i2) = bst (bpI t n nc tk i1 (bpG t n nc np tk i1) (i2 + 1)) := by rw [hbs]; first | (rw [if_pos hbp, bst_pos (by omega) (by omega)]; done) | (rw [if_neg hbp]; done)
        have e8 : bsd (bpI t n nc tk i1 (bpG t n nc np tk i1) i2) = bsd (bpI t n nc tk i1 (bpG t n nc np tk i1) (i2 + 1)) := by rw [hbs]; first | (rw [if_pos hbp, bsd_pos (by omega)]; done) | (rw [if_neg hbp]; done)
        exact ih23 _ (by omega) ⟨lv_sub hl [2, 3, 4, 5, 6, 0] (by rw [← e7, ← e8]; rfl), trivial⟩
      · skip
        have h41 : ¬ hasB tk i1 := nh_0.mpr cq5
        refine lv_iload_n hx hb dX4_bestPair_44 rfl (lv_at hl 1 rfl) ?_
        refine lv_iload hx hb dX4_bestPair_45 (lv_at hl 5 rfl) ?_
        refine lv_ishr hx hb dX4_bestPair_47 ?_
        refine lv_iconst (v := 1) hx hb dX4_bestPair_48 (by decide) ?_
        refine lv_iand hx hb dX4_bestPair_49 ?_
        refine lv_if_ne (tgt := 57) hx hb dX4_bestPair_50 (by decide) (fun cq9 => ?_) (fun cq9 => ?_)
        · skip
          have hbp : ¬ bpC t n nc tk (bpI t n nc tk i1 (bpG t n nc np tk i1) i2).1 i1 i2 := fun q => q.2.2.2.1 (Decidable.of_not_not (fun z => cq9 (nh_0.mp z)))
          refine lv_iconst (v := 0) hx hb dX4_bestPair_57 (by decide) ?_
          refine lv_istore (lv' := [(6, .int 0), (0, .ref s0), (1, .int tk), (2, .int (bst (bpI t n nc tk i1 (bpG t n nc np tk i1) i2))), (3, .int (bsd (bpI t n nc tk i1 (bpG t n nc np tk i1) i2))), (4, .int (nI i1)), (5, .int (nI i2))]) hx hb dX4_bestPair_58 hl (by decide) rfl (fun ls hl => ?_)
          refine lv_iload hx hb dX4_bestPair_60 (lv_at hl 0 rfl) ?_
          refine lv_if_eq (tgt := 154) hx hb dX4_bestPair_62 (by decide) (fun cq10 => ?_) (fun cq10 => ?_)
          rotate_left
          · exact absurd cq10 (by decide)
          refine lv_iinc (v := nI (i2 + 1)) (lv' := [(5, .int (nI (i2 + 1))), (6, .int 0), (0, .ref s0), (1, .int tk), (2, .int (bst (bpI t n nc tk i1 (bpG t n nc np tk i1) i2))), (3, .int (bsd (bpI t n nc tk i1 (bpG t n nc np tk i1) i2))), (4, .int (nI i1))]) hx hb dX4_bestPair_154 hl (k := 6) rfl (by rw [show (nI i2 : Int32) = nI i2 from rfl]; exact nI_add _ 1) (by decide) rfl (fun ls hl => ?_)
          refine lv_goto (tgt := 23) hx hb dX4_bestPair_157 (by decide) ?_
          have hbs : bpI t n nc tk i1 (bpG t n nc np tk i1) (i2 + 1) = if bpC t n nc tk (bpI t n nc tk i1 (bpG t n nc np tk i1) i2).1 i1 i2 then (jnV t n nc i1 i2, nI i1, nI i2) else bpI t n nc tk i1 (bpG t n nc np tk i1) i2 := rfl
          have e11 : bst (bpI t n nc tk i1 (bpG t n nc np tk i1) i2) = bst (bpI t n nc tk i1 (bpG t n nc np tk i1) (i2 + 1)) := by rw [hbs]; first | (rw [if_pos hbp, bst_pos (by omega) (by omega)]; done) | (rw [if_neg hbp]; done)
          have e12 : bsd (bpI t n nc tk i1 (bpG t n nc np tk i1) i2) = bsd (bpI t n nc tk i1 (bpG t n nc np tk i1) (i2 + 1)) := by rw [hbs]; first | (rw [if_pos hbp, bsd_pos (by omega)]; done) | (rw [if_neg hbp]; done)
          exact ih23 _ (by omega) ⟨lv_sub hl [2, 3, 4, 5, 6, 0] (by rw [← e11, ← e12]; rfl), trivial⟩
        · skip
          have h50 : ¬ hasB tk i2 := nh_0.mpr cq9
          refine lv_iconst (v := 1) hx hb dX4_bestPair_53 (by decide) ?_
          refine lv_goto (tgt := 58) hx hb dX4_bestPair_54 (by decide) ?_
          refine lv_istore (lv' := [(6, .int 1), (0, .ref s0), (1, .int tk), (2, .int (bst (bpI t n nc tk i1 (bpG t n nc np tk i1) i2))), (3, .int (bsd (bpI t n nc tk i1 (bpG t n nc np tk i1) i2))), (4, .int (nI i1)), (5, .int (nI i2))]) hx hb dX4_bestPair_58 hl (by decide) rfl (fun ls hl => ?_)
          refine lv_iload hx hb dX4_bestPair_60 (lv_at hl 0 rfl) ?_
          refine lv_if_eq (tgt := 154) hx hb dX4_bestPair_62 (by decide) (fun cq13 => ?_) (fun cq13 => ?_)
          · exact absurd cq13 (by decide)
          refine lv_aload_n hx hb dX4_bestPair_65 rfl (lv_at hl 1 rfl) ?_
          refine va_get (D := G.1) (ci := 7) (v := .ref b0) (C := RX7) (T := TX7) (N := 7) hx hb hts k2 hown hK hP 0 rfl rfl 0 (by decide) k1 (fun _ h9 => h9) rfl dX4_bestPair_66 ?_
          refine lv_iload hx hb dX4_bestPair_69 (lv_at hl 5 rfl) ?_
          refine cR_V (Cn := RX8) (n := 1) (As := [.int (nI i1)]) (rest := []) C (c_X8_isGirl l G b0 b1 b2 b3 t nc np (nI i1) hT) gX4_bestPair_X8_isGirl rfl ⟨rfl, rfl⟩ hd_X8_isGirl ⟨(Nat.le_of_ble_eq_true rfl), (Nat.le_of_ble_eq_true rfl)⟩ hK (hP.sub [5, 6, 7, 8] rfl) (va_recv hK hP (ci := 8) (q0 := 5) rfl rfl) rfl hl.1 rfl (Nat.le_of_ble_eq_true rfl) dX4_bestPair_71 ⟨(Nat.le_of_ble_eq_true rfl), (Nat.le_of_ble_eq_true rfl)⟩ ?_
          refine b_if_eq (tgt := 154) hx hb dX4_bestPair_74 (by decide) (fun cq14 => ?_) (fun cq14 => ?_)
          · skip
            have hbp : ¬ bpC t n nc tk (bpI t n nc tk i1 (bpG t n nc np tk i1) i2).1 i1 i2 := fun q => cq14 q.1
            refine lv_iinc (v := nI (i2 + 1)) (lv' := [(5, .int (nI (i2 + 1))), (6, .int 1), (0, .ref s0), (1, .int tk), (2, .int (bst (bpI t n nc tk i1 (bpG t n nc np tk i1) i2))), (3, .int (bsd (bpI t n nc tk i1 (bpG t n nc np tk i1) i2))), (4, .int (nI i1))]) hx hb dX4_bestPair_154 hl (k := 6) rfl (by rw [show (nI i2 : Int32) = nI i2 from rfl]; exact nI_add _ 1) (by decide) rfl (fun ls hl => ?_)
            refine lv_goto (tgt := 23) hx hb dX4_bestPair_157 (by decide) ?_
            have hbs : bpI t n nc tk i1 (bpG t n nc np tk i1) (i2 + 1) = if bpC t n nc tk (bpI t n nc tk i1 (bpG t n nc np tk i1) i2).1 i1 i2 then (jnV t n nc i1 i2, nI i1, nI i2) else bpI t n nc tk i1 (bpG t n nc np tk i1) i2 := rfl
            have e15 : bst (bpI t n nc tk i1 (bpG t n nc np tk i1) i2) = bst (bpI t n nc tk i1 (bpG t n nc np tk i1) (i2 + 1)) := by rw [hbs]; first | (rw [if_pos hbp, bst_pos (by omega) (by omega)]; done) | (rw [if_neg hbp]; done)
            have e16 : bsd (bpI t n nc tk i1 (bpG t n nc np tk i1) i2) = bsd (bpI t n nc tk i1 (bpG t n nc np tk i1) (i2 + 1)) := by rw [hbs]; first | (rw [if_pos hbp, bsd_pos (by omega)]; done) | (rw [if_neg hbp]; done)
            exact ih23 _ (by omega) ⟨lv_sub hl [2, 3, 4, 5, 6, 0] (by rw [← e15, ← e16]; rfl), trivial⟩
          · skip
            have h74 := cq14
            refine lv_aload_n hx hb dX4_bestPair_77 rfl (lv_at hl 1 rfl) ?_
            refine va_get (D := G.1) (ci := 7) (v := .ref b0) (C := RX7) (T := TX7) (N := 7) hx hb hts k2 hown hK hP 0 rfl rfl 0 (by decide) k1 (fun _ h9 => h9) rfl dX4_bestPair_78 ?_
            refine lv_iload hx hb dX4_bestPair_81 (lv_at hl 6 rfl) ?_
            refine cR_V (Cn := RX8) (n := 1) (As := [.int (nI i2)]) (rest := []) C (c_X8_isMan l G b0 b1 b2 b3 t nc np (nI i2) hT) gX4_bestPair_X8_isMan rfl ⟨rfl, rfl⟩ hd_X8_isMan ⟨(Nat.le_of_ble_eq_true rfl), (Nat.le_of_ble_eq_true rfl)⟩ hK (hP.sub [5, 6, 7, 8] rfl) (va_recv hK hP (ci := 8) (q0 := 5) rfl rfl) rfl hl.1 rfl (Nat.le_of_ble_eq_true rfl) dX4_bestPair_83 ⟨(Nat.le_of_ble_eq_true rfl), (Nat.le_of_ble_eq_true rfl)⟩ ?_
            refine b_if_ne (tgt := 92) hx hb dX4_bestPair_86 (by decide) (fun cq17 => ?_) (fun cq17 => ?_)
            · skip
              have h86 := cq17
              have hgm : i1 ≠ i2 := fun q => h86.2 (by rw [← q]; exact h74.2)
              refine lv_aload_n hx hb dX4_bestPair_92 rfl (lv_at hl 1 rfl) ?_
              refine lv_iload hx hb dX4_bestPair_93 (lv_at hl 5 rfl) ?_
              refine lv_iload hx hb dX4_bestPair_95 (lv_at hl 6 rfl) ?_
              refine cR_V (Cn := RX7) (n := 2) (As := [.int (nI i1), .int (nI i2)]) (rest := []) C (c_X7_standingJoined l G s0 s1 s2 s3 s4 b0 b1 b2 b3 t n nc np i1 i2 hT (by omega) (by omega) hgm) gX4_bestPair_X7_standingJoined rfl ⟨rfl, rfl⟩ hd_X7_standingJoined ⟨(Nat.le_of_ble_eq_true rfl), (Nat.le_of_ble_eq_true rfl)⟩ hK hP (va_recv hK hP (ci := 7) (q0 := 0) rfl rfl) rfl hl.1 rfl (Nat.le_of_ble_eq_true rfl) dX4_bestPair_97 ⟨(Nat.le_of_ble_eq_true rfl), (Nat.le_of_ble_eq_true rfl)⟩ ?_
              refine lv_istore (lv' := [(7, .int (jnV t n nc i1 i2)), (6, .int 1), (0, .ref s0), (1, .int tk), (2, .int (bst (bpI t n nc tk i1 (bpG t n nc np tk i1) i2))), (3, .int (bsd (bpI t n nc tk i1 (bpG t n nc np tk i1) i2))), (4, .int (nI i1)), (5, .int (nI i2))]) hx hb dX4_bestPair_100 hl (by decide) rfl (fun ls hl => ?_)
              refine lv_iload hx hb dX4_bestPair_102 (lv_at hl 0 rfl) ?_
              refine lv_aload_n hx hb dX4_bestPair_104 rfl (lv_at hl 2 rfl) ?_
              refine lv_iload hx hb dX4_bestPair_105 (lv_at hl 6 rfl) ?_
              refine cR_V (Cn := RX7) (n := 1) (As := [.int (nI i1)]) (rest := [.int (jnV t n nc i1 i2)]) C (c_X7_standingOf l G s0 s1 s2 s3 s4 b0 b1 b2 b3 t n nc np i1 hT (by omega)) gX4_bestPair_X7_standingOf rfl ⟨rfl, rfl⟩ hd_X7_standingOf ⟨(Nat.le_of_ble_eq_true rfl), (Nat.le_of_ble_eq_true rfl)⟩ hK hP (va_recv hK hP (ci := 7) (q0 := 0) rfl rfl) rfl hl.1 rfl (Nat.le_of_ble_eq_true rfl) dX4_bestPair_107 ⟨(Nat.le_of_ble_eq_true rfl), (Nat.le_of_ble_eq_true rfl)⟩ ?_
              refine lv_icmp_le (tgt := 128) hx hb dX4_bestPair_110 (by decide) (fun cq18 => ?_) (fun cq18 => ?_)
              · skip
                have hbp : ¬ bpC t n nc tk (bpI t n nc tk i1 (bpG t n nc np tk i1) i2).1 i1 i2 := fun q => i32_nlt.mpr cq18 q.2.2.2.2.1
                refine lv_iconst (v := 0) hx hb dX4_bestPair_128 (by decide) ?_
                refine lv_istore (lv' := [(8, .int 0), (7, .int (jnV t n nc i1 i2)), (6, .int 1), (0, .ref s0), (1, .int tk), (2, .int (bst (bpI t n nc tk i1 (bpG t n nc np tk i1) i2))), (3, .int (bsd (bpI t n nc tk i1 (bpG t n nc np tk i1) i2))), (4, .int (nI i1)), (5, .int (nI i2))]) hx hb dX4_bestPair_129 hl (by decide) rfl (fun ls hl => ?_)
                refine lv_iload hx hb dX4_bestPair_131 (lv_at hl 0 rfl) ?_
                refine lv_if_eq (tgt := 154) hx hb dX4_bestPair_133 (by decide) (fun cq19 => ?_) (fun cq19 => ?_)
                rotate_left
                · exact absurd cq19 (by decide)
                refine lv_iinc (v := nI (i2 + 1)) (lv' := [(5, .int (nI (i2 + 1))), (8, .int 0), (7, .int (jnV t n nc i1 i2)), (6, .int 1), (0, .ref s0), (1, .int tk), (2, .int (bst (bpI t n nc tk i1 (bpG t n nc np tk i1) i2))), (3, .int (bsd (bpI t n nc tk i1 (bpG t n nc np tk i1) i2))), (4, .int (nI i1))]) hx hb dX4_bestPair_154 hl (k := 8) rfl (by rw [show (nI i2 : Int32) = nI i2 from rfl]; exact nI_add _ 1) (by decide) rfl (fun ls hl => ?_)
                refine lv_goto (tgt := 23) hx hb dX4_bestPair_157 (by decide) ?_
                have hbs : bpI t n nc tk i1 (bpG t n nc np tk i1) (i2 + 1) = if bpC t n nc tk (bpI t n nc tk i1 (bpG t n nc np tk i1) i2).1 i1 i2 then (jnV t n nc i1 i2, nI i1, nI i2) else bpI t n nc tk i1 (bpG t n nc np tk i1) i2 := rfl
                have e20 : bst (bpI t n nc tk i1 (bpG t n nc np tk i1) i2) = bst (bpI t n nc tk i1 (bpG t n nc np tk i1) (i2 + 1)) := by rw [hbs]; first | (rw [if_pos hbp, bst_pos (by omega) (by omega)]; done) | (rw [if_neg hbp]; done)
                have e21 : bsd (bpI t n nc tk i1 (bpG t n nc np tk i1) i2) = bsd (bpI t n nc tk i1 (bpG t n nc np tk i1) (i2 + 1)) := by rw [hbs]; first | (rw [if_pos hbp, bsd_pos (by omega)]; done) | (rw [if_neg hbp]; done)
                exact ih23 _ (by omega) ⟨lv_sub hl [4, 5, 6, 7, 8, 0] (by rw [← e20, ← e21]; rfl), trivial⟩
              · skip
                have h110 := i32_nle.mp cq18
                refine lv_iload hx hb dX4_bestPair_113 (lv_at hl 0 rfl) ?_
                refine lv_aload_n hx hb dX4_bestPair_115 rfl (lv_at hl 2 rfl) ?_
                refine lv_iload hx hb dX4_bestPair_116 (lv_at hl 7 rfl) ?_
                refine cR_V (Cn := RX7) (n := 1) (As := [.int (nI i2)]) (rest := [.int (jnV t n nc i1 i2)]) C (c_X7_standingOf l G s0 s1 s2 s3 s4 b0 b1 b2 b3 t n nc np i2 hT (by omega)) gX4_bestPair_X7_standingOf rfl ⟨rfl, rfl⟩ hd_X7_standingOf ⟨(Nat.le_of_ble_eq_true rfl), (Nat.le_of_ble_eq_true rfl)⟩ hK hP (va_recv hK hP (ci := 7) (q0 := 0) rfl rfl) rfl hl.1 rfl (Nat.le_of_ble_eq_true rfl) dX4_bestPair_118 ⟨(Nat.le_of_ble_eq_true rfl), (Nat.le_of_ble_eq_true rfl)⟩ ?_
                refine lv_icmp_le (tgt := 128) hx hb dX4_bestPair_121 (by decide) (fun cq22 => ?_) (fun cq22 => ?_)
                · skip
                  have hbp : ¬ bpC t n nc tk (bpI t n nc tk i1 (bpG t n nc np tk i1) i2).1 i1 i2 := fun q => i32_nlt.mpr cq22 q.2.2.2.2.2.1
                  refine lv_iconst (v := 0) hx hb dX4_bestPair_128 (by decide) ?_
                  refine lv_istore (lv' := [(8, .int 0), (7, .int (jnV t n nc i1 i2)), (6, .int 1), (0, .ref s0), (1, .int tk), (2, .int (bst (bpI t n nc tk i1 (bpG t n nc np tk i1) i2))), (3, .int (bsd (bpI t n nc tk i1 (bpG t n nc np tk i1) i2))), (4, .int (nI i1)), (5, .int (nI i2))]) hx hb dX4_bestPair_129 hl (by decide) rfl (fun ls hl => ?_)
                  refine lv_iload hx hb dX4_bestPair_131 (lv_at hl 0 rfl) ?_
                  refine lv_if_eq (tgt := 154) hx hb dX4_bestPair_133 (by decide) (fun cq23 => ?_) (fun cq23 => ?_)
                  rotate_left
                  · exact absurd cq23 (by decide)
                  refine lv_iinc (v := nI (i2 + 1)) (lv' := [(5, .int (nI (i2 + 1))), (8, .int 0), (7, .int (jnV t n nc i1 i2)), (6, .int 1), (0, .ref s0), (1, .int tk), (2, .int (bst (bpI t n nc tk i1 (bpG t n nc np tk i1) i2))), (3, .int (bsd (bpI t n nc tk i1 (bpG t n nc np tk i1) i2))), (4, .int (nI i1))]) hx hb dX4_bestPair_154 hl (k := 8) rfl (by rw [show (nI i2 : Int32) = nI i2 from rfl]; exact nI_add _ 1) (by decide) rfl (fun ls hl => ?_)
                  refine lv_goto (tgt := 23) hx hb dX4_bestPair_157 (by decide) ?_
                  have hbs : bpI t n nc tk i1 (bpG t n nc np tk i1) (i2 + 1) = if bpC t n nc tk (bpI t n nc tk i1 (bpG t n nc np tk i1) i2).1 i1 i2 then (jnV t n nc i1 i2, nI i1, nI i2) else bpI t n nc tk i1 (bpG t n nc np tk i1) i2 := rfl
                  have e24 : bst (bpI t n nc tk i1 (bpG t n nc np tk i1) i2) = bst (bpI t n nc tk i1 (bpG t n nc np tk i1) (i2 + 1)) := by rw [hbs]; first | (rw [if_pos hbp, bst_pos (by omega) (by omega)]; done) | (rw [if_neg hbp]; done)
                  have e25 : bsd (bpI t n nc tk i1 (bpG t n nc np tk i1) i2) = bsd (bpI t n nc tk i1 (bpG t n nc np tk i1) (i2 + 1)) := by rw [hbs]; first | (rw [if_pos hbp, bsd_pos (by omega)]; done) | (rw [if_neg hbp]; done)
                  exact ih23 _ (by omega) ⟨lv_sub hl [4, 5, 6, 7, 8, 0] (by rw [← e24, ← e25]; rfl), trivial⟩
                · skip
                  have h121 := i32_nle.mp cq22
                  refine lv_iconst (v := 1) hx hb dX4_bestPair_124 (by decide) ?_
                  refine lv_goto (tgt := 129) hx hb dX4_bestPair_125 (by decide) ?_
                  refine lv_istore (lv' := [(8, .int 1), (7, .int (jnV t n nc i1 i2)), (6, .int 1), (0, .ref s0), (1, .int tk), (2, .int (bst (bpI t n nc tk i1 (bpG t n nc np tk i1) i2))), (3, .int (bsd (bpI t n nc tk i1 (bpG t n nc np tk i1) i2))), (4, .int (nI i1)), (5, .int (nI i2))]) hx hb dX4_bestPair_129 hl (by decide) rfl (fun ls hl => ?_)
                  refine lv_iload hx hb dX4_bestPair_131 (lv_at hl 0 rfl) ?_
                  refine lv_if_eq (tgt := 154) hx hb dX4_bestPair_133 (by decide) (fun cq26 => ?_) (fun cq26 => ?_)
                  · exact absurd cq26 (by decide)
                  refine lv_iload hx hb dX4_bestPair_136 (lv_at hl 1 rfl) ?_
                  refine lv_iload_n hx hb dX4_bestPair_138 rfl (lv_at hl 6 rfl) ?_
                  refine lv_icmp_le (tgt := 154) hx hb dX4_bestPair_139 (by decide) (fun cq27 => ?_) (fun cq27 => ?_)
                  · skip
                    have hbp : ¬ bpC t n nc tk (bpI t n nc tk i1 (bpG t n nc np tk i1) i2).1 i1 i2 := fun q => i32_nlt.mpr cq27 ((bsd_lt hT2.1 hG (bpI_z (by omega) (bpG_z i1 (by omega)) i2)).mpr q.2.2.2.2.2.2)
                    refine lv_iinc (v := nI (i2 + 1)) (lv' := [(5, .int (nI (i2 + 1))), (8, .int 1), (7, .int (jnV t n nc i1 i2)), (6, .int 1), (0, .ref s0), (1, .int tk), (2, .int (bst (bpI t n nc tk i1 (bpG t n nc np tk i1) i2))), (3, .int (bsd (bpI t n nc tk i1 (bpG t n nc np tk i1) i2))), (4, .int (nI i1))]) hx hb dX4_bestPair_154 hl (k := 8) rfl (by rw [show (nI i2 : Int32) = nI i2 from rfl]; exact nI_add _ 1) (by decide) rfl (fun ls hl => ?_)
                    refine lv_goto (tgt := 23) hx hb dX4_bestPair_157 (by decide) ?_
                    have hbs : bpI t n nc tk i1 (bpG t n nc np tk i1) (i2 + 1) = if bpC t n nc tk (bpI t n nc tk i1 (bpG t n nc np tk i1) i2).1 i1 i2 then (jnV t n nc i1 i2, nI i1, nI i2) else bpI t n nc tk i1 (bpG t n nc np tk i1) i2 := rfl
                    have e28 : bst (bpI t n nc tk i1 (bpG t n nc np tk i1) i2) = bst (bpI t n nc tk i1 (bpG t n nc np tk i1) (i2 + 1)) := by rw [hbs]; first | (rw [if_pos hbp, bst_pos (by omega) (by omega)]; done) | (rw [if_neg hbp]; done)
                    have e29 : bsd (bpI t n nc tk i1 (bpG t n nc np tk i1) i2) = bsd (bpI t n nc tk i1 (bpG t n nc np tk i1) (i2 + 1)) := by rw [hbs]; first | (rw [if_pos hbp, bsd_pos (by omega)]; done) | (rw [if_neg hbp]; done)
                    exact ih23 _ (by omega) ⟨lv_sub hl [4, 5, 6, 7, 8, 0] (by rw [← e28, ← e29]; rfl), trivial⟩
                  · skip
                    have hbp : bpC t n nc tk (bpI t n nc tk i1 (bpG t n nc np tk i1) i2).1 i1 i2 := ⟨h74, h86, h41, h50, h110, h121, (bsd_lt hT2.1 hG (bpI_z (by omega) (bpG_z i1 (by omega)) i2)).mp (i32_nle.mp cq27)⟩
                    refine lv_iload hx hb dX4_bestPair_142 (lv_at hl 7 rfl) ?_
                    refine lv_bipush (v := 8) hx hb dX4_bestPair_144 (by decide) ?_
                    refine n_imul hx hb dX4_bestPair_146 (u := i1) (v := 8) rfl rfl (j := i1 * 8) (by omega) ?_
                    refine lv_iload hx hb dX4_bestPair_147 (lv_at hl 8 rfl) ?_
                    refine n_iadd hx hb dX4_bestPair_149 (u := i1 * 8) (v := i2) rfl rfl (j := (i1 * 8) + i2) (by omega) ?_
                    refine lv_istore_n (lv' := [(2, .int (nI ((i1 * 8) + i2))), (8, .int 1), (7, .int (jnV t n nc i1 i2)), (6, .int 1), (0, .ref s0), (1, .int tk), (3, .int (bsd (bpI t n nc tk i1 (bpG t n nc np tk i1) i2))), (4, .int (nI i1)), (5, .int (nI i2))]) hx hb dX4_bestPair_150 rfl hl (by decide) rfl (fun ls hl => ?_)
                    refine lv_iload hx hb dX4_bestPair_151 (lv_at hl 2 rfl) ?_
                    refine lv_istore_n (lv' := [(3, .int (jnV t n nc i1 i2)), (2, .int (nI ((i1 * 8) + i2))), (8, .int 1), (7, .int (jnV t n nc i1 i2)), (6, .int 1), (0, .ref s0), (1, .int tk), (4, .int (nI i1)), (5, .int (nI i2))]) hx hb dX4_bestPair_153 rfl hl (by decide) rfl (fun ls hl => ?_)
                    refine lv_iinc (v := nI (i2 + 1)) (lv' := [(5, .int (nI (i2 + 1))), (3, .int (jnV t n nc i1 i2)), (2, .int (nI ((i1 * 8) + i2))), (8, .int 1), (7, .int (jnV t n nc i1 i2)), (6, .int 1), (0, .ref s0), (1, .int tk), (4, .int (nI i1))]) hx hb dX4_bestPair_154 hl (k := 8) rfl (by rw [show (nI i2 : Int32) = nI i2 from rfl]; exact nI_add _ 1) (by decide) rfl (fun ls hl => ?_)
                    refine lv_goto (tgt := 23) hx hb dX4_bestPair_157 (by decide) ?_
                    have hbs : bpI t n nc tk i1 (bpG t n nc np tk i1) (i2 + 1) = if bpC t n nc tk (bpI t n nc tk i1 (bpG t n nc np tk i1) i2).1 i1 i2 then (jnV t n nc i1 i2, nI i1, nI i2) else bpI t n nc tk i1 (bpG t n nc np tk i1) i2 := rfl
                    have e30 : nI ((i1 * 8) + i2) = bst (bpI t n nc tk i1 (bpG t n nc np tk i1) (i2 + 1)) := by rw [hbs]; first | (rw [if_pos hbp, bst_pos (by omega) (by omega)]; done) | (rw [if_neg hbp]; done)
                    have e31 : jnV t n nc i1 i2 = bsd (bpI t n nc tk i1 (bpG t n nc np tk i1) (i2 + 1)) := by rw [hbs]; first | (rw [if_pos hbp, bsd_pos (by omega)]; done) | (rw [if_neg hbp]; done)
                    exact ih23 _ (by omega) ⟨lv_sub hl [6, 7, 2, 1, 8, 0] (by rw [← e30, ← e31]; rfl), trivial⟩
            · skip
              have hbp : ¬ bpC t n nc tk (bpI t n nc tk i1 (bpG t n nc np tk i1) i2).1 i1 i2 := fun q => cq17 q.2.1
              refine lv_goto (tgt := 154) hx hb dX4_bestPair_89 (by decide) ?_
              refine lv_iinc (v := nI (i2 + 1)) (lv' := [(5, .int (nI (i2 + 1))), (6, .int 1), (0, .ref s0), (1, .int tk), (2, .int (bst (bpI t n nc tk i1 (bpG t n nc np tk i1) i2))), (3, .int (bsd (bpI t n nc tk i1 (bpG t n nc np tk i1) i2))), (4, .int (nI i1))]) hx hb dX4_bestPair_154 hl (k := 6) rfl (by rw [show (nI i2 : Int32) = nI i2 from rfl]; exact nI_add _ 1) (by decide) rfl (fun ls hl => ?_)
              refine lv_goto (tgt := 23) hx hb dX4_bestPair_157 (by decide) ?_
              have hbs : bpI t n nc tk i1 (bpG t n nc np tk i1) (i2 + 1) = if bpC t n nc tk (bpI t n nc tk i1 (bpG t n nc np tk i1) i2).1 i1 i2 then (jnV t n nc i1 i2, nI i1, nI i2) else bpI t n nc tk i1 (bpG t n nc np tk i1) i2 := rfl
              have e32 : bst (bpI t n nc tk i1 (bpG t n nc np tk i1) i2) = bst (bpI t n nc tk i1 (bpG t n nc np tk i1) (i2 + 1)) := by rw [hbs]; first | (rw [if_pos hbp, bst_pos (by omega) (by omega)]; done) | (rw [if_neg hbp]; done)
              have e33 : bsd (bpI t n nc tk i1 (bpG t n nc np tk i1) i2) = bsd (bpI t n nc tk i1 (bpG t n nc np tk i1) (i2 + 1)) := by rw [hbs]; first | (rw [if_pos hbp, bsd_pos (by omega)]; done) | (rw [if_neg hbp]; done)
              exact ih23 _ (by omega) ⟨lv_sub hl [2, 3, 4, 5, 6, 0] (by rw [← e32, ← e33]; rfl), trivial⟩
theorem hd_X4_pairAll : yX4_pairAll.cls = RX4 ∧ yX4_pairAll.cls ≠ "java/lang/invoke/MethodHandle" ∧ yX4_pairAll.cls ≠ "java/lang/invoke/VarHandle" ∧ (parseMethodDescriptor yX4_pairAll.desc).map (fun d => d.parameters.length) = some 1 := by decide +kernel
set_option maxRecDepth 100000 in
set_option maxHeartbeats 4000000 in
theorem c_X4_pairAll (l : Launch) (G : gG) (w0 : Nat) (w1 : Nat) (s0 : Nat) (s1 : Nat) (s2 : Nat) (s3 : Nat) (s4 : Nat) (b0 : Nat) (b1 : Nat) (b2 : Nat) (b3 : Nat) (mo : Nat → Int32) (t : Nat → Int32) (n : Nat → Int32) (nc : Nat) (np : Nat) (hT : tw t nc np) (hO : okS t n nc np) (hG : okG t nc) (hnp : t 0 = 1) : mX l yX4_pairAll wsX4_pairAll ({ frames := 5, cells := 0, slots := 0, locals := 117 }) G (msW G w0 w1 s0 s1 s2 s3 s4 b0 b1 b2 b3 mo t n) (msW G w0 w1 s0 s1 s2 s3 s4 b0 b1 b2 b3 (mkM t n nc np (upto mo (fun _ => -1) 8) (mkN t n nc np 8 0)) t n) [.ref w0, .ref s0] (.returned (some (.int (nI (mkN t n nc np 8 0))))) := by
  refine mX.of (cc := cX4_pairAll) (maxL := 7) (ret := (some .int)) (by decide) rfl (Nat.le_of_ble_eq_true rfl) ?_
  intro zp ze zs zm zb zt zc ls A hAe C hP hK hD hS hl
  obtain ⟨hx, hb, hr, hml, hown, hts, hlk⟩ := id C
  have hl : lv_has ls 7 [(0, .ref w0), (1, .ref s0)] := hl
  have hT2 := hT.2.2
  have k0 := hts (.fieldLink RX4 9 "DebtDowry$Matcher" "manOf" "[I") (by decide +kernel)
  have k1 := (fun w h => by revert w; decide +kernel : ∀ w ∈ wsX40, w ∈ wsX4_pairAll)
  refine lv_iconst (v := 0) hx hb dX4_pairAll_0 (by decide) ?_
  refine lv_istore_n (lv' := [(2, .int 0), (0, .ref w0), (1, .ref s0)]) hx hb dX4_pairAll_1 rfl hl (by decide) rfl (fun ls hl => ?_)
  refine wl_X (B := 8) (i0 := 0) (Inv := fun i1 H locs ls => va_P G.1 vwCl (msW G w0 w1 s0 s1 s2 s3 s4 b0 b1 b2 b3 (upto mo (fun _ => -1) i1) t n) H ∧ va_D A (msW G w0 w1 s0 s1 s2 s3 s4 b0 b1 b2 b3 (upto mo (fun _ => -1) i1) t n) ∧ va_S A zs.heap H locs ∧ lv_has ls 7 [(0, .ref w0), (1, .ref s0), (2, .int (nI i1))] ∧ True) (by omega) ⟨by rw [upto_0]; exact hP, by rw [upto_0]; exact hD, hS, lv_sub hl [1, 2, 0] (rfl), trivial⟩ ?_
  rintro i1 H locs ls hle2 ⟨hP, hD, hS, hl, -⟩ ih2
  refine lv_iload_n hx hb dX4_pairAll_2 rfl (lv_at hl 2 rfl) ?_
  refine lv_bipush (v := 8) hx hb dX4_pairAll_3 (by decide) ?_
  refine n_icmp_ge (tgt := 21) hx hb dX4_pairAll_5 (by decide) (u := i1) (v := 8) rfl rfl (by omega) (by omega) (fun cq1 => ?_) (fun cq1 => ?_)
  · skip
    obtain rfl : i1 = 8 := by omega
    refine lv_aload_n hx hb dX4_pairAll_21 rfl (lv_at hl 1 rfl) ?_
    refine cR_V (Cn := RX7) (n := 0) (As := []) (rest := []) C (c_X7_wedSet l G s0 s1 s2 s3 s4 b0 b1 b2 b3 t n nc np  hT) gX4_pairAll_X7_wedSet rfl ⟨rfl, rfl⟩ hd_X7_wedSet ⟨(Nat.le_of_ble_eq_true rfl), (Nat.le_of_ble_eq_true rfl)⟩ hK (hP.sub [2, 3, 4, 5, 6, 7, 8, 9, 10] rfl) (va_recv hK hP (ci := 7) (q0 := 2) rfl rfl) rfl hl.1 rfl (Nat.le_of_ble_eq_true rfl) dX4_pairAll_22 ⟨(Nat.le_of_ble_eq_true rfl), (Nat.le_of_ble_eq_true rfl)⟩ ?_
    refine lv_istore_n (lv' := [(2, .int (wedS n np)), (0, .ref w0), (1, .ref s0)]) hx hb dX4_pairAll_25 rfl hl (by decide) rfl (fun ls hl => ?_)
    refine lv_iconst (v := 0) hx hb dX4_pairAll_26 (by decide) ?_
    refine lv_istore_n (lv' := [(3, .int 0), (2, .int (wedS n np)), (0, .ref w0), (1, .ref s0)]) hx hb dX4_pairAll_27 rfl hl (by decide) rfl (fun ls hl => ?_)
    have hws : wedS n np = mkT t n nc np 0 := (wedS_8 hO hT2.2 hnp).symm
    rw [hws] at hl
    refine wl_X (B := 8) (i0 := 0) (Inv := fun i2 H locs ls => va_P G.1 vwCl (msW G w0 w1 s0 s1 s2 s3 s4 b0 b1 b2 b3 (mkM t n nc np (upto mo (fun _ => -1) 8) i2) t n) H ∧ va_D A (msW G w0 w1 s0 s1 s2 s3 s4 b0 b1 b2 b3 (mkM t n nc np (upto mo (fun _ => -1) 8) i2) t n) ∧ va_S A zs.heap H locs ∧ lv_has ls 7 [(0, .ref w0), (1, .ref s0), (2, .int (mkT t n nc np i2)), (3, .int (nI i2))] ∧ mkN t n nc np 8 0 = mkN t n nc np (8 - i2) i2) (by omega) ⟨hP, hD, hS, lv_sub hl [2, 3, 1, 0] (rfl), (rfl)⟩ ?_
    rintro i2 H locs ls hle28 ⟨hP, hD, hS, hl, hR⟩ ih28
    refine lv_iload_n hx hb dX4_pairAll_28 rfl (lv_at hl 3 rfl) ?_
    refine lv_bipush (v := 8) hx hb dX4_pairAll_29 (by decide) ?_
    refine n_icmp_ge (tgt := 90) hx hb dX4_pairAll_31 (by decide) (u := i2) (v := 8) rfl rfl (by omega) (by omega) (fun cq2 => ?_) (fun cq2 => ?_)
    · skip
      have hR9 : mkN t n nc np 8 0 = i2 := by rw [hR, show 8 - i2 = 0 by omega]; rfl
      have hi28 : i2 = 8 := by omega
      refine lv_bipush (v := 8) hx hb dX4_pairAll_90 (by decide) ?_
      have hP : va_P G.1 vwCl (msW G w0 w1 s0 s1 s2 s3 s4 b0 b1 b2 b3 (mkM t n nc np (upto mo (fun _ => -1) 8) (mkN t n nc np 8 0)) t n) H := by rw [show (mkM t n nc np (upto mo (fun _ => -1) 8) (mkN t n nc np 8 0)) = (mkM t n nc np (upto mo (fun _ => -1) 8) i2) from by rw [hR9]]; exact hP
      exact mX_iret hAe C hP hS dX4_pairAll_92 (by rw [hR9, hi28]; rfl)
    · skip
      refine lv_aload_n hx hb dX4_pairAll_34 rfl (lv_at hl 1 rfl) ?_
      refine lv_iload_n hx hb dX4_pairAll_35 rfl (lv_at hl 2 rfl) ?_
      refine cR_S (n := 2) (As := [.ref s0, .int (mkT t n nc np i2)]) (rest := []) C (c_X4_bestPair l G s0 s1 s2 s3 s4 b0 b1 b2 b3 t n nc np (mkT t n nc np i2) hT hG) gX4_pairAll_X4_bestPair rfl ⟨rfl, rfl⟩ hd_X4_bestPair ⟨(Nat.le_of_ble_eq_true rfl), (Nat.le_of_ble_eq_true rfl)⟩ hK (hP.sub [2, 3, 4, 5, 6, 7, 8, 9, 10] rfl) rfl hl.1 rfl (Nat.le_of_ble_eq_true rfl) dX4_pairAll_36 ⟨(Nat.le_of_ble_eq_true rfl), (Nat.le_of_ble_eq_true rfl)⟩ ?_
      refine lv_istore (lv' := [(4, .int (bst (bpR t n nc np (mkT t n nc np i2)))), (0, .ref w0), (1, .ref s0), (2, .int (mkT t n nc np i2)), (3, .int (nI i2))]) hx hb dX4_pairAll_39 hl (by decide) rfl (fun ls hl => ?_)
      refine lv_iload hx hb dX4_pairAll_41 (lv_at hl 0 rfl) ?_
      refine lv_iconst (v := (-1)) hx hb dX4_pairAll_43 (by decide) ?_
      refine lv_icmp_ne (tgt := 49) hx hb dX4_pairAll_44 (by decide) (fun cq3 => ?_) (fun cq3 => ?_)
      · skip
        have hn1 : ¬ (bpR t n nc np (mkT t n nc np i2)).2.1 = -1 := fun q => cq3 (by unfold bst; rw [if_pos q])
        obtain ⟨gg, mm, hgg, hmm, hge, hme, hfg, hfm⟩ := (bpG_ok (t := t) (n := n) (nc := nc) (tk := mkT t n nc np i2) np (Nat.le_refl _)).resolve_left hn1
        have hge : (bpR t n nc np (mkT t n nc np i2)).2.1 = nI gg := hge
        have hme : (bpR t n nc np (mkT t n nc np i2)).2.2 = nI mm := hme
        have hpe : bst (bpR t n nc np (mkT t n nc np i2)) = nI (gg * 8 + mm) := by unfold bst; rw [if_neg hn1, hge, hme, cl_nI (by omega), cl_nI (by omega)]
        have hcg : cl (bpR t n nc np (mkT t n nc np i2)).2.1 = gg := by rw [hge]; exact cl_nI (by omega)
        have hT3 : mkT t n nc np i2 ||| ((1 <<< (nI gg &&& 31)) ||| (1 <<< (nI mm &&& 31))) = mkT t n nc np (i2 + 1) := by rw [← hge, ← hme]; rfl
        have hM3 : upd (mkM t n nc np (upto mo (fun _ => -1) 8) i2) gg (nI mm) = mkM t n nc np (upto mo (fun _ => -1) 8) (i2 + 1) := by rw [← hcg, ← hme]; rfl
        have hR2 : mkN t n nc np 8 0 = mkN t n nc np (8 - (i2 + 1)) (i2 + 1) := by rw [hR, show 8 - i2 = (8 - (i2 + 1)) + 1 by omega]; exact mkN_st hn1
        refine lv_iload hx hb dX4_pairAll_49 (lv_at hl 0 rfl) ?_
        refine lv_bipush (v := 8) hx hb dX4_pairAll_51 (by decide) ?_
        refine n_idiv hx hb dX4_pairAll_53 (u := gg * 8 + mm) (v := 8) hpe rfl (by omega) (by omega) (by omega) ?_
        rw [show (gg * 8 + mm) / 8 = gg by omega]
        refine lv_istore (lv' := [(5, .int (nI gg)), (4, .int (bst (bpR t n nc np (mkT t n nc np i2)))), (0, .ref w0), (1, .ref s0), (2, .int (mkT t n nc np i2)), (3, .int (nI i2))]) hx hb dX4_pairAll_54 hl (by decide) rfl (fun ls hl => ?_)
        refine lv_iload hx hb dX4_pairAll_56 (lv_at hl 1 rfl) ?_
        refine lv_bipush (v := 8) hx hb dX4_pairAll_58 (by decide) ?_
        refine n_irem hx hb dX4_pairAll_60 (u := gg * 8 + mm) (v := 8) hpe rfl (by omega) (by omega) (by omega) ?_
        rw [show (gg * 8 + mm) % 8 = mm by omega]
        refine lv_istore (lv' := [(6, .int (nI mm)), (5, .int (nI gg)), (4, .int (bst (bpR t n nc np (mkT t n nc np i2)))), (0, .ref w0), (1, .ref s0), (2, .int (mkT t n nc np i2)), (3, .int (nI i2))]) hx hb dX4_pairAll_61 hl (by decide) rfl (fun ls hl => ?_)
        refine lv_aload_n hx hb dX4_pairAll_63 rfl (lv_at hl 3 rfl) ?_
        refine va_get (D := G.1) (ci := 4) (v := .ref w1) (C := RX4) (T := TX4) (N := 1) hx hb hts k1 hown hK hP 0 rfl rfl 0 (by decide) k0 (fun _ h9 => h9) rfl dX4_pairAll_64 ?_
        refine lv_iload hx hb dX4_pairAll_67 (lv_at hl 1 rfl) ?_
        refine lv_iload hx hb dX4_pairAll_69 (lv_at hl 0 rfl) ?_
        refine n_iastQ hx hb hK hP hD hS 1 0 rfl rfl (x := (nI mm)) (j := gg) rfl (by omega) (by decide) dX4_pairAll_71 (wsn := msW G w0 w1 s0 s1 s2 s3 s4 b0 b1 b2 b3 (upd (mkM t n nc np (upto mo (fun _ => -1) 8) i2) gg (nI mm)) t n) (msW_r1 (by omega)) (fun H locs hP hD hS => ?_)
        refine lv_iload_n hx hb dX4_pairAll_72 rfl (lv_at hl 5 rfl) ?_
        refine lv_iconst (v := 1) hx hb dX4_pairAll_73 (by decide) ?_
        refine lv_iload hx hb dX4_pairAll_74 (lv_at hl 1 rfl) ?_
        refine lv_ishl hx hb dX4_pairAll_76 ?_
        refine lv_iconst (v := 1) hx hb dX4_pairAll_77 (by decide) ?_
        refine lv_iload hx hb dX4_pairAll_78 (lv_at hl 0 rfl) ?_
        refine lv_ishl hx hb dX4_pairAll_80 ?_
        refine lv_ior hx hb dX4_pairAll_81 ?_
        refine lv_ior hx hb dX4_pairAll_82 ?_
        refine lv_istore_n (lv' := [(2, .int ((mkT t n nc np i2) ||| ((1 <<< ((nI gg) &&& 31)) ||| (1 <<< ((nI mm) &&& 31))))), (6, .int (nI mm)), (5, .int (nI gg)), (4, .int (bst (bpR t n nc np (mkT t n nc np i2)))), (0, .ref w0), (1, .ref s0), (3, .int (nI i2))]) hx hb dX4_pairAll_83 rfl hl (by decide) rfl (fun ls hl => ?_)
        refine lv_iinc (v := nI (i2 + 1)) (lv' := [(3, .int (nI (i2 + 1))), (2, .int ((mkT t n nc np i2) ||| ((1 <<< ((nI gg) &&& 31)) ||| (1 <<< ((nI mm) &&& 31))))), (6, .int (nI mm)), (5, .int (nI gg)), (4, .int (bst (bpR t n nc np (mkT t n nc np i2)))), (0, .ref w0), (1, .ref s0)]) hx hb dX4_pairAll_84 hl (k := 6) rfl (by rw [show (nI i2 : Int32) = nI i2 from rfl]; exact nI_add _ 1) (by decide) rfl (fun ls hl => ?_)
        refine lv_goto (tgt := 28) hx hb dX4_pairAll_87 (by decide) ?_
        have e4 : (mkT t n nc np i2) ||| ((1 <<< ((nI gg) &&& 31)) ||| (1 <<< ((nI mm) &&& 31))) = mkT t n nc np (i2 + 1) := hT3
        have e5 : (upd (mkM t n nc np (upto mo (fun _ => -1) 8) i2) gg (nI mm)) = mkM t n nc np (upto mo (fun _ => -1) 8) (i2 + 1) := hM3
        rw [e5] at hP hD
        exact ih28 _ _ _ (by omega) ⟨hP, hD, hS, lv_sub hl [5, 6, 1, 0] (by rw [← e4]; rfl), (hR2)⟩
      · skip
        have hb0 : bst (bpR t n nc np (mkT t n nc np i2)) = -1 := cq3
        have hn1 : (bpR t n nc np (mkT t n nc np i2)).2.1 = -1 := Decidable.of_not_not (fun q => by
        obtain ⟨gg, mm, hgg, hmm, hge, hme, hfg, hfm⟩ := (bpG_ok (t := t) (n := n) (nc := nc) (tk := mkT t n nc np i2) np (Nat.le_refl _)).resolve_left q
        have hge : (bpR t n nc np (mkT t n nc np i2)).2.1 = nI gg := hge
        have hme : (bpR t n nc np (mkT t n nc np i2)).2.2 = nI mm := hme
        rw [bst, if_neg q, hge, hme, cl_nI (by omega), cl_nI (by omega)] at hb0
        exact nI_m1 (by omega) hb0)
        have hR9 : mkN t n nc np 8 0 = i2 := by rw [hR]; exact mkN_ex hn1
        refine lv_iload_n hx hb dX4_pairAll_47 rfl (lv_at hl 4 rfl) ?_
        have hP : va_P G.1 vwCl (msW G w0 w1 s0 s1 s2 s3 s4 b0 b1 b2 b3 (mkM t n nc np (upto mo (fun _ => -1) 8) (mkN t n nc np 8 0)) t n) H := by rw [show (mkM t n nc np (upto mo (fun _ => -1) 8) (mkN t n nc np 8 0)) = (mkM t n nc np (upto mo (fun _ => -1) 8) i2) from by rw [hR9]]; exact hP
        exact mX_iret hAe C hP hS dX4_pairAll_48 (by rw [hR9])
  · skip
    refine lv_aload_n hx hb dX4_pairAll_8 rfl (lv_at hl 0 rfl) ?_
    refine va_get (D := G.1) (ci := 4) (v := .ref w1) (C := RX4) (T := TX4) (N := 1) hx hb hts k1 hown hK hP 0 rfl rfl 0 (by decide) k0 (fun _ h9 => h9) rfl dX4_pairAll_9 ?_
    refine lv_iload_n hx hb dX4_pairAll_12 rfl (lv_at hl 2 rfl) ?_
    refine lv_iconst (v := (-1)) hx hb dX4_pairAll_13 (by decide) ?_
    refine n_iastQ hx hb hK hP hD hS 1 0 rfl rfl (x := (-1)) (j := i1) rfl (by omega) (by decide) dX4_pairAll_14 (wsn := msW G w0 w1 s0 s1 s2 s3 s4 b0 b1 b2 b3 (upd (upto mo (fun _ => -1) i1) i1 (-1)) t n) (msW_r1 (by omega)) (fun H locs hP hD hS => ?_)
    refine lv_iinc (v := nI (i1 + 1)) (lv' := [(2, .int (nI (i1 + 1))), (0, .ref w0), (1, .ref s0)]) hx hb dX4_pairAll_15 hl (k := 2) rfl (by rw [show (nI i1 : Int32) = nI i1 from rfl]; exact nI_add _ 1) (by decide) rfl (fun ls hl => ?_)
    refine lv_goto (tgt := 2) hx hb dX4_pairAll_18 (by decide) ?_
    have e6 : (upd (upto mo (fun _ => -1) i1) i1 (-1)) = upto mo (fun _ => -1) (i1 + 1) := upto_v rfl
    rw [e6] at hP hD
    exact ih2 _ _ _ (by omega) ⟨hP, hD, hS, lv_sub hl [1, 2, 0] (rfl), trivial⟩
