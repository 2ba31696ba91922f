theorem hd_X10_least : yX10_least.cls = RX10 ∧ yX10_least.cls ≠ "java/lang/invoke/MethodHandle" ∧ yX10_least.cls ≠ "java/lang/invoke/VarHandle" ∧ (parseMethodDescriptor yX10_least.desc).map (fun d => d.parameters.length) = some 3 := by decide +kernel
set_option maxRecDepth 100000 in
set_option maxHeartbeats 4000000 in
theorem c_X10_least (l : Launch) (G : gG) (a : Nat → Nat) (i : Nat → Int32) (j : Nat → Int32) (t : Nat → Int32) (r : Nat → Int32) (n : Nat → Int32) (d : Nat → Int32) (ps : Nat → Int32) (im : Nat → Int32) (kp : Nat → Int32) (tx : Nat → Int32) (cd : Nat → Int32) (bk : Nat → Int32) (py : Nat → Int32) (pt : Nat → Int32) (mt : Nat → Int32) (nc : Nat) (np : Nat) (p : Int32) (sx : Int32) (w : Int32) (hT : tw t nc np) : mE l yX10_least wsX10_least ({ frames := 4, cells := 0, slots := 0, locals := 88 }) G (mW G a i j t r n d ps im kp tx cd bk py pt mt) (fun u : (Nat → Int32) => mW G a i j t r n u ps im kp tx cd bk py pt mt) [.ref (a 0), .int p, .int sx, .int w] (.returned (some (.int (leR t n nc p sx w)))) := by
  refine mE.of (cc := cX10_least) (maxL := 8) (ret := (some .int)) (by decide) rfl (Nat.le_of_ble_eq_true rfl) ?_
  intro zp ze zs zm zb zt zc ls A hAe C hP hK hD hS hl
  obtain ⟨hx, hb, hr, hml, hown, hts, hlk⟩ := id C
  have hl : lv_has ls 8 [(0, .ref (a 0)), (1, .int p), (2, .int sx), (3, .int w)] := hl
  have hT2 := hT.2.2
  obtain ⟨z2, hz2⟩ : ∃ z, z = 2 ^ nc := ⟨_, rfl⟩
  have hz3 : z2 ≤ 16 := by rw [hz2]; exact Nat.pow_le_pow_right (by decide) hT2.1
  have hsh : (1 : Int32) <<< (t 3 &&& 31) = nI z2 := by rw [hT.1, hz2]; exact sh1 nc (by omega)
  have k0 := hts (.constantLong RX10 249 (36)) (by decide +kernel)
  have k1 := hts (.constant RX10 80 (-1000000002)) (by decide +kernel)
  have k2 := hts (.constant RX10 248 (1000000)) (by decide +kernel)
  have k3 := hts (.fieldLink RX10 7 "DebtDowryModel" "town" "[I") (by decide +kernel)
  have k4 := (fun w h => by revert w; decide +kernel : ∀ w ∈ wsX100, w ∈ wsX10_least)
  have k5 := hts (.fieldLink RX10 19 "DebtDowryModel" "aside" "[I") (by decide +kernel)
  have k6 := hts (.constant RX10 193 (-1000000003)) (by decide +kernel)
  have k7 := hts (.constant RX10 175 (-1000000001)) (by decide +kernel)
  refine lv_aload_n hx hb dX10_least_0 rfl (lv_at hl 0 rfl) ?_
  refine lv_iload_n hx hb dX10_least_1 rfl (lv_at hl 1 rfl) ?_
  refine cR_V (Cn := RX10) (n := 1) (As := [.int p]) (rest := []) C (c_X10_isPerson l G a i j t r n d ps im kp tx cd bk py pt mt  p ) gX10_least_X10_isPerson rfl ⟨rfl, rfl⟩ hd_X10_isPerson ⟨(Nat.le_of_ble_eq_true rfl), (Nat.le_of_ble_eq_true rfl)⟩ hK hP (va_recv hK hP (ci := 10) (q0 := 0) rfl rfl) rfl hl.1 rfl (Nat.le_of_ble_eq_true rfl) dX10_least_2 ⟨(Nat.le_of_ble_eq_true rfl), (Nat.le_of_ble_eq_true rfl)⟩ ?_
  refine b_if_ne (tgt := 11) hx hb dX10_least_5 (by decide) (fun cq1 => ?_) (fun cq1 => ?_)
  · skip
    obtain ⟨pp, hpp, rfl⟩ := inB_nat hT.2.1 (by omega) cq1
    have hcl_pp := cl_nI (n := pp) (by omega)
    refine lv_iload_n hx hb dX10_least_11 rfl (lv_at hl 2 rfl) ?_
    refine lv_i2l (v := sx.toInt64) hx hb dX10_least_12 rfl ?_
    refine lv_lconst (v := 1) hx hb dX10_least_13 (by decide) ?_
    refine lv_ldc2 hx hb hown k0 dX10_least_14 ?_
    refine cR_S (n := 3) (As := [.long sx.toInt64, .long 1, .long 36]) (rest := []) C (c_X10_in l G    sx sx.toInt64 rfl 1 1 rfl 36 36 rfl ) gX10_least_X10_in rfl ⟨rfl, rfl⟩ hd_X10_in ⟨(Nat.le_of_ble_eq_true rfl), (Nat.le_of_ble_eq_true rfl)⟩ hK (hP.sub [] rfl) rfl hl.1 rfl (Nat.le_of_ble_eq_true rfl) dX10_least_17 ⟨(Nat.le_of_ble_eq_true rfl), (Nat.le_of_ble_eq_true rfl)⟩ ?_
    refine b_if_eq (tgt := 33) hx hb dX10_least_20 (by decide) (fun cq2 => ?_) (fun cq2 => ?_)
    · skip
      refine lv_ldc hx hb hown k1 dX10_least_33 ?_
      exact mE_iret hAe C (u := d) hP hS dX10_least_35 (by simp [leR, cq1, hcl_pp, cq2])
    · skip
      refine lv_iload_n hx hb dX10_least_23 rfl (lv_at hl 3 rfl) ?_
      refine lv_i2l (v := w.toInt64) hx hb dX10_least_24 rfl ?_
      refine lv_lconst (v := 0) hx hb dX10_least_25 (by decide) ?_
      refine lv_lconst (v := 1) hx hb dX10_least_26 (by decide) ?_
      refine cR_S (n := 3) (As := [.long w.toInt64, .long 0, .long 1]) (rest := []) C (c_X10_in l G    w w.toInt64 rfl 0 0 rfl 1 1 rfl ) gX10_least_X10_in rfl ⟨rfl, rfl⟩ hd_X10_in ⟨(Nat.le_of_ble_eq_true rfl), (Nat.le_of_ble_eq_true rfl)⟩ hK (hP.sub [] rfl) rfl hl.1 rfl (Nat.le_of_ble_eq_true rfl) dX10_least_27 ⟨(Nat.le_of_ble_eq_true rfl), (Nat.le_of_ble_eq_true rfl)⟩ ?_
      refine b_if_ne (tgt := 36) hx hb dX10_least_30 (by decide) (fun cq3 => ?_) (fun cq3 => ?_)
      · skip
        refine lv_aload_n hx hb dX10_least_36 rfl (lv_at hl 0 rfl) ?_
        refine lv_iload_n hx hb dX10_least_37 rfl (lv_at hl 1 rfl) ?_
        refine cR_V (Cn := RX10) (n := 1) (As := [.int (nI pp)]) (rest := []) C (c_X10_isWedMan l G a i j t r n d ps im kp tx cd bk py pt mt nc np pp hT (by omega)) gX10_least_X10_isWedMan rfl ⟨rfl, rfl⟩ hd_X10_isWedMan ⟨(Nat.le_of_ble_eq_true rfl), (Nat.le_of_ble_eq_true rfl)⟩ hK hP (va_recv hK hP (ci := 10) (q0 := 0) rfl rfl) rfl hl.1 rfl (Nat.le_of_ble_eq_true rfl) dX10_least_38 ⟨(Nat.le_of_ble_eq_true rfl), (Nat.le_of_ble_eq_true rfl)⟩ ?_
        refine b_if_eq (tgt := 47) hx hb dX10_least_41 (by decide) (fun cq4 => ?_) (fun cq4 => ?_)
        · skip
          refine lv_iconst (v := (-1)) hx hb dX10_least_47 (by decide) ?_
          refine lv_istore (lv' := [(4, .int (-1)), (0, .ref (a 0)), (1, .int (nI pp)), (2, .int sx), (3, .int w)]) hx hb dX10_least_48 hl (by decide) rfl (fun ls hl => ?_)
          refine lv_ldc hx hb hown k2 dX10_least_50 ?_
          refine lv_istore (lv' := [(5, .int 1000000), (4, .int (-1)), (0, .ref (a 0)), (1, .int (nI pp)), (2, .int sx), (3, .int w)]) hx hb dX10_least_52 hl (by decide) rfl (fun ls hl => ?_)
          refine lv_iconst (v := 0) hx hb dX10_least_54 (by decide) ?_
          refine lv_istore (lv' := [(6, .int 0), (5, .int 1000000), (4, .int (-1)), (0, .ref (a 0)), (1, .int (nI pp)), (2, .int sx), (3, .int w)]) hx hb dX10_least_55 hl (by decide) rfl (fun ls hl => ?_)
          refine wl_X (B := z2) (i0 := 0) (Inv := fun i1 H locs ls => ∃ (d_57 : Nat → Int32), va_P G.1 vwCl (mW G a i j t r n d_57 ps im kp tx cd bk py pt mt) H ∧ va_D A (mW G a i j t r n d_57 ps im kp tx cd bk py pt mt) ∧ va_S A zs.heap H locs ∧ lv_has ls 8 [(0, .ref (a 0)), (1, .int (nI pp)), (2, .int sx), (3, .int w), (4, .int (lsB t n nc pp sx i1)), (5, .int (lsF t n nc pp sx i1)), (6, .int (nI i1))] ∧ True) (by omega) ⟨d, hP, hD, hS, lv_sub hl [3, 4, 5, 6, 2, 1, 0] (rfl), trivial⟩ ?_
          rintro i1 H locs ls hle57 ⟨d_57, hP, hD, hS, hl, -⟩ ih57
          refine lv_iload hx hb dX10_least_57 (lv_at hl 6 rfl) ?_
          refine lv_iconst (v := 1) hx hb dX10_least_59 (by decide) ?_
          refine lv_aload_n hx hb dX10_least_60 rfl (lv_at hl 0 rfl) ?_
          refine va_get (D := G.1) (ci := 10) (v := .ref (a 1)) (C := RX10) (T := TX10) (N := 25) hx hb hts k4 hown hK hP 0 rfl rfl 0 (by decide) k3 (fun _ h9 => h9) rfl dX10_least_61 ?_
          refine lv_iconst (v := 3) hx hb dX10_least_64 (by decide) ?_
          refine n_iald hx hb hK hP 1 0 rfl rfl (j := 3) rfl (by decide) (by decide) dX10_least_65 ?_
          refine lv_ishl hx hb dX10_least_66 ?_
          refine n_icmp_ge (tgt := 113) hx hb dX10_least_67 (by decide) (u := i1) (v := z2) rfl hsh (by omega) (by omega) (fun cq5 => ?_) (fun cq5 => ?_)
          · skip
            obtain rfl : z2 = i1 := by omega
            refine lv_iload_n hx hb dX10_least_113 rfl (lv_at hl 3 rfl) ?_
            refine lv_if_eq (tgt := 123) hx hb dX10_least_114 (by decide) (fun cq6 => ?_) (fun cq6 => ?_)
            · skip
              refine lv_iload hx hb dX10_least_123 (lv_at hl 4 rfl) ?_
              refine lv_goto (tgt := 130) hx hb dX10_least_125 (by decide) ?_
              exact mE_iret hAe C (u := d_57) hP hS dX10_least_130 (by subst hz2; simp [leR, cq1, hcl_pp, cq2, cq3, cq4, cq5, cq6])
            · skip
              refine lv_iload hx hb dX10_least_117 (lv_at hl 4 rfl) ?_
              refine lv_iconst (v := (-1)) hx hb dX10_least_119 (by decide) ?_
              refine lv_icmp_ne (tgt := 128) hx hb dX10_least_120 (by decide) (fun cq7 => ?_) (fun cq7 => ?_)
              · skip
                refine lv_iload hx hb dX10_least_128 (lv_at hl 5 rfl) ?_
                exact mE_iret hAe C (u := d_57) hP hS dX10_least_130 (by subst hz2; simp [leR, cq1, hcl_pp, cq2, cq3, cq4, cq5, cq6, cq7])
              · skip
                refine lv_iload hx hb dX10_least_123 (lv_at hl 4 rfl) ?_
                refine lv_goto (tgt := 130) hx hb dX10_least_125 (by decide) ?_
                exact mE_iret hAe C (u := d_57) hP hS dX10_least_130 (by subst hz2; simp [leR, cq1, hcl_pp, cq2, cq3, cq4, cq5, cq6, cq7])
          · skip
            refine lv_aload_n hx hb dX10_least_70 rfl (lv_at hl 0 rfl) ?_
            refine lv_iload_n hx hb dX10_least_71 rfl (lv_at hl 1 rfl) ?_
            refine lv_iload hx hb dX10_least_72 (lv_at hl 6 rfl) ?_
            refine cX_V (Cn := RX10) (n := 2) (As := [.int (nI pp), .int (nI i1)]) (rest := []) (wsn := mW G a i j t r n (tkE t n (va_cpy n d_57 0 0 54) pp i1 nc) ps im kp tx cd bk py pt mt) C (c_X10_takes l G a i j t r n d_57 ps im kp tx cd bk py pt mt nc np pp i1 hT (by omega)) gX10_least_X10_takes rfl ⟨rfl, rfl⟩ hd_X10_takes ⟨(Nat.le_of_ble_eq_true rfl), (Nat.le_of_ble_eq_true rfl)⟩ hK hP hD hS [0, 1, 2, 3, 4, 5, 6, 7, 8, 9, 10, 11, 12, 13] (by decide) rfl (mW_f.trans mW_f.symm) rfl (mW_f.trans mW_f.symm) (va_recv hK hP (ci := 10) (q0 := 0) rfl rfl) rfl hl.1 rfl (Nat.le_of_ble_eq_true rfl) dX10_least_74 ⟨(Nat.le_of_ble_eq_true rfl), (Nat.le_of_ble_eq_true rfl)⟩ (fun H locs hP hD hS => ?_)
            refine lv_istore (lv' := [(7, .int (tkS t n pp i1 nc)), (0, .ref (a 0)), (1, .int (nI pp)), (2, .int sx), (3, .int w), (4, .int (lsB t n nc pp sx i1)), (5, .int (lsF t n nc pp sx i1)), (6, .int (nI i1))]) hx hb dX10_least_77 hl (by decide) rfl (fun ls hl => ?_)
            refine lv_iload hx hb dX10_least_79 (lv_at hl 0 rfl) ?_
            refine lv_iload hx hb dX10_least_81 (lv_at hl 6 rfl) ?_
            refine lv_icmp_ge (tgt := 107) hx hb dX10_least_83 (by decide) (fun cq8 => ?_) (fun cq8 => ?_)
            · skip
              refine lv_iinc (v := nI (i1 + 1)) (lv' := [(6, .int (nI (i1 + 1))), (7, .int (tkS t n pp i1 nc)), (0, .ref (a 0)), (1, .int (nI pp)), (2, .int sx), (3, .int w), (4, .int (lsB t n nc pp sx i1)), (5, .int (lsF t n nc pp sx i1))]) hx hb dX10_least_107 hl (k := 7) rfl (by rw [show (nI i1 : Int32) = nI i1 from rfl]; exact nI_add _ 1) (by decide) rfl (fun ls hl => ?_)
              refine lv_goto (tgt := 57) hx hb dX10_least_110 (by decide) ?_
              have e9 : lsB t n nc pp sx i1 = lsB t n nc pp sx (i1 + 1) := by simp [lsB, cq1, hcl_pp, cq2, cq3, cq4, cq5, cq8, (i32_nlt.mpr cq8)]
              have e10 : lsF t n nc pp sx i1 = lsF t n nc pp sx (i1 + 1) := by simp [lsF, cq1, hcl_pp, cq2, cq3, cq4, cq5, cq8, (i32_nlt.mpr cq8)]
              exact ih57 _ _ _ (by omega) ⟨tkE t n (va_cpy n d_57 0 0 54) pp i1 nc, hP, hD, hS, lv_sub hl [2, 3, 4, 5, 6, 7, 0] (by rw [← e9, ← e10]; rfl), trivial⟩
            · skip
              refine lv_aload_n hx hb dX10_least_86 rfl (lv_at hl 1 rfl) ?_
              refine lv_aload_n hx hb dX10_least_87 rfl (lv_at hl 1 rfl) ?_
              refine va_get (D := G.1) (ci := 10) (v := .ref (a 4)) (C := RX10) (T := TX10) (N := 25) hx hb hts k4 hown hK hP 0 rfl rfl 3 (by decide) k5 (fun _ h9 => h9) rfl dX10_least_88 ?_
              refine lv_iload_n hx hb dX10_least_91 rfl (lv_at hl 2 rfl) ?_
              refine cR_V (Cn := RX10) (n := 2) (As := [.ref (a 4), .int (nI pp)]) (rest := []) C (c_X10_standing_d l G a i j t r n (tkE t n (va_cpy n d_57 0 0 54) pp i1 nc) ps im kp tx cd bk py pt mt nc np pp hT (by omega)) gX10_least_X10_standing rfl ⟨rfl, rfl⟩ hd_X10_standing ⟨(Nat.le_of_ble_eq_true rfl), (Nat.le_of_ble_eq_true rfl)⟩ hK hP (va_recv hK hP (ci := 10) (q0 := 0) rfl rfl) rfl hl.1 rfl (Nat.le_of_ble_eq_true rfl) dX10_least_92 ⟨(Nat.le_of_ble_eq_true rfl), (Nat.le_of_ble_eq_true rfl)⟩ ?_
              refine lv_iload_n hx hb dX10_least_95 rfl (lv_at hl 3 rfl) ?_
              refine lv_icmp_lt (tgt := 107) hx hb dX10_least_96 (by decide) (fun cq11 => ?_) (fun cq11 => ?_)
              · skip
                rw [stU_c (tkE_c (cpy54 _ _) pp i1 nc) (by omega) hT2.1] at cq11
                refine lv_iinc (v := nI (i1 + 1)) (lv' := [(6, .int (nI (i1 + 1))), (7, .int (tkS t n pp i1 nc)), (0, .ref (a 0)), (1, .int (nI pp)), (2, .int sx), (3, .int w), (4, .int (lsB t n nc pp sx i1)), (5, .int (lsF t n nc pp sx i1))]) hx hb dX10_least_107 hl (k := 7) rfl (by rw [show (nI i1 : Int32) = nI i1 from rfl]; exact nI_add _ 1) (by decide) rfl (fun ls hl => ?_)
                refine lv_goto (tgt := 57) hx hb dX10_least_110 (by decide) ?_
                have e12 : lsB t n nc pp sx i1 = lsB t n nc pp sx (i1 + 1) := by simp [lsB, cq1, hcl_pp, cq2, cq3, cq4, cq5, cq8, (i32_nle.mp cq8), cq11, (i32_nle.mpr cq11)]
                have e13 : lsF t n nc pp sx i1 = lsF t n nc pp sx (i1 + 1) := by simp [lsF, cq1, hcl_pp, cq2, cq3, cq4, cq5, cq8, (i32_nle.mp cq8), cq11, (i32_nle.mpr cq11)]
                exact ih57 _ _ _ (by omega) ⟨tkE t n (va_cpy n d_57 0 0 54) pp i1 nc, hP, hD, hS, lv_sub hl [2, 3, 4, 5, 6, 7, 0] (by rw [← e12, ← e13]; rfl), trivial⟩
              · skip
                rw [stU_c (tkE_c (cpy54 _ _) pp i1 nc) (by omega) hT2.1] at cq11
                refine lv_iload hx hb dX10_least_99 (lv_at hl 0 rfl) ?_
                refine lv_istore (lv' := [(5, .int (tkS t n pp i1 nc)), (7, .int (tkS t n pp i1 nc)), (0, .ref (a 0)), (1, .int (nI pp)), (2, .int sx), (3, .int w), (4, .int (lsB t n nc pp sx i1)), (6, .int (nI i1))]) hx hb dX10_least_101 hl (by decide) rfl (fun ls hl => ?_)
                refine lv_iload hx hb dX10_least_103 (lv_at hl 7 rfl) ?_
                refine lv_istore (lv' := [(4, .int (nI i1)), (5, .int (tkS t n pp i1 nc)), (7, .int (tkS t n pp i1 nc)), (0, .ref (a 0)), (1, .int (nI pp)), (2, .int sx), (3, .int w), (6, .int (nI i1))]) hx hb dX10_least_105 hl (by decide) rfl (fun ls hl => ?_)
                refine lv_iinc (v := nI (i1 + 1)) (lv' := [(6, .int (nI (i1 + 1))), (4, .int (nI i1)), (5, .int (tkS t n pp i1 nc)), (7, .int (tkS t n pp i1 nc)), (0, .ref (a 0)), (1, .int (nI pp)), (2, .int sx), (3, .int w)]) hx hb dX10_least_107 hl (k := 7) rfl (by rw [show (nI i1 : Int32) = nI i1 from rfl]; exact nI_add _ 1) (by decide) rfl (fun ls hl => ?_)
                refine lv_goto (tgt := 57) hx hb dX10_least_110 (by decide) ?_
                have e14 : nI i1 = lsB t n nc pp sx (i1 + 1) := by simp [lsB, cq1, hcl_pp, cq2, cq3, cq4, cq5, cq8, (i32_nle.mp cq8), cq11, (i32_nlt.mp cq11)]
                have e15 : tkS t n pp i1 nc = lsF t n nc pp sx (i1 + 1) := by simp [lsF, cq1, hcl_pp, cq2, cq3, cq4, cq5, cq8, (i32_nle.mp cq8), cq11, (i32_nlt.mp cq11)]
                exact ih57 _ _ _ (by omega) ⟨tkE t n (va_cpy n d_57 0 0 54) pp i1 nc, hP, hD, hS, lv_sub hl [4, 5, 6, 7, 1, 2, 0] (by rw [← e14, ← e15]; rfl), trivial⟩
        · skip
          refine lv_ldc hx hb hown k6 dX10_least_44 ?_
          exact mE_iret hAe C (u := d) hP hS dX10_least_46 (by simp [leR, cq1, hcl_pp, cq2, cq3, cq4])
      · skip
        refine lv_ldc hx hb hown k1 dX10_least_33 ?_
        exact mE_iret hAe C (u := d) hP hS dX10_least_35 (by simp [leR, cq1, hcl_pp, cq2, cq3])
  · skip
    refine lv_ldc hx hb hown k7 dX10_least_8 ?_
    exact mE_iret hAe C (u := d) hP hS dX10_least_10 (by simp [leR, cq1])
