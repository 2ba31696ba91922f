theorem hd_X0_add : yX0_add.cls = RX0 ∧ yX0_add.cls ≠ "java/lang/invoke/MethodHandle" ∧ yX0_add.cls ≠ "java/lang/invoke/VarHandle" ∧ (parseMethodDescriptor yX0_add.desc).map (fun d => d.parameters.length) = some 2 := by decide +kernel
set_option maxRecDepth 100000 in
set_option maxHeartbeats 4000000 in
theorem c_X0_add (l : Launch) (G : gG) (y0 : Nat) (y1 : Nat) (y2 : Nat) (i : Nat → Int32) (bk : Nat → Int32) (bm : Nat) (p : Int32) (s : Int32) (hbm : i 15 = nI bm) (hbl : bm ≤ 20) : mX l yX0_add wsX0_add ({ frames := 0, cells := 0, slots := 0, locals := 0 }) G (bW G y0 y1 y2 i bk) (bW G y0 y1 y2 (upd i 15 (if bm = 20 then i 15 else nI (bm + 1))) (if bm = 20 then bk else upd (upd bk (2 * bm) p) (2 * bm + 1) s)) [.ref y0, .int p, .int s] (.returned (some (.int (bI (¬ bm = 20))))) := by
  refine mX.of (cc := cX0_add) (maxL := 3) (ret := (some .boolean)) (by decide) rfl (Nat.le_of_ble_eq_true rfl) ?_
  intro zp ze zs zm zb zt zc ls A hAe C hP hK hD hS hl
  obtain ⟨hx, hb, hr, hml, hown, hts, hlk⟩ := id C
  have hl : lv_has ls 3 [(0, .ref y0), (1, .int p), (2, .int s)] := hl
  have k0 := hts (.fieldLink RX0 18 "DebtDowry$Book" "count" "I") (by decide +kernel)
  have k1 := (fun w h => by revert w; decide +kernel : ∀ w ∈ wsX00, w ∈ wsX0_add)
  have k2 := hts (.fieldLink RX0 9 "DebtDowry$Book" "person" "[I") (by decide +kernel)
  have k3 := hts (.fieldLink RX0 15 "DebtDowry$Book" "standing" "[I") (by decide +kernel)
  refine lv_aload_n hx hb dX0_add_0 rfl (lv_at hl 0 rfl) ?_
  refine va_get (D := G.1) (ci := 0) (v := .int (i 15)) (C := RX0) (T := TX0) (N := 3) hx hb hts k1 hown hK hP 0 rfl rfl 2 (by decide) k0 (fun _ h9 => h9) rfl dX0_add_1 ?_
  refine lv_bipush (v := 20) hx hb dX0_add_4 (by decide) ?_
  refine n_icmp_lt (tgt := 11) hx hb dX0_add_6 (by decide) (u := bm) (v := 20) hbm rfl (by omega) (by omega) (fun cq1 => ?_) (fun cq1 => ?_)
  · skip
    refine lv_aload_n hx hb dX0_add_11 rfl (lv_at hl 0 rfl) ?_
    refine va_get (D := G.1) (ci := 0) (v := .ref y1) (C := RX0) (T := TX0) (N := 3) hx hb hts k1 hown hK hP 0 rfl rfl 0 (by decide) k2 (fun _ h9 => h9) rfl dX0_add_12 ?_
    refine lv_aload_n hx hb dX0_add_15 rfl (lv_at hl 0 rfl) ?_
    refine va_get (D := G.1) (ci := 0) (v := .int (i 15)) (C := RX0) (T := TX0) (N := 3) hx hb hts k1 hown hK hP 0 rfl rfl 2 (by decide) k0 (fun _ h9 => h9) rfl dX0_add_16 ?_
    refine lv_iload_n hx hb dX0_add_19 rfl (lv_at hl 1 rfl) ?_
    refine n_iastQ hx hb hK hP hD hS 1 0 rfl rfl (x := p) (j := bm) hbm (by omega) (by decide) dX0_add_20 (wsn := bW G y0 y1 y2 i (upd bk (2 * bm) p)) (bW_r1 (by omega)) (fun H locs hP hD hS => ?_)
    refine lv_aload_n hx hb dX0_add_21 rfl (lv_at hl 0 rfl) ?_
    refine va_get (D := G.1) (ci := 0) (v := .ref y2) (C := RX0) (T := TX0) (N := 3) hx hb hts k1 hown hK hP 0 rfl rfl 1 (by decide) k3 (fun _ h9 => h9) rfl dX0_add_22 ?_
    refine lv_aload_n hx hb dX0_add_25 rfl (lv_at hl 0 rfl) ?_
    refine va_get (D := G.1) (ci := 0) (v := .int (i 15)) (C := RX0) (T := TX0) (N := 3) hx hb hts k1 hown hK hP 0 rfl rfl 2 (by decide) k0 (fun _ h9 => h9) rfl dX0_add_26 ?_
    refine lv_iload_n hx hb dX0_add_29 rfl (lv_at hl 2 rfl) ?_
    refine n_iastQ hx hb hK hP hD hS 2 0 rfl rfl (x := s) (j := bm) hbm (by omega) (by decide) dX0_add_30 (wsn := bW G y0 y1 y2 i (upd (upd bk (2 * bm) p) (2 * bm + 1) s)) (bW_r2 (by omega)) (fun H locs hP hD hS => ?_)
    refine lv_aload_n hx hb dX0_add_31 rfl (lv_at hl 0 rfl) ?_
    refine lv_dup hx hb dX0_add_32 rfl ?_
    refine va_get (D := G.1) (ci := 0) (v := .int (i 15)) (C := RX0) (T := TX0) (N := 3) hx hb hts k1 hown hK hP 0 rfl rfl 2 (by decide) k0 (fun _ h9 => h9) rfl dX0_add_33 ?_
    refine lv_iconst (v := 1) hx hb dX0_add_36 (by decide) ?_
    refine n_iadd hx hb dX0_add_37 (u := bm) (v := 1) hbm rfl (j := bm + 1) (by omega) ?_
    refine n_putQ (D := G.1) (wsn := bW G y0 y1 y2 (upd i 15 (nI (bm + 1))) (upd (upd bk (2 * bm) p) (2 * bm + 1) s)) (ci := 0) (v := .int (nI (bm + 1))) (ty := .int) (C := RX0) (T := TX0) (N := 3) hx hb hts k1 tyX0 tyX0_ok nmX0 hown hK hP hD hS 0 rfl rfl 2 (by decide) k0 (fun _ h9 => h9) rfl (by decide +kernel) rfl rfl (Nat.le_of_ble_eq_true rfl) bW_p0_2 dX0_add_38 (fun H locs hP hD hS => ?_)
    refine lv_iconst (v := 1) hx hb dX0_add_41 (by decide) ?_
    have hP : va_P G.1 vwCl (bW G y0 y1 y2 (upd i 15 (if bm = 20 then i 15 else nI (bm + 1))) (if bm = 20 then bk else upd (upd bk (2 * bm) p) (2 * bm + 1) s)) H := by rw [show (upd i 15 (if bm = 20 then i 15 else nI (bm + 1))) = (upd i 15 (nI (bm + 1))) from by first | (rw [if_neg (show ¬ bm = 20 by omega)]; done) | (rw [if_pos (show bm = 20 by omega)]; exact upd_self rfl), show (if bm = 20 then bk else upd (upd bk (2 * bm) p) (2 * bm + 1) s) = (upd (upd bk (2 * bm) p) (2 * bm + 1) s) from by first | exact if_neg (show ¬ bm = 20 by omega) | exact if_pos (show bm = 20 by omega)]; exact hP
    exact mX_zret hAe C hP hS dX0_add_42 (by decide) ((bI_t (by omega)).symm)
  · skip
    refine lv_iconst (v := 0) hx hb dX0_add_9 (by decide) ?_
    have hP : va_P G.1 vwCl (bW G y0 y1 y2 (upd i 15 (if bm = 20 then i 15 else nI (bm + 1))) (if bm = 20 then bk else upd (upd bk (2 * bm) p) (2 * bm + 1) s)) zs.heap := by rw [show (upd i 15 (if bm = 20 then i 15 else nI (bm + 1))) = i from by first | (rw [if_neg (show ¬ bm = 20 by omega)]; done) | (rw [if_pos (show bm = 20 by omega)]; exact upd_self rfl), show (if bm = 20 then bk else upd (upd bk (2 * bm) p) (2 * bm + 1) s) = bk from by first | exact if_neg (show ¬ bm = 20 by omega) | exact if_pos (show bm = 20 by omega)]; exact hP
    exact mX_zret hAe C hP hS dX0_add_10 (by decide) ((bI_f (by omega)).symm)
theorem hd_X0_firstWrong : yX0_firstWrong.cls = RX0 ∧ yX0_firstWrong.cls ≠ "java/lang/invoke/MethodHandle" ∧ yX0_firstWrong.cls ≠ "java/lang/invoke/VarHandle" ∧ (parseMethodDescriptor yX0_firstWrong.desc).map (fun d => d.parameters.length) = some 1 := by decide +kernel
set_option maxRecDepth 100000 in
set_option maxHeartbeats 4000000 in
theorem c_X0_firstWrong (l : Launch) (G : gG) (y0 : Nat) (y1 : Nat) (y2 : Nat) (s0 : Nat) (s1 : Nat) (s2 : Nat) (s3 : Nat) (s4 : Nat) (b0 : Nat) (b1 : Nat) (b2 : Nat) (b3 : Nat) (i : Nat → Int32) (bk : Nat → Int32) (t : Nat → Int32) (n : Nat → Int32) (nc : Nat) (np : Nat) (bm : Nat) (hT : tw t nc np) (hbm : i 15 = nI bm) (hbl : bm ≤ 20) (hbk : ∀ k, k < bm → ∃ p, p < 8 ∧ bk (2 * k) = nI p) : mR l yX0_firstWrong wsX0_firstWrong ({ frames := 4, cells := 0, slots := 0, locals := 89 }) G (bsW G y0 y1 y2 s0 s1 s2 s3 s4 b0 b1 b2 b3 i bk t n) [.ref y0, .ref s0] (juU t n bk nc bm 0) := by
  refine mR.of (cc := cX0_firstWrong) (maxL := 3) (ret := (some .int)) (by decide) rfl (Nat.le_of_ble_eq_true rfl) ?_
  intro zp ze zs zm zb zt zc ls C hP hK hl
  obtain ⟨hx, hb, hr, hml, hown, hts, hlk⟩ := id C
  have hl : lv_has ls 3 [(0, .ref y0), (1, .ref s0)] := hl
  have hT2 := hT.2.2
  have k0 := hts (.fieldLink RX0 18 "DebtDowry$Book" "count" "I") (by decide +kernel)
  have k1 := (fun w h => by revert w; decide +kernel : ∀ w ∈ wsX00, w ∈ wsX0_firstWrong)
  have k2 := hts (.fieldLink RX0 9 "DebtDowry$Book" "person" "[I") (by decide +kernel)
  have k3 := hts (.fieldLink RX0 15 "DebtDowry$Book" "standing" "[I") (by decide +kernel)
  refine lv_iconst (v := 0) hx hb dX0_firstWrong_0 (by decide) ?_
  refine lv_istore_n (lv' := [(2, .int 0), (0, .ref y0), (1, .ref s0)]) hx hb dX0_firstWrong_1 rfl hl (by decide) rfl (fun ls hl => ?_)
  refine wl_R (B := bm) (i0 := 0) (Inv := fun i1 ls => lv_has ls 3 [(0, .ref y0), (1, .ref s0), (2, .int (nI i1))] ∧ juU t n bk nc bm 0 = juU t n bk nc (bm - i1) i1) (by omega) ⟨lv_sub hl [1, 2, 0] (rfl), (rfl)⟩ ?_
  rintro i1 ls hle2 ⟨hl, hR⟩ ih2
  refine lv_iload_n hx hb dX0_firstWrong_2 rfl (lv_at hl 2 rfl) ?_
  refine lv_aload_n hx hb dX0_firstWrong_3 rfl (lv_at hl 0 rfl) ?_
  refine va_get (D := G.1) (ci := 0) (v := .int (i 15)) (C := RX0) (T := TX0) (N := 3) hx hb hts k1 hown hK hP 0 rfl rfl 2 (by decide) k0 (fun _ h9 => h9) rfl dX0_firstWrong_4 ?_
  refine n_icmp_ge (tgt := 37) hx hb dX0_firstWrong_7 (by decide) (u := i1) (v := bm) rfl hbm (by omega) (by omega) (fun cq1 => ?_) (fun cq1 => ?_)
  · skip
    refine lv_iconst (v := (-1)) hx hb dX0_firstWrong_37 (by decide) ?_
    exact mR_iret C dX0_firstWrong_38 (by rw [hR, show bm - i1 = 0 by omega]; rfl)
  · skip
    obtain ⟨pp, hp8, hpe⟩ := hbk i1 (by omega)
    have hst : juU t n bk nc (bm - i1) i1 = if stU t n pp nc = bk (2 * i1 + 1) then juU t n bk nc (bm - (i1 + 1)) (i1 + 1) else nI i1 := by rw [show bm - i1 = (bm - (i1 + 1)) + 1 by omega]; show ite _ _ _ = _; rw [hpe, cl_nI (by omega)]
    refine lv_aload_n hx hb dX0_firstWrong_10 rfl (lv_at hl 1 rfl) ?_
    refine lv_aload_n hx hb dX0_firstWrong_11 rfl (lv_at hl 0 rfl) ?_
    refine va_get (D := G.1) (ci := 0) (v := .ref y1) (C := RX0) (T := TX0) (N := 3) hx hb hts k1 hown hK hP 0 rfl rfl 0 (by decide) k2 (fun _ h9 => h9) rfl dX0_firstWrong_12 ?_
    refine lv_iload_n hx hb dX0_firstWrong_15 rfl (lv_at hl 2 rfl) ?_
    refine n_iald hx hb hK hP 1 0 rfl rfl (j := i1) rfl (by omega) (by decide) dX0_firstWrong_16 ?_
    refine cR_V (Cn := RX7) (n := 1) (As := [.int (nI pp)]) (rest := []) C (c_X7_standingOf l G s0 s1 s2 s3 s4 b0 b1 b2 b3 t n nc np pp hT (by omega)) gX0_firstWrong_X7_standingOf rfl ⟨rfl, rfl⟩ hd_X7_standingOf ⟨(Nat.le_of_ble_eq_true rfl), (Nat.le_of_ble_eq_true rfl)⟩ hK (hP.sub [3, 4, 5, 6, 7, 8, 9, 10, 11] rfl) (va_recv hK hP (ci := 7) (q0 := 3) rfl rfl) rfl hl.1 (by rw [show (bk (2 * i1) : Int32) = nI pp from hpe]; rfl) (Nat.le_of_ble_eq_true rfl) dX0_firstWrong_17 ⟨(Nat.le_of_ble_eq_true rfl), (Nat.le_of_ble_eq_true rfl)⟩ ?_
    refine lv_aload_n hx hb dX0_firstWrong_20 rfl (lv_at hl 0 rfl) ?_
    refine va_get (D := G.1) (ci := 0) (v := .ref y2) (C := RX0) (T := TX0) (N := 3) hx hb hts k1 hown hK hP 0 rfl rfl 1 (by decide) k3 (fun _ h9 => h9) rfl dX0_firstWrong_21 ?_
    refine lv_iload_n hx hb dX0_firstWrong_24 rfl (lv_at hl 2 rfl) ?_
    refine n_iald hx hb hK hP 2 0 rfl rfl (j := i1) rfl (by omega) (by decide) dX0_firstWrong_25 ?_
    refine lv_icmp_eq (tgt := 31) hx hb dX0_firstWrong_26 (by decide) (fun cq2 => ?_) (fun cq2 => ?_)
    · skip
      have hq := cq2
      refine lv_iinc (v := nI (i1 + 1)) (lv' := [(2, .int (nI (i1 + 1))), (0, .ref y0), (1, .ref s0)]) hx hb dX0_firstWrong_31 hl (k := 2) rfl (by rw [show (nI i1 : Int32) = nI i1 from rfl]; exact nI_add _ 1) (by decide) rfl (fun ls hl => ?_)
      refine lv_goto (tgt := 2) hx hb dX0_firstWrong_34 (by decide) ?_
      exact ih2 _ (by omega) ⟨lv_sub hl [1, 2, 0] (rfl), (by rw [hR, hst, if_pos hq])⟩
    · skip
      have hq := cq2
      refine lv_iload_n hx hb dX0_firstWrong_29 rfl (lv_at hl 2 rfl) ?_
      exact mR_iret C dX0_firstWrong_30 (by rw [hR, hst, if_neg hq])
