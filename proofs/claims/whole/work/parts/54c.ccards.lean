theorem hd_X1_add : yX1_add.cls = RX1 ∧ yX1_add.cls ≠ "java/lang/invoke/MethodHandle" ∧ yX1_add.cls ≠ "java/lang/invoke/VarHandle" ∧ (parseMethodDescriptor yX1_add.desc).map (fun d => d.parameters.length) = some 4 := by decide +kernel
set_option maxRecDepth 100000 in
set_option maxHeartbeats 4000000 in
theorem c_X1_add (l : Launch) (G : gG) (q0 : Nat) (q1 : Nat) (q2 : Nat) (q3 : Nat) (q4 : Nat) (q5 : Nat) (i : Nat → Int32) (es : Nat → Int32) (cd : Nat → Int32) (su : Nat → Int32) (cm : Nat) (p : Int32) (c : Int32) (q : Int32) (v : Prop) [Decidable v] (hcm : i 13 = nI cm) (hcl : cm ≤ 6) : mX l yX1_add wsX1_add ({ frames := 0, cells := 0, slots := 0, locals := 0 }) G (aW G q0 q1 q2 q3 q4 q5 i es cd su) (aW G q0 q1 q2 q3 q4 q5 (upd i 13 (if cm = 6 then i 13 else nI (cm + 1))) es (if cm = 6 then cd else caF cd cm p c q (bI v)) su) [.ref q0, .int p, .int c, .int q, .int (bI (v))] (.returned (some (.int (bI (¬ cm = 6))))) := by
  refine mX.of (cc := cX1_add) (maxL := 5) (ret := (some .boolean)) (by decide) rfl (Nat.le_of_ble_eq_true rfl) ?_
  intro zp ze zs zm zb zt zc ls A hAe C hP hK hD hS hl
  obtain ⟨hx, hb, hr, hml, hown, hts, hlk⟩ := id C
  have hl : lv_has ls 5 [(0, .ref q0), (1, .int p), (2, .int c), (3, .int q), (4, .int (bI (v)))] := hl
  have k0 := hts (.fieldLink RX1 28 "DebtDowry$Cards" "count" "I") (by decide +kernel)
  have k1 := (fun w h => by revert w; decide +kernel : ∀ w ∈ wsX10, w ∈ wsX1_add)
  have k2 := hts (.fieldLink RX1 9 "DebtDowry$Cards" "person" "[I") (by decide +kernel)
  have k3 := hts (.fieldLink RX1 15 "DebtDowry$Cards" "creditor" "[I") (by decide +kernel)
  have k4 := hts (.fieldLink RX1 18 "DebtDowry$Cards" "quarters" "[I") (by decide +kernel)
  have k5 := hts (.fieldLink RX1 21 "DebtDowry$Cards" "civil" "[Z") (by decide +kernel)
  refine lv_aload_n hx hb dX1_add_0 rfl (lv_at hl 0 rfl) ?_
  refine va_get (D := G.1) (ci := 1) (v := .int (i 13)) (C := RX1) (T := TX1) (N := 7) hx hb hts k1 hown hK hP 0 rfl rfl 4 (by decide) k0 (fun _ h9 => h9) rfl dX1_add_1 ?_
  refine lv_bipush (v := 6) hx hb dX1_add_4 (by decide) ?_
  refine n_icmp_lt (tgt := 11) hx hb dX1_add_6 (by decide) (u := cm) (v := 6) hcm rfl (by omega) (by omega) (fun cq1 => ?_) (fun cq1 => ?_)
  · skip
    refine lv_aload_n hx hb dX1_add_11 rfl (lv_at hl 0 rfl) ?_
    refine va_get (D := G.1) (ci := 1) (v := .ref q1) (C := RX1) (T := TX1) (N := 7) hx hb hts k1 hown hK hP 0 rfl rfl 0 (by decide) k2 (fun _ h9 => h9) rfl dX1_add_12 ?_
    refine lv_aload_n hx hb dX1_add_15 rfl (lv_at hl 0 rfl) ?_
    refine va_get (D := G.1) (ci := 1) (v := .int (i 13)) (C := RX1) (T := TX1) (N := 7) hx hb hts k1 hown hK hP 0 rfl rfl 4 (by decide) k0 (fun _ h9 => h9) rfl dX1_add_16 ?_
    refine lv_iload_n hx hb dX1_add_19 rfl (lv_at hl 1 rfl) ?_
    refine n_iastQ hx hb hK hP hD hS 1 0 rfl rfl (x := p) (j := cm) hcm (by omega) (by decide) dX1_add_20 (wsn := aW G q0 q1 q2 q3 q4 q5 i es (upd cd (4 * cm) p) su) (aW_r1 (by omega)) (fun H locs hP hD hS => ?_)
    refine lv_aload_n hx hb dX1_add_21 rfl (lv_at hl 0 rfl) ?_
    refine va_get (D := G.1) (ci := 1) (v := .ref q2) (C := RX1) (T := TX1) (N := 7) hx hb hts k1 hown hK hP 0 rfl rfl 1 (by decide) k3 (fun _ h9 => h9) rfl dX1_add_22 ?_
    refine lv_aload_n hx hb dX1_add_25 rfl (lv_at hl 0 rfl) ?_
    refine va_get (D := G.1) (ci := 1) (v := .int (i 13)) (C := RX1) (T := TX1) (N := 7) hx hb hts k1 hown hK hP 0 rfl rfl 4 (by decide) k0 (fun _ h9 => h9) rfl dX1_add_26 ?_
    refine lv_iload_n hx hb dX1_add_29 rfl (lv_at hl 2 rfl) ?_
    refine n_iastQ hx hb hK hP hD hS 2 0 rfl rfl (x := c) (j := cm) hcm (by omega) (by decide) dX1_add_30 (wsn := aW G q0 q1 q2 q3 q4 q5 i es (upd (upd cd (4 * cm) p) (4 * cm + 1) c) su) (aW_r2 (by omega)) (fun H locs hP hD hS => ?_)
    refine lv_aload_n hx hb dX1_add_31 rfl (lv_at hl 0 rfl) ?_
    refine va_get (D := G.1) (ci := 1) (v := .ref q3) (C := RX1) (T := TX1) (N := 7) hx hb hts k1 hown hK hP 0 rfl rfl 2 (by decide) k4 (fun _ h9 => h9) rfl dX1_add_32 ?_
    refine lv_aload_n hx hb dX1_add_35 rfl (lv_at hl 0 rfl) ?_
    refine va_get (D := G.1) (ci := 1) (v := .int (i 13)) (C := RX1) (T := TX1) (N := 7) hx hb hts k1 hown hK hP 0 rfl rfl 4 (by decide) k0 (fun _ h9 => h9) rfl dX1_add_36 ?_
    refine lv_iload_n hx hb dX1_add_39 rfl (lv_at hl 3 rfl) ?_
    refine n_iastQ hx hb hK hP hD hS 3 0 rfl rfl (x := q) (j := cm) hcm (by omega) (by decide) dX1_add_40 (wsn := aW G q0 q1 q2 q3 q4 q5 i es (upd (upd (upd cd (4 * cm) p) (4 * cm + 1) c) (4 * cm + 2) q) su) (aW_r3 (by omega)) (fun H locs hP hD hS => ?_)
    refine lv_aload_n hx hb dX1_add_41 rfl (lv_at hl 0 rfl) ?_
    refine va_get (D := G.1) (ci := 1) (v := .ref q4) (C := RX1) (T := TX1) (N := 7) hx hb hts k1 hown hK hP 0 rfl rfl 3 (by decide) k5 (fun _ h9 => h9) rfl dX1_add_42 ?_
    refine lv_aload_n hx hb dX1_add_45 rfl (lv_at hl 0 rfl) ?_
    refine va_get (D := G.1) (ci := 1) (v := .int (i 13)) (C := RX1) (T := TX1) (N := 7) hx hb hts k1 hown hK hP 0 rfl rfl 4 (by decide) k0 (fun _ h9 => h9) rfl dX1_add_46 ?_
    refine lv_iload hx hb dX1_add_49 (lv_at hl 4 rfl) ?_
    refine n_zastQ hx hb hK hP hD hS 4 1 rfl rfl (x := (bI (v))) (j := cm) hcm (by omega) (by decide) (nar_bI _) dX1_add_51 (wsn := aW G q0 q1 q2 q3 q4 q5 i es (upd (upd (upd (upd cd (4 * cm) p) (4 * cm + 1) c) (4 * cm + 2) q) (4 * cm + 3) (bI (v))) su) (aW_r4 (by omega)) (fun H locs hP hD hS => ?_)
    refine lv_aload_n hx hb dX1_add_52 rfl (lv_at hl 0 rfl) ?_
    refine lv_dup hx hb dX1_add_53 rfl ?_
    refine va_get (D := G.1) (ci := 1) (v := .int (i 13)) (C := RX1) (T := TX1) (N := 7) hx hb hts k1 hown hK hP 0 rfl rfl 4 (by decide) k0 (fun _ h9 => h9) rfl dX1_add_54 ?_
    refine lv_iconst (v := 1) hx hb dX1_add_57 (by decide) ?_
    refine n_iadd hx hb dX1_add_58 (u := cm) (v := 1) hcm rfl (j := cm + 1) (by omega) ?_
    refine n_putQ (D := G.1) (wsn := aW G q0 q1 q2 q3 q4 q5 (upd i 13 (nI (cm + 1))) es (upd (upd (upd (upd cd (4 * cm) p) (4 * cm + 1) c) (4 * cm + 2) q) (4 * cm + 3) (bI (v))) su) (ci := 1) (v := .int (nI (cm + 1))) (ty := .int) (C := RX1) (T := TX1) (N := 7) hx hb hts k1 tyX1 tyX1_ok nmX1 hown hK hP hD hS 0 rfl rfl 4 (by decide) k0 (fun _ h9 => h9) rfl (by decide +kernel) rfl rfl (Nat.le_of_ble_eq_true rfl) aW_p0_4 dX1_add_59 (fun H locs hP hD hS => ?_)
    refine lv_iconst (v := 1) hx hb dX1_add_62 (by decide) ?_
    have hP : va_P G.1 vwCl (aW G q0 q1 q2 q3 q4 q5 (upd i 13 (if cm = 6 then i 13 else nI (cm + 1))) es (if cm = 6 then cd else caF cd cm p c q (bI v)) su) H := by rw [show (upd i 13 (if cm = 6 then i 13 else nI (cm + 1))) = (upd i 13 (nI (cm + 1))) from by first | (rw [if_neg (show ¬ cm = 6 by omega)]; done) | (rw [if_pos (show cm = 6 by omega)]; exact upd_self rfl), show (if cm = 6 then cd else caF cd cm p c q (bI v)) = (upd (upd (upd (upd cd (4 * cm) p) (4 * cm + 1) c) (4 * cm + 2) q) (4 * cm + 3) (bI (v))) from by first | exact if_neg (show ¬ cm = 6 by omega) | exact if_pos (show cm = 6 by omega)]; exact hP
    exact mX_zret hAe C hP hS dX1_add_63 (by decide) ((bI_t (by omega)).symm)
  · skip
    refine lv_iconst (v := 0) hx hb dX1_add_9 (by decide) ?_
    have hP : va_P G.1 vwCl (aW G q0 q1 q2 q3 q4 q5 (upd i 13 (if cm = 6 then i 13 else nI (cm + 1))) es (if cm = 6 then cd else caF cd cm p c q (bI v)) su) zs.heap := by rw [show (upd i 13 (if cm = 6 then i 13 else nI (cm + 1))) = i from by first | (rw [if_neg (show ¬ cm = 6 by omega)]; done) | (rw [if_pos (show cm = 6 by omega)]; exact upd_self rfl), show (if cm = 6 then cd else caF cd cm p c q (bI v)) = cd from by first | exact if_neg (show ¬ cm = 6 by omega) | exact if_pos (show cm = 6 by omega)]; exact hP
    exact mX_zret hAe C hP hS dX1_add_10 (by decide) ((bI_f (by omega)).symm)
theorem hd_X1_behind : yX1_behind.cls ≠ "java/lang/invoke/MethodHandle" ∧ yX1_behind.cls ≠ "java/lang/invoke/VarHandle" ∧ (parseMethodDescriptor yX1_behind.desc).map (fun d => d.parameters.length) = some 3 := by decide +kernel
set_option maxRecDepth 100000 in
set_option maxHeartbeats 4000000 in
theorem c_X1_behind (l : Launch) (G : gG) (b0 : Nat) (b1 : Nat) (b2 : Nat) (b3 : Nat) (t : Nat → Int32) (v : Int32) (q : Nat) (hq : q < 2147483648) : mR l yX1_behind wsX1_behind ({ frames := 2, cells := 0, slots := 0, locals := 42 }) G (kW G b0 b1 b2 b3 t) [.ref b0, .int v, .int (nI q)] (grU (t 1) v q) := by
  refine mR.of (cc := cX1_behind) (maxL := 5) (ret := (some .int)) (by decide) rfl (Nat.le_of_ble_eq_true rfl) ?_
  intro zp ze zs zm zb zt zc ls C hP hK hl
  obtain ⟨hx, hb, hr, hml, hown, hts, hlk⟩ := id C
  have hl : lv_has ls 5 [(0, .ref b0), (1, .int v), (2, .int (nI q))] := hl
  refine lv_iload_n hx hb dX1_behind_0 rfl (lv_at hl 1 rfl) ?_
  refine lv_istore_n (lv' := [(3, .int v), (0, .ref b0), (1, .int v), (2, .int (nI q))]) hx hb dX1_behind_1 rfl hl (by decide) rfl (fun ls hl => ?_)
  refine lv_iconst (v := 0) hx hb dX1_behind_2 (by decide) ?_
  refine lv_istore (lv' := [(4, .int 0), (3, .int v), (0, .ref b0), (1, .int v), (2, .int (nI q))]) hx hb dX1_behind_3 hl (by decide) rfl (fun ls hl => ?_)
  refine wl_R (B := q) (i0 := 0) (Inv := fun i1 ls => lv_has ls 5 [(0, .ref b0), (1, .int v), (2, .int (nI q)), (3, .int (grU (t 1) v i1)), (4, .int (nI i1))] ∧ True) (by omega) ⟨lv_sub hl [2, 3, 4, 1, 0] (rfl), trivial⟩ ?_
  rintro i1 ls hle5 ⟨hl, -⟩ ih5
  refine lv_iload hx hb dX1_behind_5 (lv_at hl 4 rfl) ?_
  refine lv_iload_n hx hb dX1_behind_7 rfl (lv_at hl 2 rfl) ?_
  refine n_icmp_ge (tgt := 23) hx hb dX1_behind_8 (by decide) (u := i1) (v := q) rfl rfl (by omega) (by omega) (fun cq1 => ?_) (fun cq1 => ?_)
  · skip
    obtain rfl : q = i1 := by omega
    refine lv_iload_n hx hb dX1_behind_23 rfl (lv_at hl 3 rfl) ?_
    exact mR_iret C dX1_behind_24 (rfl)
  · skip
    refine lv_aload_n hx hb dX1_behind_11 rfl (lv_at hl 0 rfl) ?_
    refine lv_iload_n hx hb dX1_behind_12 rfl (lv_at hl 3 rfl) ?_
    refine cR_V (Cn := RX8) (n := 1) (As := [.int (grU (t 1) v i1)]) (rest := []) C (c_X8_grown l G b0 b1 b2 b3 t  (grU (t 1) v i1) ) gX1_behind_X8_grown rfl ⟨rfl, rfl⟩ hd_X8_grown ⟨(Nat.le_of_ble_eq_true rfl), (Nat.le_of_ble_eq_true rfl)⟩ hK hP (va_recv hK hP (ci := 8) (q0 := 0) rfl rfl) rfl hl.1 rfl (Nat.le_of_ble_eq_true rfl) dX1_behind_13 ⟨(Nat.le_of_ble_eq_true rfl), (Nat.le_of_ble_eq_true rfl)⟩ ?_
    refine lv_istore_n (lv' := [(3, .int (growI (grU (t 1) v i1) (t 1))), (0, .ref b0), (1, .int v), (2, .int (nI q)), (4, .int (nI i1))]) hx hb dX1_behind_16 rfl hl (by decide) rfl (fun ls hl => ?_)
    refine lv_iinc (v := nI (i1 + 1)) (lv' := [(4, .int (nI (i1 + 1))), (3, .int (growI (grU (t 1) v i1) (t 1))), (0, .ref b0), (1, .int v), (2, .int (nI q))]) hx hb dX1_behind_17 hl (k := 4) rfl (by rw [show (nI i1 : Int32) = nI i1 from rfl]; exact nI_add _ 1) (by decide) rfl (fun ls hl => ?_)
    refine lv_goto (tgt := 5) hx hb dX1_behind_20 (by decide) ?_
    exact ih5 _ (by omega) ⟨lv_sub hl [2, 3, 4, 1, 0] (rfl), trivial⟩
theorem hd_X1_fits : yX1_fits.cls = RX1 ∧ yX1_fits.cls ≠ "java/lang/invoke/MethodHandle" ∧ yX1_fits.cls ≠ "java/lang/invoke/VarHandle" ∧ (parseMethodDescriptor yX1_fits.desc).map (fun d => d.parameters.length) = some 4 := by decide +kernel
set_option maxRecDepth 100000 in
set_option maxHeartbeats 4000000 in
theorem c_X1_fits (l : Launch) (G : gG) (q0 : Nat) (q1 : Nat) (q2 : Nat) (q3 : Nat) (q4 : Nat) (q5 : Nat) (b0 : Nat) (b1 : Nat) (b2 : Nat) (b3 : Nat) (i : Nat → Int32) (es : Nat → Int32) (cd : Nat → Int32) (su : Nat → Int32) (t : Nat → Int32) (cm : Nat) (p : Nat) (c : Nat) (v : Int32) (hcm : i 13 = nI cm) (hcl : cm ≤ 6) (hQ : ∀ k, k < cm → ∃ q, q ≤ 12 ∧ cd (4 * k + 2) = nI q) (hB3 : ∀ k, k < cm → cd (4 * k + 3) = 0 ∨ cd (4 * k + 3) = 1) (hc : c < 4) : mR l yX1_fits wsX1_fits ({ frames := 3, cells := 0, slots := 0, locals := 66 }) G (atW G q0 q1 q2 q3 q4 q5 b0 b1 b2 b3 i es cd su t) [.ref q0, .ref b0, .int (nI p), .int (nI c), .int v] (bI (fitB t cd p c v cm = true)) := by
  refine mR.of (cc := cX1_fits) (maxL := 7) (ret := (some .boolean)) (by decide) rfl (Nat.le_of_ble_eq_true rfl) ?_
  intro zp ze zs zm zb zt zc ls C hP hK hl
  obtain ⟨hx, hb, hr, hml, hown, hts, hlk⟩ := id C
  have hl : lv_has ls 7 [(0, .ref q0), (1, .ref b0), (2, .int (nI p)), (3, .int (nI c)), (4, .int v)] := hl
  have k0 := hts (.fieldLink RX1 28 "DebtDowry$Cards" "count" "I") (by decide +kernel)
  have k1 := (fun w h => by revert w; decide +kernel : ∀ w ∈ wsX10, w ∈ wsX1_fits)
  have k2 := hts (.fieldLink RX1 9 "DebtDowry$Cards" "person" "[I") (by decide +kernel)
  have k3 := hts (.fieldLink RX1 15 "DebtDowry$Cards" "creditor" "[I") (by decide +kernel)
  have k4 := hts (.fieldLink RX1 18 "DebtDowry$Cards" "quarters" "[I") (by decide +kernel)
  have k5 := hts (.fieldLink RX1 21 "DebtDowry$Cards" "civil" "[Z") (by decide +kernel)
  refine lv_iconst (v := 0) hx hb dX1_fits_0 (by decide) ?_
  refine lv_istore (lv' := [(5, .int 0), (0, .ref q0), (1, .ref b0), (2, .int (nI p)), (3, .int (nI c)), (4, .int v)]) hx hb dX1_fits_1 hl (by decide) rfl (fun ls hl => ?_)
  refine wl_R (B := cm) (i0 := 0) (Inv := fun i1 ls => lv_has ls 7 [(0, .ref q0), (1, .ref b0), (2, .int (nI p)), (3, .int (nI c)), (4, .int v), (5, .int (nI i1))] ∧ fitB t cd p c v i1 = true) (by omega) ⟨lv_sub hl [1, 2, 3, 4, 5, 0] (rfl), (rfl)⟩ ?_
  rintro i1 ls hle3 ⟨hl, hfit⟩ ih3
  refine lv_iload hx hb dX1_fits_3 (lv_at hl 5 rfl) ?_
  refine lv_aload_n hx hb dX1_fits_5 rfl (lv_at hl 0 rfl) ?_
  refine va_get (D := G.1) (ci := 1) (v := .int (i 13)) (C := RX1) (T := TX1) (N := 7) hx hb hts k1 hown hK hP 0 rfl rfl 4 (by decide) k0 (fun _ h9 => h9) rfl dX1_fits_6 ?_
  refine n_icmp_ge (tgt := 82) hx hb dX1_fits_9 (by decide) (u := i1) (v := cm) rfl hcm (by omega) (by omega) (fun cq1 => ?_) (fun cq1 => ?_)
  · skip
    refine lv_iconst (v := 1) hx hb dX1_fits_82 (by decide) ?_
    exact mR_zret C dX1_fits_83 (by decide) (by rw [show cm = i1 by omega]; exact (bI_t hfit).symm)
  · skip
    refine lv_aload_n hx hb dX1_fits_12 rfl (lv_at hl 0 rfl) ?_
    refine va_get (D := G.1) (ci := 1) (v := .ref q1) (C := RX1) (T := TX1) (N := 7) hx hb hts k1 hown hK hP 0 rfl rfl 0 (by decide) k2 (fun _ h9 => h9) rfl dX1_fits_13 ?_
    refine lv_iload hx hb dX1_fits_16 (lv_at hl 5 rfl) ?_
    refine n_iald hx hb hK hP 1 0 rfl rfl (j := i1) rfl (by omega) (by decide) dX1_fits_18 ?_
    refine lv_iload_n hx hb dX1_fits_19 rfl (lv_at hl 2 rfl) ?_
    refine lv_icmp_ne (tgt := 38) hx hb dX1_fits_20 (by decide) (fun cq2 => ?_) (fun cq2 => ?_)
    · skip
      have hok : okkB t cd p c v i1 := fun q => absurd q.1 cq2
      refine lv_iconst (v := 0) hx hb dX1_fits_38 (by decide) ?_
      refine lv_istore (lv' := [(6, .int 0), (0, .ref q0), (1, .ref b0), (2, .int (nI p)), (3, .int (nI c)), (4, .int v), (5, .int (nI i1))]) hx hb dX1_fits_39 hl (by decide) rfl (fun ls hl => ?_)
      refine lv_iload hx hb dX1_fits_41 (lv_at hl 0 rfl) ?_
      refine lv_if_eq (tgt := 76) hx hb dX1_fits_43 (by decide) (fun cq3 => ?_) (fun cq3 => ?_)
      rotate_left
      · exact absurd cq3 (by decide)
      refine lv_iinc (v := nI (i1 + 1)) (lv' := [(5, .int (nI (i1 + 1))), (6, .int 0), (0, .ref q0), (1, .ref b0), (2, .int (nI p)), (3, .int (nI c)), (4, .int v)]) hx hb dX1_fits_76 hl (k := 6) rfl (by rw [show (nI i1 : Int32) = nI i1 from rfl]; exact nI_add _ 1) (by decide) rfl (fun ls hl => ?_)
      refine lv_goto (tgt := 3) hx hb dX1_fits_79 (by decide) ?_
      exact ih3 _ (by omega) ⟨lv_sub hl [2, 3, 4, 5, 6, 0] (rfl), (by show (fitB t cd p c v i1 && decide (okkB t cd p c v i1)) = true; rw [hfit, Bool.true_and]; exact decide_eq_true hok)⟩
    · skip
      have h22 := cq2
      refine lv_aload_n hx hb dX1_fits_23 rfl (lv_at hl 0 rfl) ?_
      refine va_get (D := G.1) (ci := 1) (v := .ref q2) (C := RX1) (T := TX1) (N := 7) hx hb hts k1 hown hK hP 0 rfl rfl 1 (by decide) k3 (fun _ h9 => h9) rfl dX1_fits_24 ?_
      refine lv_iload hx hb dX1_fits_27 (lv_at hl 5 rfl) ?_
      refine n_iald hx hb hK hP 2 0 rfl rfl (j := i1) rfl (by omega) (by decide) dX1_fits_29 ?_
      refine lv_iload_n hx hb dX1_fits_30 rfl (lv_at hl 3 rfl) ?_
      refine lv_icmp_ne (tgt := 38) hx hb dX1_fits_31 (by decide) (fun cq4 => ?_) (fun cq4 => ?_)
      · skip
        have hok : okkB t cd p c v i1 := fun q => absurd q.2 cq4
        refine lv_iconst (v := 0) hx hb dX1_fits_38 (by decide) ?_
        refine lv_istore (lv' := [(6, .int 0), (0, .ref q0), (1, .ref b0), (2, .int (nI p)), (3, .int (nI c)), (4, .int v), (5, .int (nI i1))]) hx hb dX1_fits_39 hl (by decide) rfl (fun ls hl => ?_)
        refine lv_iload hx hb dX1_fits_41 (lv_at hl 0 rfl) ?_
        refine lv_if_eq (tgt := 76) hx hb dX1_fits_43 (by decide) (fun cq5 => ?_) (fun cq5 => ?_)
        rotate_left
        · exact absurd cq5 (by decide)
        refine lv_iinc (v := nI (i1 + 1)) (lv' := [(5, .int (nI (i1 + 1))), (6, .int 0), (0, .ref q0), (1, .ref b0), (2, .int (nI p)), (3, .int (nI c)), (4, .int v)]) hx hb dX1_fits_76 hl (k := 6) rfl (by rw [show (nI i1 : Int32) = nI i1 from rfl]; exact nI_add _ 1) (by decide) rfl (fun ls hl => ?_)
        refine lv_goto (tgt := 3) hx hb dX1_fits_79 (by decide) ?_
        exact ih3 _ (by omega) ⟨lv_sub hl [2, 3, 4, 5, 6, 0] (rfl), (by show (fitB t cd p c v i1 && decide (okkB t cd p c v i1)) = true; rw [hfit, Bool.true_and]; exact decide_eq_true hok)⟩
      · skip
        have h35 := cq4
        refine lv_iconst (v := 1) hx hb dX1_fits_34 (by decide) ?_
        refine lv_goto (tgt := 39) hx hb dX1_fits_35 (by decide) ?_
        refine lv_istore (lv' := [(6, .int 1), (0, .ref q0), (1, .ref b0), (2, .int (nI p)), (3, .int (nI c)), (4, .int v), (5, .int (nI i1))]) hx hb dX1_fits_39 hl (by decide) rfl (fun ls hl => ?_)
        refine lv_iload hx hb dX1_fits_41 (lv_at hl 0 rfl) ?_
        refine lv_if_eq (tgt := 76) hx hb dX1_fits_43 (by decide) (fun cq6 => ?_) (fun cq6 => ?_)
        · exact absurd cq6 (by decide)
        obtain ⟨qq, hq1, hqe⟩ := hQ i1 (by omega)
        have hcq : cl (cd (4 * i1 + 2)) = qq := by rw [hqe]; exact cl_nI (by omega)
        refine lv_aload_n hx hb dX1_fits_46 rfl (lv_at hl 2 rfl) ?_
        refine lv_iload_n hx hb dX1_fits_47 rfl (lv_at hl 4 rfl) ?_
        refine lv_aload_n hx hb dX1_fits_48 rfl (lv_at hl 2 rfl) ?_
        refine lv_iload hx hb dX1_fits_49 (lv_at hl 5 rfl) ?_
        refine lv_aload_n hx hb dX1_fits_51 rfl (lv_at hl 1 rfl) ?_
        refine va_get (D := G.1) (ci := 1) (v := .ref q3) (C := RX1) (T := TX1) (N := 7) hx hb hts k1 hown hK hP 0 rfl rfl 2 (by decide) k4 (fun _ h9 => h9) rfl dX1_fits_52 ?_
        refine lv_iload hx hb dX1_fits_55 (lv_at hl 6 rfl) ?_
        refine n_iald hx hb hK hP 3 0 rfl rfl (j := i1) rfl (by omega) (by decide) dX1_fits_57 ?_
        refine cR_S (n := 3) (As := [.ref b0, .int v, .int (nI qq)]) (rest := [.int (nI c), .ref b0]) C (c_X1_behind l G b0 b1 b2 b3 t  v qq (by omega)) gX1_fits_X1_behind rfl ⟨rfl, rfl⟩ hd_X1_behind ⟨(Nat.le_of_ble_eq_true rfl), (Nat.le_of_ble_eq_true rfl)⟩ hK (hP.sub [6, 7, 8, 9] rfl) rfl hl.1 (by rw [show (cd (4 * i1 + 2) : Int32) = nI qq from hqe]; rfl) (Nat.le_of_ble_eq_true rfl) dX1_fits_58 ⟨(Nat.le_of_ble_eq_true rfl), (Nat.le_of_ble_eq_true rfl)⟩ ?_
        refine cR_V (Cn := RX8) (n := 2) (As := [.int (nI c), .int (grU (t 1) v qq)]) (rest := []) C (c_X8_within l G b0 b1 b2 b3 t  c (grU (t 1) v qq) (by omega)) gX1_fits_X8_within rfl ⟨rfl, rfl⟩ hd_X8_within ⟨(Nat.le_of_ble_eq_true rfl), (Nat.le_of_ble_eq_true rfl)⟩ hK (hP.sub [6, 7, 8, 9] rfl) (va_recv hK hP (ci := 8) (q0 := 6) rfl rfl) rfl hl.1 rfl (Nat.le_of_ble_eq_true rfl) dX1_fits_61 ⟨(Nat.le_of_ble_eq_true rfl), (Nat.le_of_ble_eq_true rfl)⟩ ?_
        refine lv_aload_n hx hb dX1_fits_64 rfl (lv_at hl 1 rfl) ?_
        refine va_get (D := G.1) (ci := 1) (v := .ref q4) (C := RX1) (T := TX1) (N := 7) hx hb hts k1 hown hK hP 0 rfl rfl 3 (by decide) k5 (fun _ h9 => h9) rfl dX1_fits_65 ?_
        refine lv_iload hx hb dX1_fits_68 (lv_at hl 6 rfl) ?_
        refine n_zald hx hb hK hP 4 1 rfl rfl (j := i1) rfl (by omega) (by decide) dX1_fits_70 ?_
        refine lv_icmp_eq (tgt := 76) hx hb dX1_fits_71 (by decide) (fun cq7 => ?_) (fun cq7 => ?_)
        · skip
          have hok : okkB t cd p c v i1 := fun _ => by rw [hcq]; exact (bI_01 (hB3 i1 (by omega))).mp cq7
          refine lv_iinc (v := nI (i1 + 1)) (lv' := [(5, .int (nI (i1 + 1))), (6, .int 1), (0, .ref q0), (1, .ref b0), (2, .int (nI p)), (3, .int (nI c)), (4, .int v)]) hx hb dX1_fits_76 hl (k := 6) rfl (by rw [show (nI i1 : Int32) = nI i1 from rfl]; exact nI_add _ 1) (by decide) rfl (fun ls hl => ?_)
          refine lv_goto (tgt := 3) hx hb dX1_fits_79 (by decide) ?_
          exact ih3 _ (by omega) ⟨lv_sub hl [2, 3, 4, 5, 6, 0] (rfl), (by show (fitB t cd p c v i1 && decide (okkB t cd p c v i1)) = true; rw [hfit, Bool.true_and]; exact decide_eq_true hok)⟩
        · skip
          have hno : ¬ okkB t cd p c v i1 := fun q => cq7 ((bI_01 (hB3 i1 (by omega))).mpr (by have q2 := q ⟨h22, h35⟩; rw [hcq] at q2; exact q2))
          refine lv_iconst (v := 0) hx hb dX1_fits_74 (by decide) ?_
          exact mR_zret C dX1_fits_75 (by decide) ((bI_f (fun h => absurd (h.symm.trans (fitB_f hno cm (by omega))) (by decide))).symm)
theorem hd_X1_sift : yX1_sift.cls = RX1 ∧ yX1_sift.cls ≠ "java/lang/invoke/MethodHandle" ∧ yX1_sift.cls ≠ "java/lang/invoke/VarHandle" ∧ (parseMethodDescriptor yX1_sift.desc).map (fun d => d.parameters.length) = some 3 := by decide +kernel
set_option maxRecDepth 100000 in
set_option maxHeartbeats 4000000 in
theorem c_X1_sift (l : Launch) (G : gG) (q0 : Nat) (q1 : Nat) (q2 : Nat) (q3 : Nat) (q4 : Nat) (q5 : Nat) (b0 : Nat) (b1 : Nat) (b2 : Nat) (b3 : Nat) (i : Nat → Int32) (es : Nat → Int32) (cd : Nat → Int32) (su : Nat → Int32) (t : Nat → Int32) (cm : Nat) (p : Nat) (c : Nat) (hcm : i 13 = nI cm) (hcl : cm ≤ 6) (hQ : ∀ k, k < cm → ∃ q, q ≤ 12 ∧ cd (4 * k + 2) = nI q) (hB3 : ∀ k, k < cm → cd (4 * k + 3) = 0 ∨ cd (4 * k + 3) = 1) (hc : c < 4) : mX l yX1_sift wsX1_sift ({ frames := 4, cells := 0, slots := 0, locals := 92 }) G (atW G q0 q1 q2 q3 q4 q5 b0 b1 b2 b3 i es cd su t) (atW G q0 q1 q2 q3 q4 q5 b0 b1 b2 b3 i (upd es 6 (nI (siN (fitP t cd cm p c) 100))) cd (siS (fitP t cd cm p c) su 100) t) [.ref q0, .ref b0, .int (nI p), .int (nI c)] (.returned none) := by
  refine mX.of (cc := cX1_sift) (maxL := 5) (ret := none) (by decide) rfl (Nat.le_of_ble_eq_true rfl) ?_
  intro zp ze zs zm zb zt zc ls A hAe C hP hK hD hS hl
  obtain ⟨hx, hb, hr, hml, hown, hts, hlk⟩ := id C
  have hl : lv_has ls 5 [(0, .ref q0), (1, .ref b0), (2, .int (nI p)), (3, .int (nI c))] := hl
  have k0 := hts (.fieldLink RX1 32 "DebtDowry$Cards" "fitting" "I") (by decide +kernel)
  have k1 := (fun w h => by revert w; decide +kernel : ∀ w ∈ wsX10, w ∈ wsX1_sift)
  have k2 := hts (.fieldLink RX1 25 "DebtDowry$Cards" "sums" "[I") (by decide +kernel)
  refine lv_aload_n hx hb dX1_sift_0 rfl (lv_at hl 0 rfl) ?_
  refine lv_iconst (v := 0) hx hb dX1_sift_1 (by decide) ?_
  refine n_putQ (D := G.1) (wsn := atW G q0 q1 q2 q3 q4 q5 b0 b1 b2 b3 i (upd es 6 0) cd su t) (ci := 1) (v := .int 0) (ty := .int) (C := RX1) (T := TX1) (N := 7) hx hb hts k1 tyX1 tyX1_ok nmX1 hown hK hP hD hS 0 rfl rfl 6 (by decide) k0 (fun _ h9 => h9) rfl (by decide +kernel) rfl rfl (Nat.le_of_ble_eq_true rfl) atW_p0_6 dX1_sift_2 (fun H locs hP hD hS => ?_)
  refine lv_iconst (v := 0) hx hb dX1_sift_5 (by decide) ?_
  refine lv_istore (lv' := [(4, .int 0), (0, .ref q0), (1, .ref b0), (2, .int (nI p)), (3, .int (nI c))]) hx hb dX1_sift_6 hl (by decide) rfl (fun ls hl => ?_)
  refine wl_X (B := 100) (i0 := 0) (Inv := fun i1 H locs ls => va_P G.1 vwCl (atW G q0 q1 q2 q3 q4 q5 b0 b1 b2 b3 i (upd es 6 (nI (siN (fitP t cd cm p c) i1))) cd (siS (fitP t cd cm p c) su i1) t) H ∧ va_D A (atW G q0 q1 q2 q3 q4 q5 b0 b1 b2 b3 i (upd es 6 (nI (siN (fitP t cd cm p c) i1))) cd (siS (fitP t cd cm p c) su i1) t) ∧ va_S A zs.heap H locs ∧ lv_has ls 5 [(0, .ref q0), (1, .ref b0), (2, .int (nI p)), (3, .int (nI c)), (4, .int (nI i1))] ∧ True) (by omega) ⟨hP, hD, hS, lv_sub hl [1, 2, 3, 4, 0] (rfl), trivial⟩ ?_
  rintro i1 H locs ls hle8 ⟨hP, hD, hS, hl, -⟩ ih8
  refine lv_iload hx hb dX1_sift_8 (lv_at hl 4 rfl) ?_
  refine lv_bipush (v := 100) hx hb dX1_sift_10 (by decide) ?_
  refine n_icmp_ge (tgt := 54) hx hb dX1_sift_12 (by decide) (u := i1) (v := 100) rfl rfl (by omega) (by omega) (fun cq1 => ?_) (fun cq1 => ?_)
  · skip
    obtain rfl : i1 = 100 := by omega
    exact mX_vret hAe C hP hS dX1_sift_54
  · skip
    refine lv_aload_n hx hb dX1_sift_15 rfl (lv_at hl 0 rfl) ?_
    refine lv_aload_n hx hb dX1_sift_16 rfl (lv_at hl 1 rfl) ?_
    refine lv_iload_n hx hb dX1_sift_17 rfl (lv_at hl 2 rfl) ?_
    refine lv_iload_n hx hb dX1_sift_18 rfl (lv_at hl 3 rfl) ?_
    refine lv_iload hx hb dX1_sift_19 (lv_at hl 4 rfl) ?_
    refine cR_V (Cn := RX1) (n := 4) (As := [.ref b0, .int (nI p), .int (nI c), .int (nI i1)]) (rest := []) C (c_X1_fits l G q0 q1 q2 q3 q4 q5 b0 b1 b2 b3 i (upd es 6 (nI (siN (fitP t cd cm p c) i1))) cd (siS (fitP t cd cm p c) su i1) t cm p c (nI i1) hcm hcl hQ hB3 (by omega)) gX1_sift_X1_fits rfl ⟨rfl, rfl⟩ hd_X1_fits ⟨(Nat.le_of_ble_eq_true rfl), (Nat.le_of_ble_eq_true rfl)⟩ hK hP (va_recv hK hP (ci := 1) (q0 := 0) rfl rfl) rfl hl.1 rfl (Nat.le_of_ble_eq_true rfl) dX1_sift_21 ⟨(Nat.le_of_ble_eq_true rfl), (Nat.le_of_ble_eq_true rfl)⟩ ?_
    refine b_if_eq (tgt := 48) hx hb dX1_sift_24 (by decide) (fun cq2 => ?_) (fun cq2 => ?_)
    · skip
      have hfi : ¬ fitP t cd cm p c i1 = true := cq2
      refine lv_iinc (v := nI (i1 + 1)) (lv' := [(4, .int (nI (i1 + 1))), (0, .ref q0), (1, .ref b0), (2, .int (nI p)), (3, .int (nI c))]) hx hb dX1_sift_48 hl (k := 4) rfl (by rw [show (nI i1 : Int32) = nI i1 from rfl]; exact nI_add _ 1) (by decide) rfl (fun ls hl => ?_)
      refine lv_goto (tgt := 8) hx hb dX1_sift_51 (by decide) ?_
      have e3 : (upd es 6 (nI (siN (fitP t cd cm p c) i1))) = (upd es 6 (nI (siN (fitP t cd cm p c) (i1 + 1)))) := by first | (rw [upd_upd, siN_t hfi]) | rw [siN_f hfi]
      have e4 : siS (fitP t cd cm p c) su i1 = siS (fitP t cd cm p c) su (i1 + 1) := by first | exact siS_t hfi | exact siS_f hfi
      rw [e3, e4] at hP hD
      exact ih8 _ _ _ (by omega) ⟨hP, hD, hS, lv_sub hl [1, 2, 3, 4, 0] (rfl), trivial⟩
    · skip
      have hfi : fitP t cd cm p c i1 = true := cq2
      refine lv_aload_n hx hb dX1_sift_27 rfl (lv_at hl 0 rfl) ?_
      refine va_get (D := G.1) (ci := 1) (v := .ref q5) (C := RX1) (T := TX1) (N := 7) hx hb hts k1 hown hK hP 0 rfl rfl 5 (by decide) k2 (fun _ h9 => h9) rfl dX1_sift_28 ?_
      refine lv_aload_n hx hb dX1_sift_31 rfl (lv_at hl 0 rfl) ?_
      refine va_get (D := G.1) (ci := 1) (v := .int (nI (siN (fitP t cd cm p c) i1))) (C := RX1) (T := TX1) (N := 7) hx hb hts k1 hown hK hP 0 rfl rfl 6 (by decide) k0 (fun _ h9 => h9) rfl dX1_sift_32 ?_
      refine lv_iload hx hb dX1_sift_35 (lv_at hl 4 rfl) ?_
      refine n_iastQ hx hb hK hP hD hS 5 0 rfl rfl (x := (nI i1)) (j := siN (fitP t cd cm p c) i1) rfl (by have := siN_le (fitP t cd cm p c) i1; omega) (by decide) dX1_sift_37 (wsn := atW G q0 q1 q2 q3 q4 q5 b0 b1 b2 b3 i (upd es 6 (nI (siN (fitP t cd cm p c) i1))) cd (upd (siS (fitP t cd cm p c) su i1) (siN (fitP t cd cm p c) i1) (nI i1)) t) (atW_r5 (by have := siN_le (fitP t cd cm p c) i1; omega)) (fun H locs hP hD hS => ?_)
      refine lv_aload_n hx hb dX1_sift_38 rfl (lv_at hl 0 rfl) ?_
      refine lv_dup hx hb dX1_sift_39 rfl ?_
      refine va_get (D := G.1) (ci := 1) (v := .int (nI (siN (fitP t cd cm p c) i1))) (C := RX1) (T := TX1) (N := 7) hx hb hts k1 hown hK hP 0 rfl rfl 6 (by decide) k0 (fun _ h9 => h9) rfl dX1_sift_40 ?_
      refine lv_iconst (v := 1) hx hb dX1_sift_43 (by decide) ?_
      refine n_iadd hx hb dX1_sift_44 (u := siN (fitP t cd cm p c) i1) (v := 1) rfl rfl (j := (siN (fitP t cd cm p c) i1) + 1) (by omega) ?_
      refine n_putQ (D := G.1) (wsn := atW G q0 q1 q2 q3 q4 q5 b0 b1 b2 b3 i (upd (upd es 6 (nI (siN (fitP t cd cm p c) i1))) 6 (nI ((siN (fitP t cd cm p c) i1) + 1))) cd (upd (siS (fitP t cd cm p c) su i1) (siN (fitP t cd cm p c) i1) (nI i1)) t) (ci := 1) (v := .int (nI ((siN (fitP t cd cm p c) i1) + 1))) (ty := .int) (C := RX1) (T := TX1) (N := 7) hx hb hts k1 tyX1 tyX1_ok nmX1 hown hK hP hD hS 0 rfl rfl 6 (by decide) k0 (fun _ h9 => h9) rfl (by decide +kernel) rfl rfl (Nat.le_of_ble_eq_true rfl) atW_p0_6 dX1_sift_45 (fun H locs hP hD hS => ?_)
      refine lv_iinc (v := nI (i1 + 1)) (lv' := [(4, .int (nI (i1 + 1))), (0, .ref q0), (1, .ref b0), (2, .int (nI p)), (3, .int (nI c))]) hx hb dX1_sift_48 hl (k := 4) rfl (by rw [show (nI i1 : Int32) = nI i1 from rfl]; exact nI_add _ 1) (by decide) rfl (fun ls hl => ?_)
      refine lv_goto (tgt := 8) hx hb dX1_sift_51 (by decide) ?_
      have e5 : (upd (upd es 6 (nI (siN (fitP t cd cm p c) i1))) 6 (nI ((siN (fitP t cd cm p c) i1) + 1))) = (upd es 6 (nI (siN (fitP t cd cm p c) (i1 + 1)))) := by first | (rw [upd_upd, siN_t hfi]) | rw [siN_f hfi]
      have e6 : (upd (siS (fitP t cd cm p c) su i1) (siN (fitP t cd cm p c) i1) (nI i1)) = siS (fitP t cd cm p c) su (i1 + 1) := by first | exact siS_t hfi | exact siS_f hfi
      rw [e5, e6] at hP hD
      exact ih8 _ _ _ (by omega) ⟨hP, hD, hS, lv_sub hl [1, 2, 3, 4, 0] (rfl), trivial⟩
theorem hd_X1_leastSum : yX1_leastSum.cls = RX1 ∧ yX1_leastSum.cls ≠ "java/lang/invoke/MethodHandle" ∧ yX1_leastSum.cls ≠ "java/lang/invoke/VarHandle" ∧ (parseMethodDescriptor yX1_leastSum.desc).map (fun d => d.parameters.length) = some 0 := by decide +kernel
set_option maxRecDepth 100000 in
set_option maxHeartbeats 4000000 in
theorem c_X1_leastSum (l : Launch) (G : gG) (q0 : Nat) (q1 : Nat) (q2 : Nat) (q3 : Nat) (q4 : Nat) (q5 : Nat) (i : Nat → Int32) (es : Nat → Int32) (cd : Nat → Int32) (su : Nat → Int32) (m : Nat) (hf : es 6 = nI m) (hm : m ≤ 100) : mR l yX1_leastSum wsX1_leastSum ({ frames := 0, cells := 0, slots := 0, locals := 0 }) G (aW G q0 q1 q2 q3 q4 q5 i es cd su) [.ref q0] (if m = 0 then -1 else su 0) := by
  refine mR.of (cc := cX1_leastSum) (maxL := 1) (ret := (some .int)) (by decide) rfl (Nat.le_of_ble_eq_true rfl) ?_
  intro zp ze zs zm zb zt zc ls C hP hK hl
  obtain ⟨hx, hb, hr, hml, hown, hts, hlk⟩ := id C
  have hl : lv_has ls 1 [(0, .ref q0)] := hl
  have k0 := hts (.fieldLink RX1 32 "DebtDowry$Cards" "fitting" "I") (by decide +kernel)
  have k1 := (fun w h => by revert w; decide +kernel : ∀ w ∈ wsX10, w ∈ wsX1_leastSum)
  have k2 := hts (.fieldLink RX1 25 "DebtDowry$Cards" "sums" "[I") (by decide +kernel)
  refine lv_aload_n hx hb dX1_leastSum_0 rfl (lv_at hl 0 rfl) ?_
  refine va_get (D := G.1) (ci := 1) (v := .int (es 6)) (C := RX1) (T := TX1) (N := 7) hx hb hts k1 hown hK hP 0 rfl rfl 6 (by decide) k0 (fun _ h9 => h9) rfl dX1_leastSum_1 ?_
  refine lv_if_le (tgt := 16) hx hb dX1_leastSum_4 (by decide) (fun cq1 => ?_) (fun cq1 => ?_)
  · skip
    refine lv_iconst (v := (-1)) hx hb dX1_leastSum_16 (by decide) ?_
    exact mR_iret C dX1_leastSum_17 ((if_pos (np_0 hf (by omega) cq1)).symm)
  · skip
    refine lv_aload_n hx hb dX1_leastSum_7 rfl (lv_at hl 0 rfl) ?_
    refine va_get (D := G.1) (ci := 1) (v := .ref q5) (C := RX1) (T := TX1) (N := 7) hx hb hts k1 hown hK hP 0 rfl rfl 5 (by decide) k2 (fun _ h9 => h9) rfl dX1_leastSum_8 ?_
    refine lv_iconst (v := 0) hx hb dX1_leastSum_11 (by decide) ?_
    refine n_iald hx hb hK hP 5 0 rfl rfl (j := 0) rfl (by decide) (by decide) dX1_leastSum_12 ?_
    refine lv_goto (tgt := 17) hx hb dX1_leastSum_13 (by decide) ?_
    exact mR_iret C dX1_leastSum_17 ((if_neg (Nat.ne_of_gt (np_1 hf cq1))).symm)
theorem hd_X1_mostSum : yX1_mostSum.cls = RX1 ∧ yX1_mostSum.cls ≠ "java/lang/invoke/MethodHandle" ∧ yX1_mostSum.cls ≠ "java/lang/invoke/VarHandle" ∧ (parseMethodDescriptor yX1_mostSum.desc).map (fun d => d.parameters.length) = some 0 := by decide +kernel
set_option maxRecDepth 100000 in
set_option maxHeartbeats 4000000 in
theorem c_X1_mostSum (l : Launch) (G : gG) (q0 : Nat) (q1 : Nat) (q2 : Nat) (q3 : Nat) (q4 : Nat) (q5 : Nat) (i : Nat → Int32) (es : Nat → Int32) (cd : Nat → Int32) (su : Nat → Int32) (m : Nat) (hf : es 6 = nI m) (hm : m ≤ 100) : mR l yX1_mostSum wsX1_mostSum ({ frames := 0, cells := 0, slots := 0, locals := 0 }) G (aW G q0 q1 q2 q3 q4 q5 i es cd su) [.ref q0] (if m = 0 then -1 else su (m - 1)) := by
  refine mR.of (cc := cX1_mostSum) (maxL := 1) (ret := (some .int)) (by decide) rfl (Nat.le_of_ble_eq_true rfl) ?_
  intro zp ze zs zm zb zt zc ls C hP hK hl
  obtain ⟨hx, hb, hr, hml, hown, hts, hlk⟩ := id C
  have hl : lv_has ls 1 [(0, .ref q0)] := hl
  have k0 := hts (.fieldLink RX1 32 "DebtDowry$Cards" "fitting" "I") (by decide +kernel)
  have k1 := (fun w h => by revert w; decide +kernel : ∀ w ∈ wsX10, w ∈ wsX1_mostSum)
  have k2 := hts (.fieldLink RX1 25 "DebtDowry$Cards" "sums" "[I") (by decide +kernel)
  refine lv_aload_n hx hb dX1_mostSum_0 rfl (lv_at hl 0 rfl) ?_
  refine va_get (D := G.1) (ci := 1) (v := .int (es 6)) (C := RX1) (T := TX1) (N := 7) hx hb hts k1 hown hK hP 0 rfl rfl 6 (by decide) k0 (fun _ h9 => h9) rfl dX1_mostSum_1 ?_
  refine lv_if_le (tgt := 21) hx hb dX1_mostSum_4 (by decide) (fun cq1 => ?_) (fun cq1 => ?_)
  · skip
    refine lv_iconst (v := (-1)) hx hb dX1_mostSum_21 (by decide) ?_
    exact mR_iret C dX1_mostSum_22 ((if_pos (np_0 hf (by omega) cq1)).symm)
  · skip
    have hm0 := np_1 hf cq1
    refine lv_aload_n hx hb dX1_mostSum_7 rfl (lv_at hl 0 rfl) ?_
    refine va_get (D := G.1) (ci := 1) (v := .ref q5) (C := RX1) (T := TX1) (N := 7) hx hb hts k1 hown hK hP 0 rfl rfl 5 (by decide) k2 (fun _ h9 => h9) rfl dX1_mostSum_8 ?_
    refine lv_aload_n hx hb dX1_mostSum_11 rfl (lv_at hl 0 rfl) ?_
    refine va_get (D := G.1) (ci := 1) (v := .int (es 6)) (C := RX1) (T := TX1) (N := 7) hx hb hts k1 hown hK hP 0 rfl rfl 6 (by decide) k0 (fun _ h9 => h9) rfl dX1_mostSum_12 ?_
    refine lv_iconst (v := 1) hx hb dX1_mostSum_15 (by decide) ?_
    refine n_isub hx hb dX1_mostSum_16 (u := m) (v := 1) hf rfl (by omega) (j := m - 1) (by omega) ?_
    refine n_iald hx hb hK hP 5 0 rfl rfl (j := m - 1) rfl (by omega) (by decide) dX1_mostSum_17 ?_
    refine lv_goto (tgt := 22) hx hb dX1_mostSum_18 (by decide) ?_
    exact mR_iret C dX1_mostSum_22 ((if_neg (Nat.ne_of_gt (np_1 hf cq1))).symm)
theorem hd_X1_bestLook : yX1_bestLook.cls = RX1 ∧ yX1_bestLook.cls ≠ "java/lang/invoke/MethodHandle" ∧ yX1_bestLook.cls ≠ "java/lang/invoke/VarHandle" ∧ (parseMethodDescriptor yX1_bestLook.desc).map (fun d => d.parameters.length) = some 2 := by decide +kernel
set_option maxRecDepth 100000 in
set_option maxHeartbeats 4000000 in
theorem c_X1_bestLook (l : Launch) (G : gG) (q0 : Nat) (q1 : Nat) (q2 : Nat) (q3 : Nat) (q4 : Nat) (q5 : Nat) (b0 : Nat) (b1 : Nat) (b2 : Nat) (b3 : Nat) (i : Nat → Int32) (es : Nat → Int32) (cd : Nat → Int32) (su : Nat → Int32) (t : Nat → Int32) (m : Nat) (c : Nat) (hf : es 6 = nI m) (hm : m ≤ 100) (hc : c < 4) : mX l yX1_bestLook wsX1_bestLook ({ frames := 2, cells := 0, slots := 0, locals := 42 }) G (atW G q0 q1 q2 q3 q4 q5 b0 b1 b2 b3 i es cd su t) (atW G q0 q1 q2 q3 q4 q5 b0 b1 b2 b3 i es cd (grM t su m 13) t) [.ref q0, .ref b0, .int (nI c)] (.returned (some (.int (bkW t su c m (es 6) 13)))) := by
  refine mX.of (cc := cX1_bestLook) (maxL := 8) (ret := (some .int)) (by decide) rfl (Nat.le_of_ble_eq_true rfl) ?_
  intro zp ze zs zm zb zt zc ls A hAe C hP hK hD hS hl
  obtain ⟨hx, hb, hr, hml, hown, hts, hlk⟩ := id C
  have hl : lv_has ls 8 [(0, .ref q0), (1, .ref b0), (2, .int (nI c))] := hl
  have k0 := hts (.fieldLink RX1 32 "DebtDowry$Cards" "fitting" "I") (by decide +kernel)
  have k1 := (fun w h => by revert w; decide +kernel : ∀ w ∈ wsX10, w ∈ wsX1_bestLook)
  have k2 := hts (.methodLink RX1 53 Lib.Math.max.name) (by decide +kernel)
  have k3 := hts (.static Lib.Math.max.name) (by decide +kernel)
  have k4 := hts (.initialized "java/lang/Math") (by decide +kernel)
  have k5 := hts (.code Lib.Math.max.name Lib.Math.max.code 2 (some .int)) (by decide +kernel)
  have k6 := hts (.fieldLink RX1 25 "DebtDowry$Cards" "sums" "[I") (by decide +kernel)
  refine lv_iconst (v := (-1)) hx hb dX1_bestLook_0 (by decide) ?_
  refine lv_istore_n (lv' := [(3, .int (-1)), (0, .ref q0), (1, .ref b0), (2, .int (nI c))]) hx hb dX1_bestLook_1 rfl hl (by decide) rfl (fun ls hl => ?_)
  refine lv_aload_n hx hb dX1_bestLook_2 rfl (lv_at hl 1 rfl) ?_
  refine va_get (D := G.1) (ci := 1) (v := .int (es 6)) (C := RX1) (T := TX1) (N := 7) hx hb hts k1 hown hK hP 0 rfl rfl 6 (by decide) k0 (fun _ h9 => h9) rfl dX1_bestLook_3 ?_
  refine lv_istore (lv' := [(4, .int (es 6)), (3, .int (-1)), (0, .ref q0), (1, .ref b0), (2, .int (nI c))]) hx hb dX1_bestLook_6 hl (by decide) rfl (fun ls hl => ?_)
  refine lv_iconst (v := 0) hx hb dX1_bestLook_8 (by decide) ?_
  refine lv_istore (lv' := [(5, .int 0), (4, .int (es 6)), (3, .int (-1)), (0, .ref q0), (1, .ref b0), (2, .int (nI c))]) hx hb dX1_bestLook_9 hl (by decide) rfl (fun ls hl => ?_)
  refine wl_X (B := 13) (i0 := 0) (Inv := fun i1 H locs ls => va_P G.1 vwCl (atW G q0 q1 q2 q3 q4 q5 b0 b1 b2 b3 i es cd (grM t su m i1) t) H ∧ va_D A (atW G q0 q1 q2 q3 q4 q5 b0 b1 b2 b3 i es cd (grM t su m i1) t) ∧ va_S A zs.heap H locs ∧ lv_has ls 8 [(0, .ref q0), (1, .ref b0), (2, .int (nI c)), (3, .int (bkW t su c m (es 6) i1)), (4, .int (bkF t su c m (es 6) i1)), (5, .int (nI i1))] ∧ True) (by omega) ⟨by rw [grM_0]; exact hP, by rw [grM_0]; exact hD, hS, lv_sub hl [3, 4, 5, 2, 1, 0] (rfl), trivial⟩ ?_
  rintro i1 H locs ls hle11 ⟨hP, hD, hS, hl, -⟩ ih11
  refine lv_iload hx hb dX1_bestLook_11 (lv_at hl 5 rfl) ?_
  refine lv_bipush (v := 12) hx hb dX1_bestLook_13 (by decide) ?_
  refine n_icmp_gt (tgt := 109) hx hb dX1_bestLook_15 (by decide) (u := i1) (v := 12) rfl rfl (by omega) (by omega) (fun cq1 => ?_) (fun cq1 => ?_)
  · skip
    obtain rfl : i1 = 13 := by omega
    refine lv_iload_n hx hb dX1_bestLook_109 rfl (lv_at hl 3 rfl) ?_
    exact mX_iret hAe C hP hS dX1_bestLook_110 (rfl)
  · skip
    refine lv_iconst (v := 0) hx hb dX1_bestLook_18 (by decide) ?_
    refine lv_istore (lv' := [(6, .int 0), (0, .ref q0), (1, .ref b0), (2, .int (nI c)), (3, .int (bkW t su c m (es 6) i1)), (4, .int (bkF t su c m (es 6) i1)), (5, .int (nI i1))]) hx hb dX1_bestLook_19 hl (by decide) rfl (fun ls hl => ?_)
    refine lv_iconst (v := 0) hx hb dX1_bestLook_21 (by decide) ?_
    refine lv_istore (lv' := [(7, .int 0), (6, .int 0), (0, .ref q0), (1, .ref b0), (2, .int (nI c)), (3, .int (bkW t su c m (es 6) i1)), (4, .int (bkF t su c m (es 6) i1)), (5, .int (nI i1))]) hx hb dX1_bestLook_22 hl (by decide) rfl (fun ls hl => ?_)
    refine wl_X (B := m) (i0 := 0) (Inv := fun i2 H locs ls => va_P G.1 vwCl (atW G q0 q1 q2 q3 q4 q5 b0 b1 b2 b3 i es cd (upto (grM t su m i1) (grM t su m (i1 + 1)) i2) t) H ∧ va_D A (atW G q0 q1 q2 q3 q4 q5 b0 b1 b2 b3 i es cd (upto (grM t su m i1) (grM t su m (i1 + 1)) i2) t) ∧ va_S A zs.heap H locs ∧ lv_has ls 8 [(0, .ref q0), (1, .ref b0), (2, .int (nI c)), (3, .int (bkW t su c m (es 6) i1)), (4, .int (bkF t su c m (es 6) i1)), (5, .int (nI i1)), (6, .int (cntU (bkQ t su c i1) i2)), (7, .int (nI i2))] ∧ True) (by omega) ⟨by rw [upto_0]; exact hP, by rw [upto_0]; exact hD, hS, lv_sub hl [2, 3, 4, 5, 6, 7, 1, 0] (rfl), trivial⟩ ?_
    rintro i2 H locs ls hle24 ⟨hP, hD, hS, hl, -⟩ ih24
    refine lv_iload hx hb dX1_bestLook_24 (lv_at hl 7 rfl) ?_
    refine lv_aload_n hx hb dX1_bestLook_26 rfl (lv_at hl 0 rfl) ?_
    refine va_get (D := G.1) (ci := 1) (v := .int (es 6)) (C := RX1) (T := TX1) (N := 7) hx hb hts k1 hown hK hP 0 rfl rfl 6 (by decide) k0 (fun _ h9 => h9) rfl dX1_bestLook_27 ?_
    refine n_icmp_ge (tgt := 75) hx hb dX1_bestLook_30 (by decide) (u := i2) (v := m) rfl hf (by omega) (by omega) (fun cq2 => ?_) (fun cq2 => ?_)
    · skip
      obtain rfl : m = i2 := by omega
      rw [grM_x] at hP hD
      refine lv_iload hx hb dX1_bestLook_75 (lv_at hl 6 rfl) ?_
      refine lv_aload_n hx hb dX1_bestLook_77 rfl (lv_at hl 0 rfl) ?_
      refine va_get (D := G.1) (ci := 1) (v := .int (es 6)) (C := RX1) (T := TX1) (N := 7) hx hb hts k1 hown hK hP 0 rfl rfl 6 (by decide) k0 (fun _ h9 => h9) rfl dX1_bestLook_78 ?_
      refine lv_iload hx hb dX1_bestLook_81 (lv_at hl 6 rfl) ?_
      refine lv_isub hx hb dX1_bestLook_83 ?_
      refine va_mmax hx hb (hml.trans hl.1.symm) hown k2 k3 k4 k5 (Nat.le_of_ble_eq_true rfl) (Nat.le_of_ble_eq_true rfl) (Nat.le_of_ble_eq_true rfl) (Nat.le_of_ble_eq_true rfl) dX1_bestLook_84 ?_
      refine lv_istore (lv' := [(7, .int (bkG t su c m (es 6) i1)), (0, .ref q0), (1, .ref b0), (2, .int (nI c)), (3, .int (bkW t su c m (es 6) i1)), (4, .int (bkF t su c m (es 6) i1)), (5, .int (nI i1)), (6, .int (cntU (bkQ t su c i1) m))]) hx hb dX1_bestLook_87 hl (by decide) rfl (fun ls hl => ?_)
      refine lv_iload hx hb dX1_bestLook_89 (lv_at hl 0 rfl) ?_
      refine lv_iload hx hb dX1_bestLook_91 (lv_at hl 5 rfl) ?_
      refine lv_icmp_ge (tgt := 103) hx hb dX1_bestLook_93 (by decide) (fun cq3 => ?_) (fun cq3 => ?_)
      · skip
        have hlt : ¬ bkG t su c m (es 6) i1 < bkF t su c m (es 6) i1 := i32_nlt.mpr cq3
        refine lv_iinc (v := nI (i1 + 1)) (lv' := [(5, .int (nI (i1 + 1))), (7, .int (bkG t su c m (es 6) i1)), (0, .ref q0), (1, .ref b0), (2, .int (nI c)), (3, .int (bkW t su c m (es 6) i1)), (4, .int (bkF t su c m (es 6) i1)), (6, .int (cntU (bkQ t su c i1) m))]) hx hb dX1_bestLook_103 hl (k := 6) rfl (by rw [show (nI i1 : Int32) = nI i1 from rfl]; exact nI_add _ 1) (by decide) rfl (fun ls hl => ?_)
        refine lv_goto (tgt := 11) hx hb dX1_bestLook_106 (by decide) ?_
        have e4 : bkW t su c m (es 6) i1 = bkW t su c m (es 6) (i1 + 1) := by first | exact (if_pos hlt).symm | exact (if_neg hlt).symm
        have e5 : bkF t su c m (es 6) i1 = bkF t su c m (es 6) (i1 + 1) := by first | exact (if_pos hlt).symm | exact (if_neg hlt).symm
        exact ih11 _ _ _ (by omega) ⟨hP, hD, hS, lv_sub hl [2, 3, 4, 5, 6, 0] (by rw [← e4, ← e5]; rfl), trivial⟩
      · skip
        have hlt : bkG t su c m (es 6) i1 < bkF t su c m (es 6) i1 := i32_nle.mp cq3
        refine lv_iload hx hb dX1_bestLook_96 (lv_at hl 6 rfl) ?_
        refine lv_istore_n (lv' := [(3, .int (nI i1)), (7, .int (bkG t su c m (es 6) i1)), (0, .ref q0), (1, .ref b0), (2, .int (nI c)), (4, .int (bkF t su c m (es 6) i1)), (5, .int (nI i1)), (6, .int (cntU (bkQ t su c i1) m))]) hx hb dX1_bestLook_98 rfl hl (by decide) rfl (fun ls hl => ?_)
        refine lv_iload hx hb dX1_bestLook_99 (lv_at hl 1 rfl) ?_
        refine lv_istore (lv' := [(4, .int (bkG t su c m (es 6) i1)), (3, .int (nI i1)), (7, .int (bkG t su c m (es 6) i1)), (0, .ref q0), (1, .ref b0), (2, .int (nI c)), (5, .int (nI i1)), (6, .int (cntU (bkQ t su c i1) m))]) hx hb dX1_bestLook_101 hl (by decide) rfl (fun ls hl => ?_)
        refine lv_iinc (v := nI (i1 + 1)) (lv' := [(5, .int (nI (i1 + 1))), (4, .int (bkG t su c m (es 6) i1)), (3, .int (nI i1)), (7, .int (bkG t su c m (es 6) i1)), (0, .ref q0), (1, .ref b0), (2, .int (nI c)), (6, .int (cntU (bkQ t su c i1) m))]) hx hb dX1_bestLook_103 hl (k := 6) rfl (by rw [show (nI i1 : Int32) = nI i1 from rfl]; exact nI_add _ 1) (by decide) rfl (fun ls hl => ?_)
        refine lv_goto (tgt := 11) hx hb dX1_bestLook_106 (by decide) ?_
        have e6 : nI i1 = bkW t su c m (es 6) (i1 + 1) := by first | exact (if_pos hlt).symm | exact (if_neg hlt).symm
        have e7 : bkG t su c m (es 6) i1 = bkF t su c m (es 6) (i1 + 1) := by first | exact (if_pos hlt).symm | exact (if_neg hlt).symm
        exact ih11 _ _ _ (by omega) ⟨hP, hD, hS, lv_sub hl [4, 5, 6, 2, 1, 0] (by rw [← e6, ← e7]; rfl), trivial⟩
    · skip
      have hi2 : i2 < m := by omega
      have hsu : upto (grM t su m i1) (grM t su m (i1 + 1)) i2 i2 = grU (t 1) (su i2) i1 := grM_at hi2
      refine lv_aload_n hx hb dX1_bestLook_33 rfl (lv_at hl 1 rfl) ?_
      refine lv_iload_n hx hb dX1_bestLook_34 rfl (lv_at hl 2 rfl) ?_
      refine lv_aload_n hx hb dX1_bestLook_35 rfl (lv_at hl 0 rfl) ?_
      refine va_get (D := G.1) (ci := 1) (v := .ref q5) (C := RX1) (T := TX1) (N := 7) hx hb hts k1 hown hK hP 0 rfl rfl 5 (by decide) k6 (fun _ h9 => h9) rfl dX1_bestLook_36 ?_
      refine lv_iload hx hb dX1_bestLook_39 (lv_at hl 7 rfl) ?_
      refine n_iald hx hb hK hP 5 0 rfl rfl (j := i2) rfl (by omega) (by decide) dX1_bestLook_41 ?_
      refine cR_V (Cn := RX8) (n := 2) (As := [.int (nI c), .int ((upto (grM t su m i1) (grM t su m (i1 + 1)) i2) i2)]) (rest := []) C (c_X8_within l G b0 b1 b2 b3 t  c ((upto (grM t su m i1) (grM t su m (i1 + 1)) i2) i2) (by omega)) gX1_bestLook_X8_within rfl ⟨rfl, rfl⟩ hd_X8_within ⟨(Nat.le_of_ble_eq_true rfl), (Nat.le_of_ble_eq_true rfl)⟩ hK (hP.sub [6, 7, 8, 9] rfl) (va_recv hK hP (ci := 8) (q0 := 6) rfl rfl) rfl hl.1 rfl (Nat.le_of_ble_eq_true rfl) dX1_bestLook_42 ⟨(Nat.le_of_ble_eq_true rfl), (Nat.le_of_ble_eq_true rfl)⟩ ?_
      refine b_if_eq (tgt := 51) hx hb dX1_bestLook_45 (by decide) (fun cq8 => ?_) (fun cq8 => ?_)
      · skip
        rw [hsu] at cq8
        have hci : ¬ bkQ t su c i1 i2 = true := fun q => cq8 (of_decide_eq_true q)
        refine lv_aload_n hx hb dX1_bestLook_51 rfl (lv_at hl 0 rfl) ?_
        refine va_get (D := G.1) (ci := 1) (v := .ref q5) (C := RX1) (T := TX1) (N := 7) hx hb hts k1 hown hK hP 0 rfl rfl 5 (by decide) k6 (fun _ h9 => h9) rfl dX1_bestLook_52 ?_
        refine lv_iload hx hb dX1_bestLook_55 (lv_at hl 7 rfl) ?_
        refine lv_aload_n hx hb dX1_bestLook_57 rfl (lv_at hl 1 rfl) ?_
        refine lv_aload_n hx hb dX1_bestLook_58 rfl (lv_at hl 0 rfl) ?_
        refine va_get (D := G.1) (ci := 1) (v := .ref q5) (C := RX1) (T := TX1) (N := 7) hx hb hts k1 hown hK hP 0 rfl rfl 5 (by decide) k6 (fun _ h9 => h9) rfl dX1_bestLook_59 ?_
        refine lv_iload hx hb dX1_bestLook_62 (lv_at hl 7 rfl) ?_
        refine n_iald hx hb hK hP 5 0 rfl rfl (j := i2) rfl (by omega) (by decide) dX1_bestLook_64 ?_
        refine cR_V (Cn := RX8) (n := 1) (As := [.int ((upto (grM t su m i1) (grM t su m (i1 + 1)) i2) i2)]) (rest := [.int (nI i2), .ref q5]) C (c_X8_grown l G b0 b1 b2 b3 t  ((upto (grM t su m i1) (grM t su m (i1 + 1)) i2) i2) ) gX1_bestLook_X8_grown rfl ⟨rfl, rfl⟩ hd_X8_grown ⟨(Nat.le_of_ble_eq_true rfl), (Nat.le_of_ble_eq_true rfl)⟩ hK (hP.sub [6, 7, 8, 9] rfl) (va_recv hK hP (ci := 8) (q0 := 6) rfl rfl) rfl hl.1 rfl (Nat.le_of_ble_eq_true rfl) dX1_bestLook_65 ⟨(Nat.le_of_ble_eq_true rfl), (Nat.le_of_ble_eq_true rfl)⟩ ?_
        refine n_iastQ hx hb hK hP hD hS 5 0 rfl rfl (x := (growI ((upto (grM t su m i1) (grM t su m (i1 + 1)) i2) i2) (t 1))) (j := i2) rfl (by omega) (by decide) dX1_bestLook_68 (wsn := atW G q0 q1 q2 q3 q4 q5 b0 b1 b2 b3 i es cd (upd (upto (grM t su m i1) (grM t su m (i1 + 1)) i2) i2 (growI ((upto (grM t su m i1) (grM t su m (i1 + 1)) i2) i2) (t 1))) t) (atW_r5 (by omega)) (fun H locs hP hD hS => ?_)
        refine lv_iinc (v := nI (i2 + 1)) (lv' := [(7, .int (nI (i2 + 1))), (0, .ref q0), (1, .ref b0), (2, .int (nI c)), (3, .int (bkW t su c m (es 6) i1)), (4, .int (bkF t su c m (es 6) i1)), (5, .int (nI i1)), (6, .int (cntU (bkQ t su c i1) i2))]) hx hb dX1_bestLook_69 hl (k := 7) rfl (by rw [show (nI i2 : Int32) = nI i2 from rfl]; exact nI_add _ 1) (by decide) rfl (fun ls hl => ?_)
        refine lv_goto (tgt := 24) hx hb dX1_bestLook_72 (by decide) ?_
        have e9 : cntU (bkQ t su c i1) i2 = cntU (bkQ t su c i1) (i2 + 1) := by first | exact (if_pos hci).symm | exact (if_neg hci).symm
        have e10 : (upd (upto (grM t su m i1) (grM t su m (i1 + 1)) i2) i2 (growI ((upto (grM t su m i1) (grM t su m (i1 + 1)) i2) i2) (t 1))) = upto (grM t su m i1) (grM t su m (i1 + 1)) (i2 + 1) := grM_s hi2 (by rw [hsu])
        rw [e10] at hP hD
        exact ih24 _ _ _ (by omega) ⟨hP, hD, hS, lv_sub hl [1, 2, 3, 4, 5, 6, 7, 0] (by rw [← e9]; rfl), trivial⟩
      · skip
        rw [hsu] at cq8
        have hci : bkQ t su c i1 i2 = true := decide_eq_true cq8
        refine lv_iinc (v := (cntU (bkQ t su c i1) i2) + 1) (lv' := [(6, .int ((cntU (bkQ t su c i1) i2) + 1)), (0, .ref q0), (1, .ref b0), (2, .int (nI c)), (3, .int (bkW t su c m (es 6) i1)), (4, .int (bkF t su c m (es 6) i1)), (5, .int (nI i1)), (7, .int (nI i2))]) hx hb dX1_bestLook_48 hl (k := 6) rfl rfl (by decide) rfl (fun ls hl => ?_)
        refine lv_aload_n hx hb dX1_bestLook_51 rfl (lv_at hl 1 rfl) ?_
        refine va_get (D := G.1) (ci := 1) (v := .ref q5) (C := RX1) (T := TX1) (N := 7) hx hb hts k1 hown hK hP 0 rfl rfl 5 (by decide) k6 (fun _ h9 => h9) rfl dX1_bestLook_52 ?_
        refine lv_iload hx hb dX1_bestLook_55 (lv_at hl 7 rfl) ?_
        refine lv_aload_n hx hb dX1_bestLook_57 rfl (lv_at hl 2 rfl) ?_
        refine lv_aload_n hx hb dX1_bestLook_58 rfl (lv_at hl 1 rfl) ?_
        refine va_get (D := G.1) (ci := 1) (v := .ref q5) (C := RX1) (T := TX1) (N := 7) hx hb hts k1 hown hK hP 0 rfl rfl 5 (by decide) k6 (fun _ h9 => h9) rfl dX1_bestLook_59 ?_
        refine lv_iload hx hb dX1_bestLook_62 (lv_at hl 7 rfl) ?_
        refine n_iald hx hb hK hP 5 0 rfl rfl (j := i2) rfl (by omega) (by decide) dX1_bestLook_64 ?_
        refine cR_V (Cn := RX8) (n := 1) (As := [.int ((upto (grM t su m i1) (grM t su m (i1 + 1)) i2) i2)]) (rest := [.int (nI i2), .ref q5]) C (c_X8_grown l G b0 b1 b2 b3 t  ((upto (grM t su m i1) (grM t su m (i1 + 1)) i2) i2) ) gX1_bestLook_X8_grown rfl ⟨rfl, rfl⟩ hd_X8_grown ⟨(Nat.le_of_ble_eq_true rfl), (Nat.le_of_ble_eq_true rfl)⟩ hK (hP.sub [6, 7, 8, 9] rfl) (va_recv hK hP (ci := 8) (q0 := 6) rfl rfl) rfl hl.1 rfl (Nat.le_of_ble_eq_true rfl) dX1_bestLook_65 ⟨(Nat.le_of_ble_eq_true rfl), (Nat.le_of_ble_eq_true rfl)⟩ ?_
        refine n_iastQ hx hb hK hP hD hS 5 0 rfl rfl (x := (growI ((upto (grM t su m i1) (grM t su m (i1 + 1)) i2) i2) (t 1))) (j := i2) rfl (by omega) (by decide) dX1_bestLook_68 (wsn := atW G q0 q1 q2 q3 q4 q5 b0 b1 b2 b3 i es cd (upd (upto (grM t su m i1) (grM t su m (i1 + 1)) i2) i2 (growI ((upto (grM t su m i1) (grM t su m (i1 + 1)) i2) i2) (t 1))) t) (atW_r5 (by omega)) (fun H locs hP hD hS => ?_)
        refine lv_iinc (v := nI (i2 + 1)) (lv' := [(7, .int (nI (i2 + 1))), (6, .int ((cntU (bkQ t su c i1) i2) + 1)), (0, .ref q0), (1, .ref b0), (2, .int (nI c)), (3, .int (bkW t su c m (es 6) i1)), (4, .int (bkF t su c m (es 6) i1)), (5, .int (nI i1))]) hx hb dX1_bestLook_69 hl (k := 7) rfl (by rw [show (nI i2 : Int32) = nI i2 from rfl]; exact nI_add _ 1) (by decide) rfl (fun ls hl => ?_)
        refine lv_goto (tgt := 24) hx hb dX1_bestLook_72 (by decide) ?_
        have e11 : (cntU (bkQ t su c i1) i2) + 1 = cntU (bkQ t su c i1) (i2 + 1) := by first | exact (if_pos hci).symm | exact (if_neg hci).symm
        have e12 : (upd (upto (grM t su m i1) (grM t su m (i1 + 1)) i2) i2 (growI ((upto (grM t su m i1) (grM t su m (i1 + 1)) i2) i2) (t 1))) = upto (grM t su m i1) (grM t su m (i1 + 1)) (i2 + 1) := grM_s hi2 (by rw [hsu])
        rw [e12] at hP hD
        exact ih24 _ _ _ (by omega) ⟨hP, hD, hS, lv_sub hl [2, 3, 4, 5, 6, 7, 1, 0] (by rw [← e11]; rfl), trivial⟩
