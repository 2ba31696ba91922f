theorem hd_X10_here : yX10_here.cls = RX10 ∧ yX10_here.cls ≠ "java/lang/invoke/MethodHandle" ∧ yX10_here.cls ≠ "java/lang/invoke/VarHandle" ∧ (parseMethodDescriptor yX10_here.desc).map (fun d => d.parameters.length) = some 0 := by decide +kernel
set_option maxRecDepth 100000 in
set_option maxHeartbeats 4000000 in
theorem c_X10_here (l : Launch) (G : gG) (a : Nat → Nat) (i : Nat → Int32) (a0 : Nat) (jb js jf jv jw : Int32) (t : Nat → Int32) (r : Nat → Int32) (n : Nat → Int32) (d : Nat → Int32) (ps : Nat → Int32) (im : Nat → Int32) (kp : Nat → Int32) (tx : Nat → Int32) (cd : Nat → Int32) (bk : Nat → Int32) (py : Nat → Int32) (pt : Nat → Int32) (mt : Nat → Int32) (sz : Nat) (hsz : i 10 = nI sz) (hs : sz ≤ 240) (ha : a0 ≤ sz) : mR l yX10_here wsX10_here ({ frames := 0, cells := 0, slots := 0, locals := 0 }) G (mW G a i (jF (nI a0) jb js jf jv jw) t r n d ps im kp tx cd bk py pt mt) [.ref (a 0)] (hv tx sz a0) := by
  refine mR.of (cc := cX10_here) (maxL := 1) (ret := (some .int)) (by decide) rfl (Nat.le_of_ble_eq_true rfl) ?_
  intro zp ze zs zm zb zt zc ls C hP hK hl
  obtain ⟨hx, hb, hr, hml, hown, hts, hlk⟩ := id C
  have hl : lv_has ls 1 [(0, .ref (a 0))] := hl
  have k0 := hts (.fieldLink RX10 85 "DebtDowryModel" "at" "I") (by decide +kernel)
  have k1 := (fun w h => by revert w; decide +kernel : ∀ w ∈ wsX100, w ∈ wsX10_here)
  have k2 := hts (.fieldLink RX10 81 "DebtDowryModel" "size" "I") (by decide +kernel)
  have k3 := hts (.fieldLink RX10 32 "DebtDowryModel" "text" "[I") (by decide +kernel)
  refine lv_aload_n hx hb dX10_here_0 rfl (lv_at hl 0 rfl) ?_
  refine va_get (D := G.1) (ci := 10) (v := .int (nI a0)) (C := RX10) (T := TX10) (N := 25) hx hb hts k1 hown hK hP 0 rfl rfl 16 (by decide) k0 (fun _ h9 => h9) rfl dX10_here_1 ?_
  refine lv_aload_n hx hb dX10_here_4 rfl (lv_at hl 0 rfl) ?_
  refine va_get (D := G.1) (ci := 10) (v := .int (i 10)) (C := RX10) (T := TX10) (N := 25) hx hb hts k1 hown hK hP 0 rfl rfl 10 (by decide) k2 (fun _ h9 => h9) rfl dX10_here_5 ?_
  refine n_icmp_ge (tgt := 23) hx hb dX10_here_8 (by decide) (u := a0) (v := sz) rfl hsz (by omega) (by omega) (fun cq1 => ?_) (fun cq1 => ?_)
  · skip
    refine lv_iconst (v := (-1)) hx hb dX10_here_23 (by decide) ?_
    exact mR_iret C dX10_here_24 (by unfold hv; rw [if_neg (by omega)])
  · skip
    refine lv_aload_n hx hb dX10_here_11 rfl (lv_at hl 0 rfl) ?_
    refine va_get (D := G.1) (ci := 10) (v := .ref (a 8)) (C := RX10) (T := TX10) (N := 25) hx hb hts k1 hown hK hP 0 rfl rfl 9 (by decide) k3 (fun _ h9 => h9) rfl dX10_here_12 ?_
    refine lv_aload_n hx hb dX10_here_15 rfl (lv_at hl 0 rfl) ?_
    refine va_get (D := G.1) (ci := 10) (v := .int (nI a0)) (C := RX10) (T := TX10) (N := 25) hx hb hts k1 hown hK hP 0 rfl rfl 16 (by decide) k0 (fun _ h9 => h9) rfl dX10_here_16 ?_
    refine n_iald hx hb hK hP 8 0 rfl rfl (j := a0) rfl (by omega) (by decide) dX10_here_19 ?_
    refine lv_goto (tgt := 24) hx hb dX10_here_20 (by decide) ?_
    exact mR_iret C dX10_here_24 (by unfold hv; rw [if_pos (by omega)])
theorem hd_X10_step : yX10_step.cls = RX10 ∧ yX10_step.cls ≠ "java/lang/invoke/MethodHandle" ∧ yX10_step.cls ≠ "java/lang/invoke/VarHandle" ∧ (parseMethodDescriptor yX10_step.desc).map (fun d => d.parameters.length) = some 0 := by decide +kernel
set_option maxRecDepth 100000 in
set_option maxHeartbeats 4000000 in
theorem c_X10_step (l : Launch) (G : gG) (a : Nat → Nat) (i : Nat → Int32) (a0 : Nat) (jb js jf jv jw : Int32) (t : Nat → Int32) (r : Nat → Int32) (n : Nat → Int32) (d : Nat → Int32) (ps : Nat → Int32) (im : Nat → Int32) (kp : Nat → Int32) (tx : Nat → Int32) (cd : Nat → Int32) (bk : Nat → Int32) (py : Nat → Int32) (pt : Nat → Int32) (mt : Nat → Int32) (sz : Nat) (hsz : i 10 = nI sz) (hs : sz ≤ 240) (ha : a0 ≤ sz) : mX l yX10_step wsX10_step ({ frames := 1, cells := 0, slots := 0, locals := 25 }) G (mW G a i (jF (nI a0) jb js jf jv jw) t r n d ps im kp tx cd bk py pt mt) (mW G a i (jF (nI (stN tx sz a0)) (nI (sk tx sz a0)) (stS tx sz a0) (stF tx sz a0) (stV tx sz a0) jw) t r n d ps im kp tx cd bk py pt mt) [.ref (a 0)] (.returned none) := by
  refine mX.of (cc := cX10_step) (maxL := 1) (ret := none) (by decide) rfl (Nat.le_of_ble_eq_true rfl) ?_
  intro zp ze zs zm zb zt zc ls A hAe C hP hK hD hS hl
  obtain ⟨hx, hb, hr, hml, hown, hts, hlk⟩ := id C
  have hl : lv_has ls 1 [(0, .ref (a 0))] := hl
  have k0 := hts (.fieldLink RX10 85 "DebtDowryModel" "at" "I") (by decide +kernel)
  have k1 := (fun w h => by revert w; decide +kernel : ∀ w ∈ wsX100, w ∈ wsX10_step)
  have k2 := hts (.fieldLink RX10 92 "DebtDowryModel" "begin" "I") (by decide +kernel)
  have k3 := hts (.fieldLink RX10 95 "DebtDowryModel" "sign" "I") (by decide +kernel)
  have k4 := hts (.fieldLink RX10 98 "DebtDowryModel" "figures" "I") (by decide +kernel)
  have k5 := hts (.fieldLink RX10 101 "DebtDowryModel" "value" "I") (by decide +kernel)
  have k6 := hts (.constantLong RX10 104 (48)) (by decide +kernel)
  have k7 := hts (.constantLong RX10 106 (57)) (by decide +kernel)
  refine wl_X (B := (sz - a0)) (i0 := 0) (Inv := fun i1 H locs ls => va_P G.1 vwCl (mW G a i (jF (nI (a0 + i1)) jb js jf jv jw) t r n d ps im kp tx cd bk py pt mt) H ∧ va_D A (mW G a i (jF (nI (a0 + i1)) jb js jf jv jw) t r n d ps im kp tx cd bk py pt mt) ∧ va_S A zs.heap H locs ∧ lv_has ls 1 [(0, .ref (a 0))] ∧ a0 + i1 ≤ sz ∧ sk tx sz a0 = skN tx sz (sz - (a0 + i1)) (a0 + i1)) (by omega) ⟨hP, hD, hS, lv_sub hl [0] (rfl), (by omega), (rfl)⟩ ?_
  rintro i1 H locs ls hle0 ⟨hP, hD, hS, hl, hle2, hsk⟩ ih0
  refine lv_aload_n hx hb dX10_step_0 rfl (lv_at hl 0 rfl) ?_
  refine cR_V (Cn := RX10) (n := 0) (As := []) (rest := []) C (c_X10_here l G a i (a0 + i1) jb js jf jv jw t r n d ps im kp tx cd bk py pt mt sz  hsz hs (by omega)) gX10_step_X10_here rfl ⟨rfl, rfl⟩ hd_X10_here ⟨(Nat.le_of_ble_eq_true rfl), (Nat.le_of_ble_eq_true rfl)⟩ hK hP (va_recv hK hP (ci := 10) (q0 := 0) rfl rfl) rfl hl.1 rfl (Nat.le_of_ble_eq_true rfl) dX10_step_1 ⟨(Nat.le_of_ble_eq_true rfl), (Nat.le_of_ble_eq_true rfl)⟩ ?_
  refine lv_bipush (v := 32) hx hb dX10_step_4 (by decide) ?_
  refine lv_icmp_ne (tgt := 22) hx hb dX10_step_6 (by decide) (fun cq1 => ?_) (fun cq1 => ?_)
  · skip
    obtain ⟨bb, hbb⟩ : ∃ z, hid (z = a0 + i1) := ⟨_, rfl⟩
    rw [← show bb = a0 + i1 from hbb] at hP hD cq1
    have hbs : bb ≤ sz := by rw [show bb = a0 + i1 from hbb]; exact hle2
    have hsb : sk tx sz a0 = bb := by rw [hsk, ← show bb = a0 + i1 from hbb]; exact skN_x cq1 _
    refine lv_aload_n hx hb dX10_step_22 rfl (lv_at hl 0 rfl) ?_
    refine lv_aload_n hx hb dX10_step_23 rfl (lv_at hl 0 rfl) ?_
    refine va_get (D := G.1) (ci := 10) (v := .int (nI bb)) (C := RX10) (T := TX10) (N := 25) hx hb hts k1 hown hK hP 0 rfl rfl 16 (by decide) k0 (fun _ h9 => h9) rfl dX10_step_24 ?_
    refine n_put (D := G.1) (wsn := mW G a i (jF (nI bb) (nI bb) js jf jv jw) t r n d ps im kp tx cd bk py pt mt) (ci := 10) (v := .int (nI bb)) (ty := .int) (C := RX10) (T := TX10) (N := 25) hx hb hts k1 tyX10 tyX10_ok nmX10 hown hK hP hD hS 0 rfl rfl 17 (by decide) k2 (fun _ h9 => h9) rfl (by decide +kernel) rfl rfl (Nat.le_of_ble_eq_true rfl) rfl dX10_step_27 (fun H locs hP hD hS => ?_)
    refine lv_aload_n hx hb dX10_step_30 rfl (lv_at hl 0 rfl) ?_
    refine lv_aload_n hx hb dX10_step_31 rfl (lv_at hl 0 rfl) ?_
    refine cR_V (Cn := RX10) (n := 0) (As := []) (rest := [.ref (a 0)]) C (c_X10_here l G a i bb (nI bb) js jf jv jw t r n d ps im kp tx cd bk py pt mt sz  hsz hs (by omega)) gX10_step_X10_here rfl ⟨rfl, rfl⟩ hd_X10_here ⟨(Nat.le_of_ble_eq_true rfl), (Nat.le_of_ble_eq_true rfl)⟩ hK hP (va_recv hK hP (ci := 10) (q0 := 0) rfl rfl) rfl hl.1 rfl (Nat.le_of_ble_eq_true rfl) dX10_step_32 ⟨(Nat.le_of_ble_eq_true rfl), (Nat.le_of_ble_eq_true rfl)⟩ ?_
    refine n_put (D := G.1) (wsn := mW G a i (jF (nI bb) (nI bb) (hv tx sz bb) jf jv jw) t r n d ps im kp tx cd bk py pt mt) (ci := 10) (v := .int (hv tx sz bb)) (ty := .int) (C := RX10) (T := TX10) (N := 25) hx hb hts k1 tyX10 tyX10_ok nmX10 hown hK hP hD hS 0 rfl rfl 18 (by decide) k3 (fun _ h9 => h9) rfl (by decide +kernel) rfl rfl (Nat.le_of_ble_eq_true rfl) rfl dX10_step_35 (fun H locs hP hD hS => ?_)
    refine lv_aload_n hx hb dX10_step_38 rfl (lv_at hl 0 rfl) ?_
    refine lv_iconst (v := 0) hx hb dX10_step_39 (by decide) ?_
    refine n_put (D := G.1) (wsn := mW G a i (jF (nI bb) (nI bb) (hv tx sz bb) 0 jv jw) t r n d ps im kp tx cd bk py pt mt) (ci := 10) (v := .int 0) (ty := .int) (C := RX10) (T := TX10) (N := 25) hx hb hts k1 tyX10 tyX10_ok nmX10 hown hK hP hD hS 0 rfl rfl 19 (by decide) k4 (fun _ h9 => h9) rfl (by decide +kernel) rfl rfl (Nat.le_of_ble_eq_true rfl) rfl dX10_step_40 (fun H locs hP hD hS => ?_)
    refine lv_aload_n hx hb dX10_step_43 rfl (lv_at hl 0 rfl) ?_
    refine lv_iconst (v := 0) hx hb dX10_step_44 (by decide) ?_
    refine n_put (D := G.1) (wsn := mW G a i (jF (nI bb) (nI bb) (hv tx sz bb) 0 0 jw) t r n d ps im kp tx cd bk py pt mt) (ci := 10) (v := .int 0) (ty := .int) (C := RX10) (T := TX10) (N := 25) hx hb hts k1 tyX10 tyX10_ok nmX10 hown hK hP hD hS 0 rfl rfl 20 (by decide) k5 (fun _ h9 => h9) rfl (by decide +kernel) rfl rfl (Nat.le_of_ble_eq_true rfl) rfl dX10_step_45 (fun H locs hP hD hS => ?_)
    refine lv_aload_n hx hb dX10_step_48 rfl (lv_at hl 0 rfl) ?_
    refine va_get (D := G.1) (ci := 10) (v := .int (hv tx sz bb)) (C := RX10) (T := TX10) (N := 25) hx hb hts k1 hown hK hP 0 rfl rfl 18 (by decide) k3 (fun _ h9 => h9) rfl dX10_step_49 ?_
    refine lv_i2l (v := (hv tx sz bb).toInt64) hx hb dX10_step_52 rfl ?_
    refine lv_ldc2 hx hb hown k6 dX10_step_53 ?_
    refine lv_ldc2 hx hb hown k7 dX10_step_56 ?_
    refine cR_S (n := 3) (As := [.long ((hv tx sz bb).toInt64), .long 48, .long 57]) (rest := []) C (c_X10_in l G    (hv tx sz bb) ((hv tx sz bb).toInt64) rfl 48 48 rfl 57 57 rfl ) gX10_step_X10_in rfl ⟨rfl, rfl⟩ hd_X10_in ⟨(Nat.le_of_ble_eq_true rfl), (Nat.le_of_ble_eq_true rfl)⟩ hK (hP.sub [] rfl) rfl hl.1 rfl (Nat.le_of_ble_eq_true rfl) dX10_step_59 ⟨(Nat.le_of_ble_eq_true rfl), (Nat.le_of_ble_eq_true rfl)⟩ ?_
    refine b_if_ne (tgt := 87) hx hb dX10_step_62 (by decide) (fun cq2 => ?_) (fun cq2 => ?_)
    · skip
      have hD1 : isD tx sz a0 := by show inB (hv tx sz (sk tx sz a0)) 48 57; rw [hsb]; exact cq2
      refine lv_aload_n hx hb dX10_step_87 rfl (lv_at hl 0 rfl) ?_
      refine lv_bipush (v := 48) hx hb dX10_step_88 (by decide) ?_
      refine n_put (D := G.1) (wsn := mW G a i (jF (nI bb) (nI bb) 48 0 0 jw) t r n d ps im kp tx cd bk py pt mt) (ci := 10) (v := .int 48) (ty := .int) (C := RX10) (T := TX10) (N := 25) hx hb hts k1 tyX10 tyX10_ok nmX10 hown hK hP hD hS 0 rfl rfl 18 (by decide) k3 (fun _ h9 => h9) rfl (by decide +kernel) rfl rfl (Nat.le_of_ble_eq_true rfl) rfl dX10_step_90 (fun H locs hP hD hS => ?_)
      refine wl_X (B := (sz - bb)) (i0 := 0) (Inv := fun i2 H locs ls => va_P G.1 vwCl (mW G a i (jF (nI (bb + i2)) (nI bb) 48 (nI i2) (vlU tx sz bb i2) jw) t r n d ps im kp tx cd bk py pt mt) H ∧ va_D A (mW G a i (jF (nI (bb + i2)) (nI bb) 48 (nI i2) (vlU tx sz bb i2) jw) t r n d ps im kp tx cd bk py pt mt) ∧ va_S A zs.heap H locs ∧ lv_has ls 1 [(0, .ref (a 0))] ∧ bb + i2 ≤ sz ∧ dg tx sz bb = dgN tx sz (sz - (bb + i2)) (bb + i2)) (by omega) ⟨hP, hD, hS, lv_sub hl [0] (rfl), (by omega), (rfl)⟩ ?_
      rintro i2 H locs ls hle93 ⟨hP, hD, hS, hl, hle3, hdg⟩ ih93
      refine lv_aload_n hx hb dX10_step_93 rfl (lv_at hl 0 rfl) ?_
      refine cR_V (Cn := RX10) (n := 0) (As := []) (rest := []) C (c_X10_here l G a i (bb + i2) (nI bb) 48 (nI i2) (vlU tx sz bb i2) jw t r n d ps im kp tx cd bk py pt mt sz  hsz hs (by omega)) gX10_step_X10_here rfl ⟨rfl, rfl⟩ hd_X10_here ⟨(Nat.le_of_ble_eq_true rfl), (Nat.le_of_ble_eq_true rfl)⟩ hK hP (va_recv hK hP (ci := 10) (q0 := 0) rfl rfl) rfl hl.1 rfl (Nat.le_of_ble_eq_true rfl) dX10_step_94 ⟨(Nat.le_of_ble_eq_true rfl), (Nat.le_of_ble_eq_true rfl)⟩ ?_
      refine lv_i2l (v := (hv tx sz (bb + i2)).toInt64) hx hb dX10_step_97 rfl ?_
      refine lv_ldc2 hx hb hown k6 dX10_step_98 ?_
      refine lv_ldc2 hx hb hown k7 dX10_step_101 ?_
      refine cR_S (n := 3) (As := [.long ((hv tx sz (bb + i2)).toInt64), .long 48, .long 57]) (rest := []) C (c_X10_in l G    (hv tx sz (bb + i2)) ((hv tx sz (bb + i2)).toInt64) rfl 48 48 rfl 57 57 rfl ) gX10_step_X10_in rfl ⟨rfl, rfl⟩ hd_X10_in ⟨(Nat.le_of_ble_eq_true rfl), (Nat.le_of_ble_eq_true rfl)⟩ hK (hP.sub [] rfl) rfl hl.1 rfl (Nat.le_of_ble_eq_true rfl) dX10_step_104 ⟨(Nat.le_of_ble_eq_true rfl), (Nat.le_of_ble_eq_true rfl)⟩ ?_
      refine b_if_eq (tgt := 167) hx hb dX10_step_107 (by decide) (fun cq3 => ?_) (fun cq3 => ?_)
      · skip
        have hE : dg tx sz bb = bb + i2 := by rw [hdg]; exact dgN_x cq3 _
        have hP : va_P G.1 vwCl (mW G a i (jF (nI (stN tx sz a0)) (nI (sk tx sz a0)) (stS tx sz a0) (stF tx sz a0) (stV tx sz a0) jw) t r n d ps im kp tx cd bk py pt mt) H := by rw [show (nI (stN tx sz a0)) = (nI (bb + i2)) from by first | rw [hN] | (unfold stN; rw [if_pos hD1, hsb, hE]), show (nI (sk tx sz a0)) = (nI bb) from by rw [hsb], show (stS tx sz a0) = 48 from by first | (unfold stS; rw [if_neg hD0, hsb]) | (unfold stS; rw [if_pos hD1]), show (stF tx sz a0) = (nI i2) from by first | (unfold stF; rw [if_neg hD0]) | (unfold stF; rw [if_pos hD1, hsb, hE, Nat.add_sub_cancel_left]), show (stV tx sz a0) = (vlU tx sz bb i2) from by first | (unfold stV; rw [if_neg hD0]) | (unfold stV; rw [if_pos hD1, hsb, hE, Nat.add_sub_cancel_left])]; exact hP
        exact mX_vret hAe C hP hS dX10_step_167
      · skip
        have hdi := cq3
        have hdlt := hv_dg hdi
        refine lv_aload_n hx hb dX10_step_110 rfl (lv_at hl 0 rfl) ?_
        refine lv_aload_n hx hb dX10_step_111 rfl (lv_at hl 0 rfl) ?_
        refine va_get (D := G.1) (ci := 10) (v := .int (nI i2)) (C := RX10) (T := TX10) (N := 25) hx hb hts k1 hown hK hP 0 rfl rfl 19 (by decide) k4 (fun _ h9 => h9) rfl dX10_step_112 ?_
        refine lv_iconst (v := 3) hx hb dX10_step_115 (by decide) ?_
        refine n_icmp_ge (tgt := 137) hx hb dX10_step_116 (by decide) (u := i2) (v := 3) rfl rfl (by omega) (by omega) (fun cq4 => ?_) (fun cq4 => ?_)
        · skip
          have hlt3 : ¬ i2 < 3 := by omega
          refine lv_aload_n hx hb dX10_step_137 rfl (lv_at hl 0 rfl) ?_
          refine va_get (D := G.1) (ci := 10) (v := .int (vlU tx sz bb i2)) (C := RX10) (T := TX10) (N := 25) hx hb hts k1 hown hK hP 0 rfl rfl 20 (by decide) k5 (fun _ h9 => h9) rfl dX10_step_138 ?_
          refine n_put (D := G.1) (wsn := mW G a i (jF (nI (bb + i2)) (nI bb) 48 (nI i2) (vlU tx sz bb i2) jw) t r n d ps im kp tx cd bk py pt mt) (ci := 10) (v := .int (vlU tx sz bb i2)) (ty := .int) (C := RX10) (T := TX10) (N := 25) hx hb hts k1 tyX10 tyX10_ok nmX10 hown hK hP hD hS 0 rfl rfl 20 (by decide) k5 (fun _ h9 => h9) rfl (by decide +kernel) rfl rfl (Nat.le_of_ble_eq_true rfl) rfl dX10_step_141 (fun H locs hP hD hS => ?_)
          refine lv_aload_n hx hb dX10_step_144 rfl (lv_at hl 0 rfl) ?_
          refine lv_dup hx hb dX10_step_145 rfl ?_
          refine va_get (D := G.1) (ci := 10) (v := .int (nI i2)) (C := RX10) (T := TX10) (N := 25) hx hb hts k1 hown hK hP 0 rfl rfl 19 (by decide) k4 (fun _ h9 => h9) rfl dX10_step_146 ?_
          refine lv_iconst (v := 1) hx hb dX10_step_149 (by decide) ?_
          refine n_iadd hx hb dX10_step_150 (u := i2) (v := 1) rfl rfl (j := i2 + 1) (by omega) ?_
          refine n_put (D := G.1) (wsn := mW G a i (jF (nI (bb + i2)) (nI bb) 48 (nI (i2 + 1)) (vlU tx sz bb i2) jw) t r n d ps im kp tx cd bk py pt mt) (ci := 10) (v := .int (nI (i2 + 1))) (ty := .int) (C := RX10) (T := TX10) (N := 25) hx hb hts k1 tyX10 tyX10_ok nmX10 hown hK hP hD hS 0 rfl rfl 19 (by decide) k4 (fun _ h9 => h9) rfl (by decide +kernel) rfl rfl (Nat.le_of_ble_eq_true rfl) rfl dX10_step_151 (fun H locs hP hD hS => ?_)
          refine lv_aload_n hx hb dX10_step_154 rfl (lv_at hl 0 rfl) ?_
          refine lv_dup hx hb dX10_step_155 rfl ?_
          refine va_get (D := G.1) (ci := 10) (v := .int (nI (bb + i2))) (C := RX10) (T := TX10) (N := 25) hx hb hts k1 hown hK hP 0 rfl rfl 16 (by decide) k0 (fun _ h9 => h9) rfl dX10_step_156 ?_
          refine lv_iconst (v := 1) hx hb dX10_step_159 (by decide) ?_
          refine n_iadd hx hb dX10_step_160 (u := bb + i2) (v := 1) rfl rfl (j := (bb + i2) + 1) (by omega) ?_
          refine n_put (D := G.1) (wsn := mW G a i (jF (nI ((bb + i2) + 1)) (nI bb) 48 (nI (i2 + 1)) (vlU tx sz bb i2) jw) t r n d ps im kp tx cd bk py pt mt) (ci := 10) (v := .int (nI ((bb + i2) + 1))) (ty := .int) (C := RX10) (T := TX10) (N := 25) hx hb hts k1 tyX10 tyX10_ok nmX10 hown hK hP hD hS 0 rfl rfl 16 (by decide) k0 (fun _ h9 => h9) rfl (by decide +kernel) rfl rfl (Nat.le_of_ble_eq_true rfl) rfl dX10_step_161 (fun H locs hP hD hS => ?_)
          refine lv_goto (tgt := 93) hx hb dX10_step_164 (by decide) ?_
          have e5 : nI ((bb + i2) + 1) = nI (bb + (i2 + 1)) := by rw [Nat.add_assoc]
          have e6 : vlU tx sz bb i2 = vlU tx sz bb (i2 + 1) := by first | exact (if_pos hlt3).symm | exact (if_neg hlt3).symm
          rw [e5, e6] at hP hD
          exact ih93 _ _ _ (by omega) ⟨hP, hD, hS, lv_sub hl [0] (rfl), (by have := hv_dg hdi; omega), (by rw [hdg]; exact dgN_s hdi)⟩
        · skip
          have hlt3 : i2 < 3 := cq4
          refine lv_bipush (v := 10) hx hb dX10_step_119 (by decide) ?_
          refine lv_aload_n hx hb dX10_step_121 rfl (lv_at hl 0 rfl) ?_
          refine va_get (D := G.1) (ci := 10) (v := .int (vlU tx sz bb i2)) (C := RX10) (T := TX10) (N := 25) hx hb hts k1 hown hK hP 0 rfl rfl 20 (by decide) k5 (fun _ h9 => h9) rfl dX10_step_122 ?_
          refine lv_imul hx hb dX10_step_125 ?_
          refine lv_aload_n hx hb dX10_step_126 rfl (lv_at hl 0 rfl) ?_
          refine cR_V (Cn := RX10) (n := 0) (As := []) (rest := [.int (10 * (vlU tx sz bb i2)), .ref (a 0)]) C (c_X10_here l G a i (bb + i2) (nI bb) 48 (nI i2) (vlU tx sz bb i2) jw t r n d ps im kp tx cd bk py pt mt sz  hsz hs (by omega)) gX10_step_X10_here rfl ⟨rfl, rfl⟩ hd_X10_here ⟨(Nat.le_of_ble_eq_true rfl), (Nat.le_of_ble_eq_true rfl)⟩ hK hP (va_recv hK hP (ci := 10) (q0 := 0) rfl rfl) rfl hl.1 rfl (Nat.le_of_ble_eq_true rfl) dX10_step_127 ⟨(Nat.le_of_ble_eq_true rfl), (Nat.le_of_ble_eq_true rfl)⟩ ?_
          refine lv_iadd hx hb dX10_step_130 ?_
          refine lv_bipush (v := 48) hx hb dX10_step_131 (by decide) ?_
          refine lv_isub hx hb dX10_step_133 ?_
          refine lv_goto (tgt := 141) hx hb dX10_step_134 (by decide) ?_
          refine n_put (D := G.1) (wsn := mW G a i (jF (nI (bb + i2)) (nI bb) 48 (nI i2) (((10 * (vlU tx sz bb i2)) + (hv tx sz (bb + i2))) - 48) jw) t r n d ps im kp tx cd bk py pt mt) (ci := 10) (v := .int (((10 * (vlU tx sz bb i2)) + (hv tx sz (bb + i2))) - 48)) (ty := .int) (C := RX10) (T := TX10) (N := 25) hx hb hts k1 tyX10 tyX10_ok nmX10 hown hK hP hD hS 0 rfl rfl 20 (by decide) k5 (fun _ h9 => h9) rfl (by decide +kernel) rfl rfl (Nat.le_of_ble_eq_true rfl) rfl dX10_step_141 (fun H locs hP hD hS => ?_)
          refine lv_aload_n hx hb dX10_step_144 rfl (lv_at hl 0 rfl) ?_
          refine lv_dup hx hb dX10_step_145 rfl ?_
          refine va_get (D := G.1) (ci := 10) (v := .int (nI i2)) (C := RX10) (T := TX10) (N := 25) hx hb hts k1 hown hK hP 0 rfl rfl 19 (by decide) k4 (fun _ h9 => h9) rfl dX10_step_146 ?_
          refine lv_iconst (v := 1) hx hb dX10_step_149 (by decide) ?_
          refine n_iadd hx hb dX10_step_150 (u := i2) (v := 1) rfl rfl (j := i2 + 1) (by omega) ?_
          refine n_put (D := G.1) (wsn := mW G a i (jF (nI (bb + i2)) (nI bb) 48 (nI (i2 + 1)) (((10 * (vlU tx sz bb i2)) + (hv tx sz (bb + i2))) - 48) jw) t r n d ps im kp tx cd bk py pt mt) (ci := 10) (v := .int (nI (i2 + 1))) (ty := .int) (C := RX10) (T := TX10) (N := 25) hx hb hts k1 tyX10 tyX10_ok nmX10 hown hK hP hD hS 0 rfl rfl 19 (by decide) k4 (fun _ h9 => h9) rfl (by decide +kernel) rfl rfl (Nat.le_of_ble_eq_true rfl) rfl dX10_step_151 (fun H locs hP hD hS => ?_)
          refine lv_aload_n hx hb dX10_step_154 rfl (lv_at hl 0 rfl) ?_
          refine lv_dup hx hb dX10_step_155 rfl ?_
          refine va_get (D := G.1) (ci := 10) (v := .int (nI (bb + i2))) (C := RX10) (T := TX10) (N := 25) hx hb hts k1 hown hK hP 0 rfl rfl 16 (by decide) k0 (fun _ h9 => h9) rfl dX10_step_156 ?_
          refine lv_iconst (v := 1) hx hb dX10_step_159 (by decide) ?_
          refine n_iadd hx hb dX10_step_160 (u := bb + i2) (v := 1) rfl rfl (j := (bb + i2) + 1) (by omega) ?_
          refine n_put (D := G.1) (wsn := mW G a i (jF (nI ((bb + i2) + 1)) (nI bb) 48 (nI (i2 + 1)) (((10 * (vlU tx sz bb i2)) + (hv tx sz (bb + i2))) - 48) jw) t r n d ps im kp tx cd bk py pt mt) (ci := 10) (v := .int (nI ((bb + i2) + 1))) (ty := .int) (C := RX10) (T := TX10) (N := 25) hx hb hts k1 tyX10 tyX10_ok nmX10 hown hK hP hD hS 0 rfl rfl 16 (by decide) k0 (fun _ h9 => h9) rfl (by decide +kernel) rfl rfl (Nat.le_of_ble_eq_true rfl) rfl dX10_step_161 (fun H locs hP hD hS => ?_)
          refine lv_goto (tgt := 93) hx hb dX10_step_164 (by decide) ?_
          have e7 : nI ((bb + i2) + 1) = nI (bb + (i2 + 1)) := by rw [Nat.add_assoc]
          have e8 : ((10 * (vlU tx sz bb i2)) + (hv tx sz (bb + i2))) - 48 = vlU tx sz bb (i2 + 1) := by first | exact (if_pos hlt3).symm | exact (if_neg hlt3).symm
          rw [e7, e8] at hP hD
          exact ih93 _ _ _ (by omega) ⟨hP, hD, hS, lv_sub hl [0] (rfl), (by have := hv_dg hdi; omega), (by rw [hdg]; exact dgN_s hdi)⟩
    · skip
      have hD0 : ¬ isD tx sz a0 := by show ¬ inB (hv tx sz (sk tx sz a0)) 48 57; rw [hsb]; exact cq2
      refine lv_aload_n hx hb dX10_step_65 rfl (lv_at hl 0 rfl) ?_
      refine lv_dup hx hb dX10_step_66 rfl ?_
      refine va_get (D := G.1) (ci := 10) (v := .int (nI bb)) (C := RX10) (T := TX10) (N := 25) hx hb hts k1 hown hK hP 0 rfl rfl 16 (by decide) k0 (fun _ h9 => h9) rfl dX10_step_67 ?_
      refine lv_aload_n hx hb dX10_step_70 rfl (lv_at hl 0 rfl) ?_
      refine va_get (D := G.1) (ci := 10) (v := .int (hv tx sz bb)) (C := RX10) (T := TX10) (N := 25) hx hb hts k1 hown hK hP 0 rfl rfl 18 (by decide) k3 (fun _ h9 => h9) rfl dX10_step_71 ?_
      refine lv_if_ge (tgt := 81) hx hb dX10_step_74 (by decide) (fun cq9 => ?_) (fun cq9 => ?_)
      · skip
        have hN : stN tx sz a0 = bb + 1 := by unfold stN; rw [if_neg hD0, hsb, if_neg (i32_nlt.mpr cq9)]
        refine lv_iconst (v := 1) hx hb dX10_step_81 (by decide) ?_
        refine n_iadd hx hb dX10_step_82 (u := bb) (v := 1) rfl rfl (j := bb + 1) (by omega) ?_
        refine n_put (D := G.1) (wsn := mW G a i (jF (nI (bb + 1)) (nI bb) (hv tx sz bb) 0 0 jw) t r n d ps im kp tx cd bk py pt mt) (ci := 10) (v := .int (nI (bb + 1))) (ty := .int) (C := RX10) (T := TX10) (N := 25) hx hb hts k1 tyX10 tyX10_ok nmX10 hown hK hP hD hS 0 rfl rfl 16 (by decide) k0 (fun _ h9 => h9) rfl (by decide +kernel) rfl rfl (Nat.le_of_ble_eq_true rfl) rfl dX10_step_83 (fun H locs hP hD hS => ?_)
        have hP : va_P G.1 vwCl (mW G a i (jF (nI (stN tx sz a0)) (nI (sk tx sz a0)) (stS tx sz a0) (stF tx sz a0) (stV tx sz a0) jw) t r n d ps im kp tx cd bk py pt mt) H := by rw [show (nI (stN tx sz a0)) = (nI (bb + 1)) from by first | rw [hN] | (unfold stN; rw [if_pos hD1, hsb, hE]), show (nI (sk tx sz a0)) = (nI bb) from by rw [hsb], show (stS tx sz a0) = (hv tx sz bb) from by first | (unfold stS; rw [if_neg hD0, hsb]) | (unfold stS; rw [if_pos hD1]), show (stF tx sz a0) = 0 from by first | (unfold stF; rw [if_neg hD0]) | (unfold stF; rw [if_pos hD1, hsb, hE, Nat.add_sub_cancel_left]), show (stV tx sz a0) = 0 from by first | (unfold stV; rw [if_neg hD0]) | (unfold stV; rw [if_pos hD1, hsb, hE, Nat.add_sub_cancel_left])]; exact hP
        exact mX_vret hAe C hP hS dX10_step_86
      · skip
        have hN : stN tx sz a0 = bb := by unfold stN; rw [if_neg hD0, hsb, if_pos (i32_nle.mp cq9)]
        refine lv_iconst (v := 0) hx hb dX10_step_77 (by decide) ?_
        refine lv_goto (tgt := 82) hx hb dX10_step_78 (by decide) ?_
        refine n_iadd hx hb dX10_step_82 (u := bb) (v := 0) rfl rfl (j := bb) (by omega) ?_
        refine n_put (D := G.1) (wsn := mW G a i (jF (nI bb) (nI bb) (hv tx sz bb) 0 0 jw) t r n d ps im kp tx cd bk py pt mt) (ci := 10) (v := .int (nI bb)) (ty := .int) (C := RX10) (T := TX10) (N := 25) hx hb hts k1 tyX10 tyX10_ok nmX10 hown hK hP hD hS 0 rfl rfl 16 (by decide) k0 (fun _ h9 => h9) rfl (by decide +kernel) rfl rfl (Nat.le_of_ble_eq_true rfl) rfl dX10_step_83 (fun H locs hP hD hS => ?_)
        have hP : va_P G.1 vwCl (mW G a i (jF (nI (stN tx sz a0)) (nI (sk tx sz a0)) (stS tx sz a0) (stF tx sz a0) (stV tx sz a0) jw) t r n d ps im kp tx cd bk py pt mt) H := by rw [show (nI (stN tx sz a0)) = (nI bb) from by first | rw [hN] | (unfold stN; rw [if_pos hD1, hsb, hE]), show (nI (sk tx sz a0)) = (nI bb) from by rw [hsb], show (stS tx sz a0) = (hv tx sz bb) from by first | (unfold stS; rw [if_neg hD0, hsb]) | (unfold stS; rw [if_pos hD1]), show (stF tx sz a0) = 0 from by first | (unfold stF; rw [if_neg hD0]) | (unfold stF; rw [if_pos hD1, hsb, hE, Nat.add_sub_cancel_left]), show (stV tx sz a0) = 0 from by first | (unfold stV; rw [if_neg hD0]) | (unfold stV; rw [if_pos hD1, hsb, hE, Nat.add_sub_cancel_left])]; exact hP
        exact mX_vret hAe C hP hS dX10_step_86
  · skip
    have hbl := cq1
    have hblt := hv_32 hbl
    refine lv_aload_n hx hb dX10_step_9 rfl (lv_at hl 0 rfl) ?_
    refine lv_dup hx hb dX10_step_10 rfl ?_
    refine va_get (D := G.1) (ci := 10) (v := .int (nI (a0 + i1))) (C := RX10) (T := TX10) (N := 25) hx hb hts k1 hown hK hP 0 rfl rfl 16 (by decide) k0 (fun _ h9 => h9) rfl dX10_step_11 ?_
    refine lv_iconst (v := 1) hx hb dX10_step_14 (by decide) ?_
    refine n_iadd hx hb dX10_step_15 (u := a0 + i1) (v := 1) rfl rfl (j := (a0 + i1) + 1) (by omega) ?_
    refine n_put (D := G.1) (wsn := mW G a i (jF (nI ((a0 + i1) + 1)) jb js jf jv jw) t r n d ps im kp tx cd bk py pt mt) (ci := 10) (v := .int (nI ((a0 + i1) + 1))) (ty := .int) (C := RX10) (T := TX10) (N := 25) hx hb hts k1 tyX10 tyX10_ok nmX10 hown hK hP hD hS 0 rfl rfl 16 (by decide) k0 (fun _ h9 => h9) rfl (by decide +kernel) rfl rfl (Nat.le_of_ble_eq_true rfl) rfl dX10_step_16 (fun H locs hP hD hS => ?_)
    refine lv_goto (tgt := 0) hx hb dX10_step_19 (by decide) ?_
    have e10 : nI ((a0 + i1) + 1) = nI (a0 + (i1 + 1)) := by rw [Nat.add_assoc]
    rw [e10] at hP hD
    exact ih0 _ _ _ (by omega) ⟨hP, hD, hS, lv_sub hl [0] (rfl), (by have := hv_32 hbl; omega), (by rw [hsk]; exact skN_s hbl)⟩
theorem hd_X10_fails : yX10_fails.cls = RX10 ∧ yX10_fails.cls ≠ "java/lang/invoke/MethodHandle" ∧ yX10_fails.cls ≠ "java/lang/invoke/VarHandle" ∧ (parseMethodDescriptor yX10_fails.desc).map (fun d => d.parameters.length) = some 1 := by decide +kernel
set_option maxRecDepth 100000 in
set_option maxHeartbeats 4000000 in
theorem c_X10_fails (l : Launch) (G : gG) (a : Nat → Nat) (i : Nat → Int32) (a0 : Nat) (jb js jf jv jw : Int32) (t : Nat → Int32) (r : Nat → Int32) (n : Nat → Int32) (d : Nat → Int32) (ps : Nat → Int32) (im : Nat → Int32) (kp : Nat → Int32) (tx : Nat → Int32) (cd : Nat → Int32) (bk : Nat → Int32) (py : Nat → Int32) (pt : Nat → Int32) (mt : Nat → Int32) (why : Int32) : mX l yX10_fails wsX10_fails ({ frames := 0, cells := 0, slots := 0, locals := 0 }) G (mW G a i (jF (nI a0) jb js jf jv jw) t r n d ps im kp tx cd bk py pt mt) (mW G a i (jF (nI a0) jb js jf jv why) t r n d ps im kp tx cd bk py pt mt) [.ref (a 0), .int why] (.returned (some (.int 0))) := by
  refine mX.of (cc := cX10_fails) (maxL := 2) (ret := (some .boolean)) (by decide) rfl (Nat.le_of_ble_eq_true rfl) ?_
  intro zp ze zs zm zb zt zc ls A hAe C hP hK hD hS hl
  obtain ⟨hx, hb, hr, hml, hown, hts, hlk⟩ := id C
  have hl : lv_has ls 2 [(0, .ref (a 0)), (1, .int why)] := hl
  have k0 := hts (.fieldLink RX10 108 "DebtDowryModel" "wrong" "I") (by decide +kernel)
  have k1 := (fun w h => by revert w; decide +kernel : ∀ w ∈ wsX100, w ∈ wsX10_fails)
  refine lv_aload_n hx hb dX10_fails_0 rfl (lv_at hl 0 rfl) ?_
  refine lv_iload_n hx hb dX10_fails_1 rfl (lv_at hl 1 rfl) ?_
  refine n_put (D := G.1) (wsn := mW G a i (jF (nI a0) jb js jf jv why) t r n d ps im kp tx cd bk py pt mt) (ci := 10) (v := .int why) (ty := .int) (C := RX10) (T := TX10) (N := 25) hx hb hts k1 tyX10 tyX10_ok nmX10 hown hK hP hD hS 0 rfl rfl 21 (by decide) k0 (fun _ h9 => h9) rfl (by decide +kernel) rfl rfl (Nat.le_of_ble_eq_true rfl) rfl dX10_fails_2 (fun H locs hP hD hS => ?_)
  refine lv_iconst (v := 0) hx hb dX10_fails_5 (by decide) ?_
  exact mX_zret hAe C hP hS dX10_fails_6 (by decide) (rfl)
