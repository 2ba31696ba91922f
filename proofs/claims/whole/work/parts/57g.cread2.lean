theorem rn_no {tx : Nat → Int32} {sz bb : Nat} {lo hi : Int32} {s : RSt} (hb : bb = sk tx sz s.1) (h : ¬ isD tx sz s.1) : opN tx sz lo hi s = opB 1 (nI bb) (bb, s.2.1, s.2.2) := by
  have e1 : rnA tx sz s.1 = bb := by unfold rnA; rw [if_neg h, hb]
  have e2 : nuW tx sz s.1 lo hi 0 = 1 := if_pos (fun q => h (isD_48.mp q))
  unfold opN; rw [e1, e2, ← hb]
theorem rn_val {tx : Nat → Int32} {sz bb k : Nat} {s : RSt} (hb : bb = sk tx sz s.1) (h : isD tx sz s.1) (hd : dg tx sz bb = bb + k) : vlU tx sz bb k = stV tx sz s.1 := by
  unfold stV; rw [if_pos h, ← hb, hd, Nat.add_sub_cancel_left]
theorem rn_bad {tx : Nat → Int32} {sz bb k : Nat} {lo hi : Int32} {s : RSt} (hb : bb = sk tx sz s.1) (h : isD tx sz s.1) (hd : dg tx sz bb = bb + k) (hk : 3 < k ∧ k ≤ 240 ∨ vlU tx sz bb k < lo ∨ ¬ vlU tx sz bb k ≤ hi) : opN tx sz lo hi s = opB 2 (nI bb) (bb + k, s.2.1, s.2.2) := by
  have e1 : rnA tx sz s.1 = bb + k := by unfold rnA; rw [if_pos h, ← hb, hd]
  have ef : stF tx sz s.1 = nI k := by unfold stF; rw [if_pos h, ← hb, hd, Nat.add_sub_cancel_left]
  have e2 : nuW tx sz s.1 lo hi 0 = 2 := by
    unfold nuW
    rw [if_neg (not_not_intro (isD_48.mpr h)), if_pos]
    rintro ⟨-, q1, q2⟩
    rw [← rn_val hb h hd] at q2
    rw [ef] at q1
    rcases hk with hk | hk | hk
    · exact q1 ((nI_ltI (a := 3) (by decide) (by omega)).mpr hk.1)
    · exact i32_nle.mpr hk q2.1
    · exact hk q2.2
  unfold opN; rw [e1, e2, ← hb]
theorem rn_good {tx : Nat → Int32} {sz bb k : Nat} {lo hi : Int32} {s : RSt} (hb : bb = sk tx sz s.1) (h : isD tx sz s.1) (hd : dg tx sz bb = bb + k) (hk : k ≤ 3) (h1 : lo ≤ vlU tx sz bb k) (h2 : vlU tx sz bb k ≤ hi) : opN tx sz lo hi s = (bb + k, s.2.1, s.2.2) := by
  have e1 : rnA tx sz s.1 = bb + k := by unfold rnA; rw [if_pos h, ← hb, hd]
  have ef : stF tx sz s.1 = nI k := by unfold stF; rw [if_pos h, ← hb, hd, Nat.add_sub_cancel_left]
  have e2 : nuW tx sz s.1 lo hi 0 = 0 := by
    unfold nuW
    rw [if_neg (not_not_intro (isD_48.mpr h)), if_neg]
    refine not_not_intro ⟨isD_48.mpr h, ?_, ?_⟩
    · rw [ef]; exact fun q => by have := (nI_ltI (a := 3) (by decide) (by omega)).mp q; omega
    · rw [← rn_val hb h hd]; exact ⟨h1, h2⟩
  unfold opN; rw [e1, e2, opB_0]
theorem hd_X6_readSign : yX6_readSign.cls = RX6 ∧ yX6_readSign.cls ≠ "java/lang/invoke/MethodHandle" ∧ yX6_readSign.cls ≠ "java/lang/invoke/VarHandle" ∧ (parseMethodDescriptor yX6_readSign.desc).map (fun d => d.parameters.length) = some 1 := by decide +kernel
set_option maxRecDepth 100000 in
set_option maxHeartbeats 4000000 in
theorem c_X6_readSign (l : Launch) (G : gG) (l0 : Nat) (l1 : Nat) (b0 : Nat) (b1 : Nat) (b2 : Nat) (b3 : Nat) (s0 : Nat) (s1 : Nat) (s2 : Nat) (s3 : Nat) (s4 : Nat) (s : RSt) (em : Int32) (i : Nat → Int32) (tx : Nat → Int32) (rt : Nat → Int32) (rn : Nat → Int32) (sz : Nat) (due : Int32) (hsz : i 10 = nI sz) (hs240 : sz ≤ 240) (ha : s.1 ≤ sz) : mX l yX6_readSign wsX6_readSign ({ frames := 1, cells := 0, slots := 0, locals := 22 }) G (rdW G l0 l1 b0 b1 b2 b3 s0 s1 s2 s3 s4 s em i tx rt rn) (rdW G l0 l1 b0 b1 b2 b3 s0 s1 s2 s3 s4 (opS tx sz due s) em i tx rt rn) [.ref l0, .int due] (.returned none) := by
  refine mX.of (cc := cX6_readSign) (maxL := 2) (ret := none) (by decide) rfl (Nat.le_of_ble_eq_true rfl) ?_
  intro zp ze zs zm zb zt zc ls A hAe C hP hK hD hS hl
  obtain ⟨hx, hb, hr, hml, hown, hts, hlk⟩ := id C
  have hl : lv_has ls 2 [(0, .ref l0), (1, .int due)] := hl
  have k0 := hts (.fieldLink RX6 45 "DebtDowry$Reader" "at" "I") (by decide +kernel)
  have k1 := (fun w h => by revert w; decide +kernel : ∀ w ∈ wsX60, w ∈ wsX6_readSign)
  refine lv_aload_n hx hb dX6_readSign_0 rfl (lv_at hl 0 rfl) ?_
  refine cX_V (Cn := RX6) (n := 0) (As := []) (rest := []) (wsn := rdW G l0 l1 b0 b1 b2 b3 s0 s1 s2 s3 s4 (opW tx sz s) em i tx rt rn) C (c_X6_nextSign l G l0 l1 b0 b1 b2 b3 s0 s1 s2 s3 s4 s em i tx rt rn sz  hsz hs240 (by omega)) gX6_readSign_X6_nextSign rfl ⟨rfl, rfl⟩ hd_X6_nextSign ⟨(Nat.le_of_ble_eq_true rfl), (Nat.le_of_ble_eq_true rfl)⟩ hK hP hD hS [0, 1, 2, 3, 4, 5, 6, 7, 8, 9, 10] (by decide) rfl (rdW_f.trans rdW_f.symm) rfl (rdW_f.trans rdW_f.symm) (va_recv hK hP (ci := 6) (q0 := 0) rfl rfl) rfl hl.1 rfl (Nat.le_of_ble_eq_true rfl) dX6_readSign_1 ⟨(Nat.le_of_ble_eq_true rfl), (Nat.le_of_ble_eq_true rfl)⟩ (fun H locs hP hD hS => ?_)
  refine lv_iload_n hx hb dX6_readSign_4 rfl (lv_at hl 1 rfl) ?_
  refine lv_icmp_ne (tgt := 21) hx hb dX6_readSign_5 (by decide) (fun cq1 => ?_) (fun cq1 => ?_)
  · skip
    have hd := cq1
    refine lv_aload_n hx hb dX6_readSign_21 rfl (lv_at hl 0 rfl) ?_
    refine lv_iconst (v := 1) hx hb dX6_readSign_22 (by decide) ?_
    refine lv_aload_n hx hb dX6_readSign_23 rfl (lv_at hl 0 rfl) ?_
    refine va_get (D := G.1) (ci := 6) (v := .int (nI ((opW tx sz s).1))) (C := RX6) (T := TX6) (N := 8) hx hb hts k1 hown hK hP 0 rfl rfl 6 (by decide) k0 (fun _ h9 => h9) rfl dX6_readSign_24 ?_
    refine cX_V (Cn := RX6) (n := 2) (As := [.int 1, .int (nI ((opW tx sz s).1))]) (rest := []) (wsn := rdW G l0 l1 b0 b1 b2 b3 s0 s1 s2 s3 s4 (opB 1 (nI ((opW tx sz s).1)) (opW tx sz s)) em i tx rt rn) C (c_X6_blame l G l0 l1 b0 b1 b2 b3 s0 s1 s2 s3 s4 (opW tx sz s) em i tx rt rn  1 (nI ((opW tx sz s).1)) (by decide)) gX6_readSign_X6_blame rfl ⟨rfl, rfl⟩ hd_X6_blame ⟨(Nat.le_of_ble_eq_true rfl), (Nat.le_of_ble_eq_true rfl)⟩ hK hP hD hS [0, 1, 2, 3, 4, 5, 6, 7, 8, 9, 10] (by decide) rfl (rdW_f.trans rdW_f.symm) rfl (rdW_f.trans rdW_f.symm) (va_recv hK hP (ci := 6) (q0 := 0) rfl rfl) rfl hl.1 rfl (Nat.le_of_ble_eq_true rfl) dX6_readSign_27 ⟨(Nat.le_of_ble_eq_true rfl), (Nat.le_of_ble_eq_true rfl)⟩ (fun H locs hP hD hS => ?_)
    have hP : va_P G.1 vwCl (rdW G l0 l1 b0 b1 b2 b3 s0 s1 s2 s3 s4 (opS tx sz due s) em i tx rt rn) H := by rw [show (opS tx sz due s) = (opB 1 (nI ((opW tx sz s).1)) (opW tx sz s)) from (if_neg hd)]; exact hP
    exact mX_vret hAe C hP hS dX6_readSign_30
  · skip
    have hd := cq1
    refine lv_aload_n hx hb dX6_readSign_8 rfl (lv_at hl 0 rfl) ?_
    refine lv_dup hx hb dX6_readSign_9 rfl ?_
    refine va_get (D := G.1) (ci := 6) (v := .int (nI ((opW tx sz s).1))) (C := RX6) (T := TX6) (N := 8) hx hb hts k1 hown hK hP 0 rfl rfl 6 (by decide) k0 (fun _ h9 => h9) rfl dX6_readSign_10 ?_
    refine lv_iconst (v := 1) hx hb dX6_readSign_13 (by decide) ?_
    refine n_iadd hx hb dX6_readSign_14 (u := (opW tx sz s).1) (v := 1) rfl rfl (j := ((opW tx sz s).1) + 1) (by omega) ?_
    refine n_put (D := G.1) (wsn := rdW G l0 l1 b0 b1 b2 b3 s0 s1 s2 s3 s4 (((opW tx sz s).1) + 1, (opW tx sz s).2.1, (opW tx sz s).2.2) em i tx rt rn) (ci := 6) (v := .int (nI (((opW tx sz s).1) + 1))) (ty := .int) (C := RX6) (T := TX6) (N := 8) hx hb hts k1 tyX6 tyX6_ok nmX6 hown hK hP hD hS 0 rfl rfl 6 (by decide) k0 (fun _ h9 => h9) rfl (by decide +kernel) rfl rfl (Nat.le_of_ble_eq_true rfl) rfl dX6_readSign_15 (fun H locs hP hD hS => ?_)
    refine lv_goto (tgt := 30) hx hb dX6_readSign_18 (by decide) ?_
    have hP : va_P G.1 vwCl (rdW G l0 l1 b0 b1 b2 b3 s0 s1 s2 s3 s4 (opS tx sz due s) em i tx rt rn) H := by rw [show (opS tx sz due s) = (((opW tx sz s).1) + 1, (opW tx sz s).2.1, (opW tx sz s).2.2) from (if_pos hd)]; exact hP
    exact mX_vret hAe C hP hS dX6_readSign_30
theorem hd_X6_readNumber : yX6_readNumber.cls = RX6 ∧ yX6_readNumber.cls ≠ "java/lang/invoke/MethodHandle" ∧ yX6_readNumber.cls ≠ "java/lang/invoke/VarHandle" ∧ (parseMethodDescriptor yX6_readNumber.desc).map (fun d => d.parameters.length) = some 2 := by decide +kernel
set_option maxRecDepth 100000 in
set_option maxHeartbeats 4000000 in
theorem c_X6_readNumber (l : Launch) (G : gG) (l0 : Nat) (l1 : Nat) (b0 : Nat) (b1 : Nat) (b2 : Nat) (b3 : Nat) (s0 : Nat) (s1 : Nat) (s2 : Nat) (s3 : Nat) (s4 : Nat) (s : RSt) (em : Int32) (i : Nat → Int32) (tx : Nat → Int32) (rt : Nat → Int32) (rn : Nat → Int32) (sz : Nat) (lo : Int32) (hi : Int32) (hsz : i 10 = nI sz) (hs240 : sz ≤ 240) (ha : s.1 ≤ sz) : mX l yX6_readNumber wsX6_readNumber ({ frames := 1, cells := 0, slots := 0, locals := 22 }) G (rdW G l0 l1 b0 b1 b2 b3 s0 s1 s2 s3 s4 s em i tx rt rn) (rdW G l0 l1 b0 b1 b2 b3 s0 s1 s2 s3 s4 (opN tx sz lo hi s) (nI (sk tx sz s.1)) i tx rt rn) [.ref l0, .int lo, .int hi] (.returned (some (.int (stV tx sz s.1)))) := by
  refine mX.of (cc := cX6_readNumber) (maxL := 5) (ret := (some .int)) (by decide) rfl (Nat.le_of_ble_eq_true rfl) ?_
  intro zp ze zs zm zb zt zc ls A hAe C hP hK hD hS hl
  obtain ⟨hx, hb, hr, hml, hown, hts, hlk⟩ := id C
  have hl : lv_has ls 5 [(0, .ref l0), (1, .int lo), (2, .int hi)] := hl
  have k0 := hts (.fieldLink RX6 45 "DebtDowry$Reader" "at" "I") (by decide +kernel)
  have k1 := (fun w h => by revert w; decide +kernel : ∀ w ∈ wsX60, w ∈ wsX6_readNumber)
  have k2 := hts (.fieldLink RX6 105 "DebtDowry$Reader" "numberAt" "I") (by decide +kernel)
  have k3 := hts (.fieldLink RX6 35 "DebtDowry$Reader" "length" "I") (by decide +kernel)
  have k4 := hts (.fieldLink RX6 27 "DebtDowry$Reader" "letters" "[I") (by decide +kernel)
  refine lv_aload_n hx hb dX6_readNumber_0 rfl (lv_at hl 0 rfl) ?_
  refine cX_V (Cn := RX6) (n := 0) (As := []) (rest := []) (wsn := rdW G l0 l1 b0 b1 b2 b3 s0 s1 s2 s3 s4 (opW tx sz s) em i tx rt rn) C (c_X6_nextSign l G l0 l1 b0 b1 b2 b3 s0 s1 s2 s3 s4 s em i tx rt rn sz  hsz hs240 (by omega)) gX6_readNumber_X6_nextSign rfl ⟨rfl, rfl⟩ hd_X6_nextSign ⟨(Nat.le_of_ble_eq_true rfl), (Nat.le_of_ble_eq_true rfl)⟩ hK hP hD hS [0, 1, 2, 3, 4, 5, 6, 7, 8, 9, 10] (by decide) rfl (rdW_f.trans rdW_f.symm) rfl (rdW_f.trans rdW_f.symm) (va_recv hK hP (ci := 6) (q0 := 0) rfl rfl) rfl hl.1 rfl (Nat.le_of_ble_eq_true rfl) dX6_readNumber_1 ⟨(Nat.le_of_ble_eq_true rfl), (Nat.le_of_ble_eq_true rfl)⟩ (fun H locs hP hD hS => ?_)
  refine lv_istore_n (lv' := [(3, .int (hv tx sz (sk tx sz s.1))), (0, .ref l0), (1, .int lo), (2, .int hi)]) hx hb dX6_readNumber_4 rfl hl (by decide) rfl (fun ls hl => ?_)
  obtain ⟨bb, hbb⟩ : ∃ z, z = sk tx sz s.1 := ⟨_, rfl⟩
  have hbl : bb ≤ sz := by rw [hbb]; exact (sk_le ha).2
  have hP : va_P G.1 vwCl (rdW G l0 l1 b0 b1 b2 b3 s0 s1 s2 s3 s4 (bb, s.2.1, s.2.2) em i tx rt rn) H := by rw [hbb]; exact hP
  have hD : va_D A (rdW G l0 l1 b0 b1 b2 b3 s0 s1 s2 s3 s4 (bb, s.2.1, s.2.2) em i tx rt rn) := by rw [hbb]; exact hD
  rw [← hbb] at hl
  refine lv_aload_n hx hb dX6_readNumber_5 rfl (lv_at hl 1 rfl) ?_
  refine lv_aload_n hx hb dX6_readNumber_6 rfl (lv_at hl 1 rfl) ?_
  refine va_get (D := G.1) (ci := 6) (v := .int (nI bb)) (C := RX6) (T := TX6) (N := 8) hx hb hts k1 hown hK hP 0 rfl rfl 6 (by decide) k0 (fun _ h9 => h9) rfl dX6_readNumber_7 ?_
  refine n_put (D := G.1) (wsn := rdW G l0 l1 b0 b1 b2 b3 s0 s1 s2 s3 s4 (bb, s.2.1, s.2.2) (nI bb) i tx rt rn) (ci := 6) (v := .int (nI bb)) (ty := .int) (C := RX6) (T := TX6) (N := 8) hx hb hts k1 tyX6 tyX6_ok nmX6 hown hK hP hD hS 0 rfl rfl 7 (by decide) k2 (fun _ h9 => h9) rfl (by decide +kernel) rfl rfl (Nat.le_of_ble_eq_true rfl) rfl dX6_readNumber_10 (fun H locs hP hD hS => ?_)
  refine lv_iload_n hx hb dX6_readNumber_13 rfl (lv_at hl 0 rfl) ?_
  refine cR_S (n := 1) (As := [.int (hv tx sz bb)]) (rest := []) C (c_X6_isFigure l G    (hv tx sz bb) ) gX6_readNumber_X6_isFigure rfl ⟨rfl, rfl⟩ hd_X6_isFigure ⟨(Nat.le_of_ble_eq_true rfl), (Nat.le_of_ble_eq_true rfl)⟩ hK (hP.sub [] rfl) rfl hl.1 rfl (Nat.le_of_ble_eq_true rfl) dX6_readNumber_14 ⟨(Nat.le_of_ble_eq_true rfl), (Nat.le_of_ble_eq_true rfl)⟩ ?_
  refine b_if_ne (tgt := 31) hx hb dX6_readNumber_17 (by decide) (fun cq1 => ?_) (fun cq1 => ?_)
  · skip
    have hyd : isD tx sz s.1 := by show inB (hv tx sz (sk tx sz s.1)) 48 57; rw [← hbb]; exact cq1
    refine lv_iconst (v := 0) hx hb dX6_readNumber_31 (by decide) ?_
    refine lv_istore (lv' := [(4, .int 0), (3, .int (hv tx sz bb)), (0, .ref l0), (1, .int lo), (2, .int hi)]) hx hb dX6_readNumber_32 hl (by decide) rfl (fun ls hl => ?_)
    refine wl_X (B := (sz - bb)) (i0 := 0) (Inv := fun i1 H locs ls => va_P G.1 vwCl (rdW G l0 l1 b0 b1 b2 b3 s0 s1 s2 s3 s4 (bb + i1, s.2.1, s.2.2) (nI bb) i tx rt rn) H ∧ va_D A (rdW G l0 l1 b0 b1 b2 b3 s0 s1 s2 s3 s4 (bb + i1, s.2.1, s.2.2) (nI bb) i tx rt rn) ∧ va_S A zs.heap H locs ∧ lv_has ls 5 [(0, .ref l0), (1, .int lo), (2, .int hi), (4, .int (vlU tx sz bb i1))] ∧ dg tx sz bb = dgN tx sz (sz - (bb + i1)) (bb + i1)) (by omega) ⟨hP, hD, hS, lv_sub hl [2, 3, 4, 0] (rfl), (rfl)⟩ ?_
    rintro i1 H locs ls hle34 ⟨hP, hD, hS, hl, hR⟩ ih34
    refine lv_aload_n hx hb dX6_readNumber_34 rfl (lv_at hl 0 rfl) ?_
    refine va_get (D := G.1) (ci := 6) (v := .int (nI ((bb + i1, s.2.1, s.2.2).1))) (C := RX6) (T := TX6) (N := 8) hx hb hts k1 hown hK hP 0 rfl rfl 6 (by decide) k0 (fun _ h9 => h9) rfl dX6_readNumber_35 ?_
    refine lv_aload_n hx hb dX6_readNumber_38 rfl (lv_at hl 0 rfl) ?_
    refine va_get (D := G.1) (ci := 6) (v := .int (i 10)) (C := RX6) (T := TX6) (N := 8) hx hb hts k1 hown hK hP 0 rfl rfl 3 (by decide) k3 (fun _ h9 => h9) rfl dX6_readNumber_39 ?_
    refine n_icmp_ge (tgt := 106) hx hb dX6_readNumber_42 (by decide) (u := (bb + i1, s.2.1, s.2.2).1) (v := sz) rfl hsz (by omega) (by omega) (fun cq2 => ?_) (fun cq2 => ?_)
    · skip
      have hnd2 : ¬ inB (hv tx sz (bb + i1)) 48 57 := by unfold hv; rw [if_neg (by omega)]; decide
      have hde : dg tx sz bb = bb + i1 := by rw [hR]; exact dgN_x hnd2 _
      have hval : vlU tx sz bb i1 = stV tx sz s.1 := rn_val hbb hyd hde
      refine lv_aload_n hx hb dX6_readNumber_106 rfl (lv_at hl 0 rfl) ?_
      refine va_get (D := G.1) (ci := 6) (v := .int (nI ((bb + i1, s.2.1, s.2.2).1))) (C := RX6) (T := TX6) (N := 8) hx hb hts k1 hown hK hP 0 rfl rfl 6 (by decide) k0 (fun _ h9 => h9) rfl dX6_readNumber_107 ?_
      refine lv_aload_n hx hb dX6_readNumber_110 rfl (lv_at hl 0 rfl) ?_
      refine va_get (D := G.1) (ci := 6) (v := .int (nI bb)) (C := RX6) (T := TX6) (N := 8) hx hb hts k1 hown hK hP 0 rfl rfl 7 (by decide) k2 (fun _ h9 => h9) rfl dX6_readNumber_111 ?_
      refine n_isub hx hb dX6_readNumber_114 (u := (bb + i1, s.2.1, s.2.2).1) (v := bb) rfl rfl (by omega) (j := ((bb + i1, s.2.1, s.2.2).1) - bb) (by omega) ?_
      refine lv_iconst (v := 3) hx hb dX6_readNumber_115 (by decide) ?_
      refine n_icmp_gt (tgt := 131) hx hb dX6_readNumber_116 (by decide) (u := ((bb + i1, s.2.1, s.2.2).1) - bb) (v := 3) rfl rfl (by omega) (by omega) (fun cq3 => ?_) (fun cq3 => ?_)
      · skip
        have hbadS : opN tx sz lo hi s = opB 2 (nI bb) (bb + i1, s.2.1, s.2.2) := rn_bad hbb hyd hde (by first | exact Or.inl (by omega) | exact Or.inr (Or.inl cq3) | exact Or.inr (Or.inr cq3))
        refine lv_aload_n hx hb dX6_readNumber_131 rfl (lv_at hl 0 rfl) ?_
        refine lv_iconst (v := 2) hx hb dX6_readNumber_132 (by decide) ?_
        refine lv_aload_n hx hb dX6_readNumber_133 rfl (lv_at hl 0 rfl) ?_
        refine va_get (D := G.1) (ci := 6) (v := .int (nI bb)) (C := RX6) (T := TX6) (N := 8) hx hb hts k1 hown hK hP 0 rfl rfl 7 (by decide) k2 (fun _ h9 => h9) rfl dX6_readNumber_134 ?_
        refine cX_V (Cn := RX6) (n := 2) (As := [.int 2, .int (nI bb)]) (rest := []) (wsn := rdW G l0 l1 b0 b1 b2 b3 s0 s1 s2 s3 s4 (opB 2 (nI bb) (bb + i1, s.2.1, s.2.2)) (nI bb) i tx rt rn) C (c_X6_blame l G l0 l1 b0 b1 b2 b3 s0 s1 s2 s3 s4 (bb + i1, s.2.1, s.2.2) (nI bb) i tx rt rn  2 (nI bb) (by decide)) gX6_readNumber_X6_blame rfl ⟨rfl, rfl⟩ hd_X6_blame ⟨(Nat.le_of_ble_eq_true rfl), (Nat.le_of_ble_eq_true rfl)⟩ hK hP hD hS [0, 1, 2, 3, 4, 5, 6, 7, 8, 9, 10] (by decide) rfl (rdW_f.trans rdW_f.symm) rfl (rdW_f.trans rdW_f.symm) (va_recv hK hP (ci := 6) (q0 := 0) rfl rfl) rfl hl.1 rfl (Nat.le_of_ble_eq_true rfl) dX6_readNumber_137 ⟨(Nat.le_of_ble_eq_true rfl), (Nat.le_of_ble_eq_true rfl)⟩ (fun H locs hP hD hS => ?_)
        refine lv_iload hx hb dX6_readNumber_140 (lv_at hl 3 rfl) ?_
        have hP : va_P G.1 vwCl (rdW G l0 l1 b0 b1 b2 b3 s0 s1 s2 s3 s4 (opN tx sz lo hi s) (nI (sk tx sz s.1)) i tx rt rn) H := by rw [show (opN tx sz lo hi s) = (opB 2 (nI bb) (bb + i1, s.2.1, s.2.2)) from by rw [hbadS], show (nI (sk tx sz s.1)) = (nI bb) from by rw [hbb]]; exact hP
        exact mX_iret hAe C hP hS dX6_readNumber_142 (hval)
      · skip
        have h116 := cq3
        refine lv_iload hx hb dX6_readNumber_119 (lv_at hl 3 rfl) ?_
        refine lv_iload_n hx hb dX6_readNumber_121 rfl (lv_at hl 1 rfl) ?_
        refine lv_icmp_lt (tgt := 131) hx hb dX6_readNumber_122 (by decide) (fun cq4 => ?_) (fun cq4 => ?_)
        · skip
          have hbadS : opN tx sz lo hi s = opB 2 (nI bb) (bb + i1, s.2.1, s.2.2) := rn_bad hbb hyd hde (by first | exact Or.inl (by omega) | exact Or.inr (Or.inl cq4) | exact Or.inr (Or.inr cq4))
          refine lv_aload_n hx hb dX6_readNumber_131 rfl (lv_at hl 0 rfl) ?_
          refine lv_iconst (v := 2) hx hb dX6_readNumber_132 (by decide) ?_
          refine lv_aload_n hx hb dX6_readNumber_133 rfl (lv_at hl 0 rfl) ?_
          refine va_get (D := G.1) (ci := 6) (v := .int (nI bb)) (C := RX6) (T := TX6) (N := 8) hx hb hts k1 hown hK hP 0 rfl rfl 7 (by decide) k2 (fun _ h9 => h9) rfl dX6_readNumber_134 ?_
          refine cX_V (Cn := RX6) (n := 2) (As := [.int 2, .int (nI bb)]) (rest := []) (wsn := rdW G l0 l1 b0 b1 b2 b3 s0 s1 s2 s3 s4 (opB 2 (nI bb) (bb + i1, s.2.1, s.2.2)) (nI bb) i tx rt rn) C (c_X6_blame l G l0 l1 b0 b1 b2 b3 s0 s1 s2 s3 s4 (bb + i1, s.2.1, s.2.2) (nI bb) i tx rt rn  2 (nI bb) (by decide)) gX6_readNumber_X6_blame rfl ⟨rfl, rfl⟩ hd_X6_blame ⟨(Nat.le_of_ble_eq_true rfl), (Nat.le_of_ble_eq_true rfl)⟩ hK hP hD hS [0, 1, 2, 3, 4, 5, 6, 7, 8, 9, 10] (by decide) rfl (rdW_f.trans rdW_f.symm) rfl (rdW_f.trans rdW_f.symm) (va_recv hK hP (ci := 6) (q0 := 0) rfl rfl) rfl hl.1 rfl (Nat.le_of_ble_eq_true rfl) dX6_readNumber_137 ⟨(Nat.le_of_ble_eq_true rfl), (Nat.le_of_ble_eq_true rfl)⟩ (fun H locs hP hD hS => ?_)
          refine lv_iload hx hb dX6_readNumber_140 (lv_at hl 3 rfl) ?_
          have hP : va_P G.1 vwCl (rdW G l0 l1 b0 b1 b2 b3 s0 s1 s2 s3 s4 (opN tx sz lo hi s) (nI (sk tx sz s.1)) i tx rt rn) H := by rw [show (opN tx sz lo hi s) = (opB 2 (nI bb) (bb + i1, s.2.1, s.2.2)) from by rw [hbadS], show (nI (sk tx sz s.1)) = (nI bb) from by rw [hbb]]; exact hP
          exact mX_iret hAe C hP hS dX6_readNumber_142 (hval)
        · skip
          have h122 := cq4
          refine lv_iload hx hb dX6_readNumber_125 (lv_at hl 3 rfl) ?_
          refine lv_iload_n hx hb dX6_readNumber_127 rfl (lv_at hl 2 rfl) ?_
          refine lv_icmp_le (tgt := 140) hx hb dX6_readNumber_128 (by decide) (fun cq5 => ?_) (fun cq5 => ?_)
          · skip
            have hgoodS : opN tx sz lo hi s = (bb + i1, s.2.1, s.2.2) := rn_good hbb hyd hde (by omega) (i32_nlt.mp h122) cq5
            refine lv_iload hx hb dX6_readNumber_140 (lv_at hl 3 rfl) ?_
            have hP : va_P G.1 vwCl (rdW G l0 l1 b0 b1 b2 b3 s0 s1 s2 s3 s4 (opN tx sz lo hi s) (nI (sk tx sz s.1)) i tx rt rn) H := by rw [show (opN tx sz lo hi s) = (bb + i1, s.2.1, s.2.2) from by rw [hgoodS], show (nI (sk tx sz s.1)) = (nI bb) from by rw [hbb]]; exact hP
            exact mX_iret hAe C hP hS dX6_readNumber_142 (hval)
          · skip
            have hbadS : opN tx sz lo hi s = opB 2 (nI bb) (bb + i1, s.2.1, s.2.2) := rn_bad hbb hyd hde (by first | exact Or.inl (by omega) | exact Or.inr (Or.inl cq5) | exact Or.inr (Or.inr cq5))
            refine lv_aload_n hx hb dX6_readNumber_131 rfl (lv_at hl 0 rfl) ?_
            refine lv_iconst (v := 2) hx hb dX6_readNumber_132 (by decide) ?_
            refine lv_aload_n hx hb dX6_readNumber_133 rfl (lv_at hl 0 rfl) ?_
            refine va_get (D := G.1) (ci := 6) (v := .int (nI bb)) (C := RX6) (T := TX6) (N := 8) hx hb hts k1 hown hK hP 0 rfl rfl 7 (by decide) k2 (fun _ h9 => h9) rfl dX6_readNumber_134 ?_
            refine cX_V (Cn := RX6) (n := 2) (As := [.int 2, .int (nI bb)]) (rest := []) (wsn := rdW G l0 l1 b0 b1 b2 b3 s0 s1 s2 s3 s4 (opB 2 (nI bb) (bb + i1, s.2.1, s.2.2)) (nI bb) i tx rt rn) C (c_X6_blame l G l0 l1 b0 b1 b2 b3 s0 s1 s2 s3 s4 (bb + i1, s.2.1, s.2.2) (nI bb) i tx rt rn  2 (nI bb) (by decide)) gX6_readNumber_X6_blame rfl ⟨rfl, rfl⟩ hd_X6_blame ⟨(Nat.le_of_ble_eq_true rfl), (Nat.le_of_ble_eq_true rfl)⟩ hK hP hD hS [0, 1, 2, 3, 4, 5, 6, 7, 8, 9, 10] (by decide) rfl (rdW_f.trans rdW_f.symm) rfl (rdW_f.trans rdW_f.symm) (va_recv hK hP (ci := 6) (q0 := 0) rfl rfl) rfl hl.1 rfl (Nat.le_of_ble_eq_true rfl) dX6_readNumber_137 ⟨(Nat.le_of_ble_eq_true rfl), (Nat.le_of_ble_eq_true rfl)⟩ (fun H locs hP hD hS => ?_)
            refine lv_iload hx hb dX6_readNumber_140 (lv_at hl 3 rfl) ?_
            have hP : va_P G.1 vwCl (rdW G l0 l1 b0 b1 b2 b3 s0 s1 s2 s3 s4 (opN tx sz lo hi s) (nI (sk tx sz s.1)) i tx rt rn) H := by rw [show (opN tx sz lo hi s) = (opB 2 (nI bb) (bb + i1, s.2.1, s.2.2)) from by rw [hbadS], show (nI (sk tx sz s.1)) = (nI bb) from by rw [hbb]]; exact hP
            exact mX_iret hAe C hP hS dX6_readNumber_142 (hval)
    · skip
      refine lv_aload_n hx hb dX6_readNumber_45 rfl (lv_at hl 0 rfl) ?_
      refine va_get (D := G.1) (ci := 6) (v := .ref l1) (C := RX6) (T := TX6) (N := 8) hx hb hts k1 hown hK hP 0 rfl rfl 2 (by decide) k4 (fun _ h9 => h9) rfl dX6_readNumber_46 ?_
      refine lv_aload_n hx hb dX6_readNumber_49 rfl (lv_at hl 0 rfl) ?_
      refine va_get (D := G.1) (ci := 6) (v := .int (nI ((bb + i1, s.2.1, s.2.2).1))) (C := RX6) (T := TX6) (N := 8) hx hb hts k1 hown hK hP 0 rfl rfl 6 (by decide) k0 (fun _ h9 => h9) rfl dX6_readNumber_50 ?_
      refine n_iald hx hb hK hP 1 0 rfl rfl (j := (bb + i1, s.2.1, s.2.2).1) rfl (by omega) (by decide) dX6_readNumber_53 ?_
      refine cR_S (n := 1) (As := [.int (tx ((bb + i1, s.2.1, s.2.2).1))]) (rest := []) C (c_X6_isFigure l G    (tx ((bb + i1, s.2.1, s.2.2).1)) ) gX6_readNumber_X6_isFigure rfl ⟨rfl, rfl⟩ hd_X6_isFigure ⟨(Nat.le_of_ble_eq_true rfl), (Nat.le_of_ble_eq_true rfl)⟩ hK (hP.sub [] rfl) rfl hl.1 rfl (Nat.le_of_ble_eq_true rfl) dX6_readNumber_54 ⟨(Nat.le_of_ble_eq_true rfl), (Nat.le_of_ble_eq_true rfl)⟩ ?_
      refine b_if_eq (tgt := 106) hx hb dX6_readNumber_57 (by decide) (fun cq6 => ?_) (fun cq6 => ?_)
      · skip
        have hnd2 : ¬ inB (hv tx sz (bb + i1)) 48 57 := by unfold hv; rw [if_pos (by omega)]; exact cq6
        have hde : dg tx sz bb = bb + i1 := by rw [hR]; exact dgN_x hnd2 _
        have hval : vlU tx sz bb i1 = stV tx sz s.1 := rn_val hbb hyd hde
        refine lv_aload_n hx hb dX6_readNumber_106 rfl (lv_at hl 0 rfl) ?_
        refine va_get (D := G.1) (ci := 6) (v := .int (nI ((bb + i1, s.2.1, s.2.2).1))) (C := RX6) (T := TX6) (N := 8) hx hb hts k1 hown hK hP 0 rfl rfl 6 (by decide) k0 (fun _ h9 => h9) rfl dX6_readNumber_107 ?_
        refine lv_aload_n hx hb dX6_readNumber_110 rfl (lv_at hl 0 rfl) ?_
        refine va_get (D := G.1) (ci := 6) (v := .int (nI bb)) (C := RX6) (T := TX6) (N := 8) hx hb hts k1 hown hK hP 0 rfl rfl 7 (by decide) k2 (fun _ h9 => h9) rfl dX6_readNumber_111 ?_
        refine n_isub hx hb dX6_readNumber_114 (u := (bb + i1, s.2.1, s.2.2).1) (v := bb) rfl rfl (by omega) (j := ((bb + i1, s.2.1, s.2.2).1) - bb) (by omega) ?_
        refine lv_iconst (v := 3) hx hb dX6_readNumber_115 (by decide) ?_
        refine n_icmp_gt (tgt := 131) hx hb dX6_readNumber_116 (by decide) (u := ((bb + i1, s.2.1, s.2.2).1) - bb) (v := 3) rfl rfl (by omega) (by omega) (fun cq7 => ?_) (fun cq7 => ?_)
        · skip
          have hbadS : opN tx sz lo hi s = opB 2 (nI bb) (bb + i1, s.2.1, s.2.2) := rn_bad hbb hyd hde (by first | exact Or.inl (by omega) | exact Or.inr (Or.inl cq7) | exact Or.inr (Or.inr cq7))
          refine lv_aload_n hx hb dX6_readNumber_131 rfl (lv_at hl 0 rfl) ?_
          refine lv_iconst (v := 2) hx hb dX6_readNumber_132 (by decide) ?_
          refine lv_aload_n hx hb dX6_readNumber_133 rfl (lv_at hl 0 rfl) ?_
          refine va_get (D := G.1) (ci := 6) (v := .int (nI bb)) (C := RX6) (T := TX6) (N := 8) hx hb hts k1 hown hK hP 0 rfl rfl 7 (by decide) k2 (fun _ h9 => h9) rfl dX6_readNumber_134 ?_
          refine cX_V (Cn := RX6) (n := 2) (As := [.int 2, .int (nI bb)]) (rest := []) (wsn := rdW G l0 l1 b0 b1 b2 b3 s0 s1 s2 s3 s4 (opB 2 (nI bb) (bb + i1, s.2.1, s.2.2)) (nI bb) i tx rt rn) C (c_X6_blame l G l0 l1 b0 b1 b2 b3 s0 s1 s2 s3 s4 (bb + i1, s.2.1, s.2.2) (nI bb) i tx rt rn  2 (nI bb) (by decide)) gX6_readNumber_X6_blame rfl ⟨rfl, rfl⟩ hd_X6_blame ⟨(Nat.le_of_ble_eq_true rfl), (Nat.le_of_ble_eq_true rfl)⟩ hK hP hD hS [0, 1, 2, 3, 4, 5, 6, 7, 8, 9, 10] (by decide) rfl (rdW_f.trans rdW_f.symm) rfl (rdW_f.trans rdW_f.symm) (va_recv hK hP (ci := 6) (q0 := 0) rfl rfl) rfl hl.1 rfl (Nat.le_of_ble_eq_true rfl) dX6_readNumber_137 ⟨(Nat.le_of_ble_eq_true rfl), (Nat.le_of_ble_eq_true rfl)⟩ (fun H locs hP hD hS => ?_)
          refine lv_iload hx hb dX6_readNumber_140 (lv_at hl 3 rfl) ?_
          have hP : va_P G.1 vwCl (rdW G l0 l1 b0 b1 b2 b3 s0 s1 s2 s3 s4 (opN tx sz lo hi s) (nI (sk tx sz s.1)) i tx rt rn) H := by rw [show (opN tx sz lo hi s) = (opB 2 (nI bb) (bb + i1, s.2.1, s.2.2)) from by rw [hbadS], show (nI (sk tx sz s.1)) = (nI bb) from by rw [hbb]]; exact hP
          exact mX_iret hAe C hP hS dX6_readNumber_142 (hval)
        · skip
          have h116 := cq7
          refine lv_iload hx hb dX6_readNumber_119 (lv_at hl 3 rfl) ?_
          refine lv_iload_n hx hb dX6_readNumber_121 rfl (lv_at hl 1 rfl) ?_
          refine lv_icmp_lt (tgt := 131) hx hb dX6_readNumber_122 (by decide) (fun cq8 => ?_) (fun cq8 => ?_)
          · skip
            have hbadS : opN tx sz lo hi s = opB 2 (nI bb) (bb + i1, s.2.1, s.2.2) := rn_bad hbb hyd hde (by first | exact Or.inl (by omega) | exact Or.inr (Or.inl cq8) | exact Or.inr (Or.inr cq8))
            refine lv_aload_n hx hb dX6_readNumber_131 rfl (lv_at hl 0 rfl) ?_
            refine lv_iconst (v := 2) hx hb dX6_readNumber_132 (by decide) ?_
            refine lv_aload_n hx hb dX6_readNumber_133 rfl (lv_at hl 0 rfl) ?_
            refine va_get (D := G.1) (ci := 6) (v := .int (nI bb)) (C := RX6) (T := TX6) (N := 8) hx hb hts k1 hown hK hP 0 rfl rfl 7 (by decide) k2 (fun _ h9 => h9) rfl dX6_readNumber_134 ?_
            refine cX_V (Cn := RX6) (n := 2) (As := [.int 2, .int (nI bb)]) (rest := []) (wsn := rdW G l0 l1 b0 b1 b2 b3 s0 s1 s2 s3 s4 (opB 2 (nI bb) (bb + i1, s.2.1, s.2.2)) (nI bb) i tx rt rn) C (c_X6_blame l G l0 l1 b0 b1 b2 b3 s0 s1 s2 s3 s4 (bb + i1, s.2.1, s.2.2) (nI bb) i tx rt rn  2 (nI bb) (by decide)) gX6_readNumber_X6_blame rfl ⟨rfl, rfl⟩ hd_X6_blame ⟨(Nat.le_of_ble_eq_true rfl), (Nat.le_of_ble_eq_true rfl)⟩ hK hP hD hS [0, 1, 2, 3, 4, 5, 6, 7, 8, 9, 10] (by decide) rfl (rdW_f.trans rdW_f.symm) rfl (rdW_f.trans rdW_f.symm) (va_recv hK hP (ci := 6) (q0 := 0) rfl rfl) rfl hl.1 rfl (Nat.le_of_ble_eq_true rfl) dX6_readNumber_137 ⟨(Nat.le_of_ble_eq_true rfl), (Nat.le_of_ble_eq_true rfl)⟩ (fun H locs hP hD hS => ?_)
            refine lv_iload hx hb dX6_readNumber_140 (lv_at hl 3 rfl) ?_
            have hP : va_P G.1 vwCl (rdW G l0 l1 b0 b1 b2 b3 s0 s1 s2 s3 s4 (opN tx sz lo hi s) (nI (sk tx sz s.1)) i tx rt rn) H := by rw [show (opN tx sz lo hi s) = (opB 2 (nI bb) (bb + i1, s.2.1, s.2.2)) from by rw [hbadS], show (nI (sk tx sz s.1)) = (nI bb) from by rw [hbb]]; exact hP
            exact mX_iret hAe C hP hS dX6_readNumber_142 (hval)
          · skip
            have h122 := cq8
            refine lv_iload hx hb dX6_readNumber_125 (lv_at hl 3 rfl) ?_
            refine lv_iload_n hx hb dX6_readNumber_127 rfl (lv_at hl 2 rfl) ?_
            refine lv_icmp_le (tgt := 140) hx hb dX6_readNumber_128 (by decide) (fun cq9 => ?_) (fun cq9 => ?_)
            · skip
              have hgoodS : opN tx sz lo hi s = (bb + i1, s.2.1, s.2.2) := rn_good hbb hyd hde (by omega) (i32_nlt.mp h122) cq9
              refine lv_iload hx hb dX6_readNumber_140 (lv_at hl 3 rfl) ?_
              have hP : va_P G.1 vwCl (rdW G l0 l1 b0 b1 b2 b3 s0 s1 s2 s3 s4 (opN tx sz lo hi s) (nI (sk tx sz s.1)) i tx rt rn) H := by rw [show (opN tx sz lo hi s) = (bb + i1, s.2.1, s.2.2) from by rw [hgoodS], show (nI (sk tx sz s.1)) = (nI bb) from by rw [hbb]]; exact hP
              exact mX_iret hAe C hP hS dX6_readNumber_142 (hval)
            · skip
              have hbadS : opN tx sz lo hi s = opB 2 (nI bb) (bb + i1, s.2.1, s.2.2) := rn_bad hbb hyd hde (by first | exact Or.inl (by omega) | exact Or.inr (Or.inl cq9) | exact Or.inr (Or.inr cq9))
              refine lv_aload_n hx hb dX6_readNumber_131 rfl (lv_at hl 0 rfl) ?_
              refine lv_iconst (v := 2) hx hb dX6_readNumber_132 (by decide) ?_
              refine lv_aload_n hx hb dX6_readNumber_133 rfl (lv_at hl 0 rfl) ?_
              refine va_get (D := G.1) (ci := 6) (v := .int (nI bb)) (C := RX6) (T := TX6) (N := 8) hx hb hts k1 hown hK hP 0 rfl rfl 7 (by decide) k2 (fun _ h9 => h9) rfl dX6_readNumber_134 ?_
              refine cX_V (Cn := RX6) (n := 2) (As := [.int 2, .int (nI bb)]) (rest := []) (wsn := rdW G l0 l1 b0 b1 b2 b3 s0 s1 s2 s3 s4 (opB 2 (nI bb) (bb + i1, s.2.1, s.2.2)) (nI bb) i tx rt rn) C (c_X6_blame l G l0 l1 b0 b1 b2 b3 s0 s1 s2 s3 s4 (bb + i1, s.2.1, s.2.2) (nI bb) i tx rt rn  2 (nI bb) (by decide)) gX6_readNumber_X6_blame rfl ⟨rfl, rfl⟩ hd_X6_blame ⟨(Nat.le_of_ble_eq_true rfl), (Nat.le_of_ble_eq_true rfl)⟩ hK hP hD hS [0, 1, 2, 3, 4, 5, 6, 7, 8, 9, 10] (by decide) rfl (rdW_f.trans rdW_f.symm) rfl (rdW_f.trans rdW_f.symm) (va_recv hK hP (ci := 6) (q0 := 0) rfl rfl) rfl hl.1 rfl (Nat.le_of_ble_eq_true rfl) dX6_readNumber_137 ⟨(Nat.le_of_ble_eq_true rfl), (Nat.le_of_ble_eq_true rfl)⟩ (fun H locs hP hD hS => ?_)
              refine lv_iload hx hb dX6_readNumber_140 (lv_at hl 3 rfl) ?_
              have hP : va_P G.1 vwCl (rdW G l0 l1 b0 b1 b2 b3 s0 s1 s2 s3 s4 (opN tx sz lo hi s) (nI (sk tx sz s.1)) i tx rt rn) H := by rw [show (opN tx sz lo hi s) = (opB 2 (nI bb) (bb + i1, s.2.1, s.2.2)) from by rw [hbadS], show (nI (sk tx sz s.1)) = (nI bb) from by rw [hbb]]; exact hP
              exact mX_iret hAe C hP hS dX6_readNumber_142 (hval)
      · skip
        have hhv : hv tx sz (bb + i1) = tx (bb + i1) := by unfold hv; rw [if_pos (by omega)]
        have hd2 : inB (hv tx sz (bb + i1)) 48 57 := by rw [hhv]; exact cq6
        refine lv_aload_n hx hb dX6_readNumber_60 rfl (lv_at hl 0 rfl) ?_
        refine va_get (D := G.1) (ci := 6) (v := .int (nI ((bb + i1, s.2.1, s.2.2).1))) (C := RX6) (T := TX6) (N := 8) hx hb hts k1 hown hK hP 0 rfl rfl 6 (by decide) k0 (fun _ h9 => h9) rfl dX6_readNumber_61 ?_
        refine lv_aload_n hx hb dX6_readNumber_64 rfl (lv_at hl 0 rfl) ?_
        refine va_get (D := G.1) (ci := 6) (v := .int (nI bb)) (C := RX6) (T := TX6) (N := 8) hx hb hts k1 hown hK hP 0 rfl rfl 7 (by decide) k2 (fun _ h9 => h9) rfl dX6_readNumber_65 ?_
        refine n_isub hx hb dX6_readNumber_68 (u := (bb + i1, s.2.1, s.2.2).1) (v := bb) rfl rfl (by omega) (j := ((bb + i1, s.2.1, s.2.2).1) - bb) (by omega) ?_
        refine lv_iconst (v := 3) hx hb dX6_readNumber_69 (by decide) ?_
        refine n_icmp_ge (tgt := 93) hx hb dX6_readNumber_70 (by decide) (u := ((bb + i1, s.2.1, s.2.2).1) - bb) (v := 3) rfl rfl (by omega) (by omega) (fun cq10 => ?_) (fun cq10 => ?_)
        · skip
          have hvs : vlU tx sz bb i1 = vlU tx sz bb (i1 + 1) := (if_neg (by omega)).symm
          refine lv_aload_n hx hb dX6_readNumber_93 rfl (lv_at hl 0 rfl) ?_
          refine lv_dup hx hb dX6_readNumber_94 rfl ?_
          refine va_get (D := G.1) (ci := 6) (v := .int (nI ((bb + i1, s.2.1, s.2.2).1))) (C := RX6) (T := TX6) (N := 8) hx hb hts k1 hown hK hP 0 rfl rfl 6 (by decide) k0 (fun _ h9 => h9) rfl dX6_readNumber_95 ?_
          refine lv_iconst (v := 1) hx hb dX6_readNumber_98 (by decide) ?_
          refine n_iadd hx hb dX6_readNumber_99 (u := (bb + i1, s.2.1, s.2.2).1) (v := 1) rfl rfl (j := ((bb + i1, s.2.1, s.2.2).1) + 1) (by omega) ?_
          refine n_put (D := G.1) (wsn := rdW G l0 l1 b0 b1 b2 b3 s0 s1 s2 s3 s4 (((bb + i1, s.2.1, s.2.2).1) + 1, (bb + i1, s.2.1, s.2.2).2.1, (bb + i1, s.2.1, s.2.2).2.2) (nI bb) i tx rt rn) (ci := 6) (v := .int (nI (((bb + i1, s.2.1, s.2.2).1) + 1))) (ty := .int) (C := RX6) (T := TX6) (N := 8) hx hb hts k1 tyX6 tyX6_ok nmX6 hown hK hP hD hS 0 rfl rfl 6 (by decide) k0 (fun _ h9 => h9) rfl (by decide +kernel) rfl rfl (Nat.le_of_ble_eq_true rfl) rfl dX6_readNumber_100 (fun H locs hP hD hS => ?_)
          refine lv_goto (tgt := 34) hx hb dX6_readNumber_103 (by decide) ?_
          have e11 : vlU tx sz bb i1 = vlU tx sz bb (i1 + 1) := hvs
          exact ih34 _ _ _ (by omega) ⟨hP, hD, hS, lv_sub hl [0, 1, 2, 3] (by rw [← e11]; rfl), (by rw [hR, dgN_s hd2]; rfl)⟩
        · skip
          have hvs : vlU tx sz bb i1 * 10 + tx (bb + i1) - 48 = vlU tx sz bb (i1 + 1) := by rw [← hhv, Int32.mul_comm]; exact (if_pos (by omega)).symm
          refine lv_iload hx hb dX6_readNumber_73 (lv_at hl 3 rfl) ?_
          refine lv_bipush (v := 10) hx hb dX6_readNumber_75 (by decide) ?_
          refine lv_imul hx hb dX6_readNumber_77 ?_
          refine lv_aload_n hx hb dX6_readNumber_78 rfl (lv_at hl 0 rfl) ?_
          refine va_get (D := G.1) (ci := 6) (v := .ref l1) (C := RX6) (T := TX6) (N := 8) hx hb hts k1 hown hK hP 0 rfl rfl 2 (by decide) k4 (fun _ h9 => h9) rfl dX6_readNumber_79 ?_
          refine lv_aload_n hx hb dX6_readNumber_82 rfl (lv_at hl 0 rfl) ?_
          refine va_get (D := G.1) (ci := 6) (v := .int (nI ((bb + i1, s.2.1, s.2.2).1))) (C := RX6) (T := TX6) (N := 8) hx hb hts k1 hown hK hP 0 rfl rfl 6 (by decide) k0 (fun _ h9 => h9) rfl dX6_readNumber_83 ?_
          refine n_iald hx hb hK hP 1 0 rfl rfl (j := (bb + i1, s.2.1, s.2.2).1) rfl (by omega) (by decide) dX6_readNumber_86 ?_
          refine lv_iadd hx hb dX6_readNumber_87 ?_
          refine lv_bipush (v := 48) hx hb dX6_readNumber_88 (by decide) ?_
          refine lv_isub hx hb dX6_readNumber_90 ?_
          refine lv_istore (lv' := [(4, .int ((((vlU tx sz bb i1) * 10) + (tx ((bb + i1, s.2.1, s.2.2).1))) - 48)), (0, .ref l0), (1, .int lo), (2, .int hi)]) hx hb dX6_readNumber_91 hl (by decide) rfl (fun ls hl => ?_)
          refine lv_aload_n hx hb dX6_readNumber_93 rfl (lv_at hl 1 rfl) ?_
          refine lv_dup hx hb dX6_readNumber_94 rfl ?_
          refine va_get (D := G.1) (ci := 6) (v := .int (nI ((bb + i1, s.2.1, s.2.2).1))) (C := RX6) (T := TX6) (N := 8) hx hb hts k1 hown hK hP 0 rfl rfl 6 (by decide) k0 (fun _ h9 => h9) rfl dX6_readNumber_95 ?_
          refine lv_iconst (v := 1) hx hb dX6_readNumber_98 (by decide) ?_
          refine n_iadd hx hb dX6_readNumber_99 (u := (bb + i1, s.2.1, s.2.2).1) (v := 1) rfl rfl (j := ((bb + i1, s.2.1, s.2.2).1) + 1) (by omega) ?_
          refine n_put (D := G.1) (wsn := rdW G l0 l1 b0 b1 b2 b3 s0 s1 s2 s3 s4 (((bb + i1, s.2.1, s.2.2).1) + 1, (bb + i1, s.2.1, s.2.2).2.1, (bb + i1, s.2.1, s.2.2).2.2) (nI bb) i tx rt rn) (ci := 6) (v := .int (nI (((bb + i1, s.2.1, s.2.2).1) + 1))) (ty := .int) (C := RX6) (T := TX6) (N := 8) hx hb hts k1 tyX6 tyX6_ok nmX6 hown hK hP hD hS 0 rfl rfl 6 (by decide) k0 (fun _ h9 => h9) rfl (by decide +kernel) rfl rfl (Nat.le_of_ble_eq_true rfl) rfl dX6_readNumber_100 (fun H locs hP hD hS => ?_)
          refine lv_goto (tgt := 34) hx hb dX6_readNumber_103 (by decide) ?_
          have e12 : (((vlU tx sz bb i1) * 10) + (tx ((bb + i1, s.2.1, s.2.2).1))) - 48 = vlU tx sz bb (i1 + 1) := hvs
          exact ih34 _ _ _ (by omega) ⟨hP, hD, hS, lv_sub hl [1, 2, 3, 0] (by rw [← e12]; rfl), (by rw [hR, dgN_s hd2]; rfl)⟩
  · skip
    have hnd : ¬ isD tx sz s.1 := by show ¬ inB (hv tx sz (sk tx sz s.1)) 48 57; rw [← hbb]; exact cq1
    have hval : (0 : Int32) = stV tx sz s.1 := (if_neg hnd).symm
    have hnoS : opN tx sz lo hi s = opB 1 (nI bb) (bb, s.2.1, s.2.2) := rn_no hbb hnd
    refine lv_aload_n hx hb dX6_readNumber_20 rfl (lv_at hl 1 rfl) ?_
    refine lv_iconst (v := 1) hx hb dX6_readNumber_21 (by decide) ?_
    refine lv_aload_n hx hb dX6_readNumber_22 rfl (lv_at hl 1 rfl) ?_
    refine va_get (D := G.1) (ci := 6) (v := .int (nI bb)) (C := RX6) (T := TX6) (N := 8) hx hb hts k1 hown hK hP 0 rfl rfl 6 (by decide) k0 (fun _ h9 => h9) rfl dX6_readNumber_23 ?_
    refine cX_V (Cn := RX6) (n := 2) (As := [.int 1, .int (nI bb)]) (rest := []) (wsn := rdW G l0 l1 b0 b1 b2 b3 s0 s1 s2 s3 s4 (opB 1 (nI bb) (bb, s.2.1, s.2.2)) (nI bb) i tx rt rn) C (c_X6_blame l G l0 l1 b0 b1 b2 b3 s0 s1 s2 s3 s4 (bb, s.2.1, s.2.2) (nI bb) i tx rt rn  1 (nI bb) (by decide)) gX6_readNumber_X6_blame rfl ⟨rfl, rfl⟩ hd_X6_blame ⟨(Nat.le_of_ble_eq_true rfl), (Nat.le_of_ble_eq_true rfl)⟩ hK hP hD hS [0, 1, 2, 3, 4, 5, 6, 7, 8, 9, 10] (by decide) rfl (rdW_f.trans rdW_f.symm) rfl (rdW_f.trans rdW_f.symm) (va_recv hK hP (ci := 6) (q0 := 0) rfl rfl) rfl hl.1 rfl (Nat.le_of_ble_eq_true rfl) dX6_readNumber_26 ⟨(Nat.le_of_ble_eq_true rfl), (Nat.le_of_ble_eq_true rfl)⟩ (fun H locs hP hD hS => ?_)
    refine lv_iconst (v := 0) hx hb dX6_readNumber_29 (by decide) ?_
    have hP : va_P G.1 vwCl (rdW G l0 l1 b0 b1 b2 b3 s0 s1 s2 s3 s4 (opN tx sz lo hi s) (nI (sk tx sz s.1)) i tx rt rn) H := by rw [show (opN tx sz lo hi s) = (opB 1 (nI bb) (bb, s.2.1, s.2.2)) from by rw [hnoS], show (nI (sk tx sz s.1)) = (nI bb) from by rw [hbb]]; exact hP
    exact mX_iret hAe C hP hS dX6_readNumber_30 (hval)
