theorem hd_X10_wedOnes : yX10_wedOnes.cls = RX10 ∧ yX10_wedOnes.cls ≠ "java/lang/invoke/MethodHandle" ∧ yX10_wedOnes.cls ≠ "java/lang/invoke/VarHandle" ∧ (parseMethodDescriptor yX10_wedOnes.desc).map (fun d => d.parameters.length) = some 0 := by decide +kernel
set_option maxRecDepth 100000 in
set_option maxHeartbeats 4000000 in
theorem c_X10_wedOnes (l : Launch) (G : gG) (a : Nat → Nat) (i : Nat → Int32) (j : Nat → Int32) (t : Nat → Int32) (r : Nat → Int32) (n : Nat → Int32) (d : Nat → Int32) (ps : Nat → Int32) (im : Nat → Int32) (kp : Nat → Int32) (tx : Nat → Int32) (cd : Nat → Int32) (bk : Nat → Int32) (py : Nat → Int32) (pt : Nat → Int32) (mt : Nat → Int32) : mR l yX10_wedOnes wsX10_wedOnes ({ frames := 0, cells := 0, slots := 0, locals := 0 }) G (mW G a i j t r n d ps im kp tx cd bk py pt mt) [.ref (a 0)] (wedS n 8) := by
  refine mR.of (cc := cX10_wedOnes) (maxL := 3) (ret := (some .int)) (by decide) rfl (Nat.le_of_ble_eq_true rfl) ?_
  intro zp ze zs zm zb zt zc ls C hP hK hl
  obtain ⟨hx, hb, hr, hml, hown, hts, hlk⟩ := id C
  have hl : lv_has ls 3 [(0, .ref (a 0))] := hl
  have k0 := hts (.fieldLink RX10 16 "DebtDowryModel" "now" "[I") (by decide +kernel)
  have k1 := (fun w h => by revert w; decide +kernel : ∀ w ∈ wsX100, w ∈ wsX10_wedOnes)
  refine lv_iconst (v := 0) hx hb dX10_wedOnes_0 (by decide) ?_
  refine lv_istore_n (lv' := [(1, .int 0), (0, .ref (a 0))]) hx hb dX10_wedOnes_1 rfl hl (by decide) rfl (fun ls hl => ?_)
  refine lv_iconst (v := 0) hx hb dX10_wedOnes_2 (by decide) ?_
  refine lv_istore_n (lv' := [(2, .int 0), (1, .int 0), (0, .ref (a 0))]) hx hb dX10_wedOnes_3 rfl hl (by decide) rfl (fun ls hl => ?_)
  refine wl_R (B := 8) (i0 := 0) (Inv := fun i1 ls => lv_has ls 3 [(0, .ref (a 0)), (1, .int (wedS n i1)), (2, .int (nI i1))] ∧ True) (by omega) ⟨lv_sub hl [2, 1, 0] (rfl), trivial⟩ ?_
  rintro i1 ls hle4 ⟨hl, -⟩ ih4
  refine lv_iload_n hx hb dX10_wedOnes_4 rfl (lv_at hl 2 rfl) ?_
  refine lv_bipush (v := 8) hx hb dX10_wedOnes_5 (by decide) ?_
  refine n_icmp_ge (tgt := 39) hx hb dX10_wedOnes_7 (by decide) (u := i1) (v := 8) rfl rfl (by omega) (by omega) (fun cq1 => ?_) (fun cq1 => ?_)
  · skip
    obtain rfl : i1 = 8 := by omega
    refine lv_iload_n hx hb dX10_wedOnes_39 rfl (lv_at hl 1 rfl) ?_
    exact mR_iret C dX10_wedOnes_40 (rfl)
  · skip
    refine lv_iload_n hx hb dX10_wedOnes_10 rfl (lv_at hl 1 rfl) ?_
    refine lv_aload_n hx hb dX10_wedOnes_11 rfl (lv_at hl 0 rfl) ?_
    refine va_get (D := G.1) (ci := 10) (v := .ref (a 3)) (C := RX10) (T := TX10) (N := 25) hx hb hts k1 hown hK hP 0 rfl rfl 2 (by decide) k0 (fun _ h9 => h9) rfl dX10_wedOnes_12 ?_
    refine lv_bipush (v := 44) hx hb dX10_wedOnes_15 (by decide) ?_
    refine lv_iload_n hx hb dX10_wedOnes_17 rfl (lv_at hl 2 rfl) ?_
    refine n_iadd hx hb dX10_wedOnes_18 (u := 44) (v := i1) rfl rfl (j := 44 + i1) (by omega) ?_
    refine n_iald hx hb hK hP 3 0 rfl rfl (j := 44 + i1) rfl (by omega) (by decide) dX10_wedOnes_19 ?_
    refine lv_iconst (v := (-1)) hx hb dX10_wedOnes_20 (by decide) ?_
    refine lv_icmp_ne (tgt := 28) hx hb dX10_wedOnes_21 (by decide) (fun cq2 => ?_) (fun cq2 => ?_)
    · skip
      refine lv_iconst (v := 1) hx hb dX10_wedOnes_28 (by decide) ?_
      refine lv_iload_n hx hb dX10_wedOnes_29 rfl (lv_at hl 2 rfl) ?_
      refine lv_ishl hx hb dX10_wedOnes_30 ?_
      refine lv_ior hx hb dX10_wedOnes_31 ?_
      refine lv_istore_n (lv' := [(1, .int ((wedS n i1) ||| (1 <<< ((nI i1) &&& 31)))), (0, .ref (a 0)), (2, .int (nI i1))]) hx hb dX10_wedOnes_32 rfl hl (by decide) rfl (fun ls hl => ?_)
      refine lv_iinc (v := nI (i1 + 1)) (lv' := [(2, .int (nI (i1 + 1))), (1, .int ((wedS n i1) ||| (1 <<< ((nI i1) &&& 31)))), (0, .ref (a 0))]) hx hb dX10_wedOnes_33 hl (k := 2) rfl (by rw [show (nI i1 : Int32) = nI i1 from rfl]; exact nI_add _ 1) (by decide) rfl (fun ls hl => ?_)
      refine lv_goto (tgt := 4) hx hb dX10_wedOnes_36 (by decide) ?_
      have e3 : (wedS n i1) ||| (1 <<< ((nI i1) &&& 31)) = wedS n (i1 + 1) := by first | exact setU_t (by simp only [wedP]; simp [cq1, cq2]) | exact setU_f (by simp only [wedP]; simp [cq1, cq2])
      exact ih4 _ (by omega) ⟨lv_sub hl [2, 1, 0] (by rw [← e3]; rfl), trivial⟩
    · skip
      refine lv_iconst (v := 0) hx hb dX10_wedOnes_24 (by decide) ?_
      refine lv_goto (tgt := 31) hx hb dX10_wedOnes_25 (by decide) ?_
      refine lv_ior hx hb dX10_wedOnes_31 ?_
      refine lv_istore_n (lv' := [(1, .int ((wedS n i1) ||| 0)), (0, .ref (a 0)), (2, .int (nI i1))]) hx hb dX10_wedOnes_32 rfl hl (by decide) rfl (fun ls hl => ?_)
      refine lv_iinc (v := nI (i1 + 1)) (lv' := [(2, .int (nI (i1 + 1))), (1, .int ((wedS n i1) ||| 0)), (0, .ref (a 0))]) hx hb dX10_wedOnes_33 hl (k := 2) rfl (by rw [show (nI i1 : Int32) = nI i1 from rfl]; exact nI_add _ 1) (by decide) rfl (fun ls hl => ?_)
      refine lv_goto (tgt := 4) hx hb dX10_wedOnes_36 (by decide) ?_
      have e4 : (wedS n i1) ||| 0 = wedS n (i1 + 1) := by first | exact setU_t (by simp only [wedP]; simp [cq1, cq2]) | exact setU_f (by simp only [wedP]; simp [cq1, cq2])
      exact ih4 _ (by omega) ⟨lv_sub hl [2, 1, 0] (by rw [← e4]; rfl), trivial⟩
theorem hd_X10_owedInAll : yX10_owedInAll.cls = RX10 ∧ yX10_owedInAll.cls ≠ "java/lang/invoke/MethodHandle" ∧ yX10_owedInAll.cls ≠ "java/lang/invoke/VarHandle" ∧ (parseMethodDescriptor yX10_owedInAll.desc).map (fun d => d.parameters.length) = some 0 := by decide +kernel
set_option maxRecDepth 100000 in
set_option maxHeartbeats 4000000 in
theorem c_X10_owedInAll (l : Launch) (G : gG) (a : Nat → Nat) (i : Nat → Int32) (j : Nat → Int32) (t : Nat → Int32) (r : Nat → Int32) (n : Nat → Int32) (d : Nat → Int32) (ps : Nat → Int32) (im : Nat → Int32) (kp : Nat → Int32) (tx : Nat → Int32) (cd : Nat → Int32) (bk : Nat → Int32) (py : Nat → Int32) (pt : Nat → Int32) (mt : Nat → Int32) : mR l yX10_owedInAll wsX10_owedInAll ({ frames := 1, cells := 0, slots := 0, locals := 24 }) G (mW G a i j t r n d ps im kp tx cd bk py pt mt) [.ref (a 0)] (allU n 8) := by
  refine mR.of (cc := cX10_owedInAll) (maxL := 3) (ret := (some .int)) (by decide) rfl (Nat.le_of_ble_eq_true rfl) ?_
  intro zp ze zs zm zb zt zc ls C hP hK hl
  obtain ⟨hx, hb, hr, hml, hown, hts, hlk⟩ := id C
  have hl : lv_has ls 3 [(0, .ref (a 0))] := hl
  have k0 := hts (.fieldLink RX10 16 "DebtDowryModel" "now" "[I") (by decide +kernel)
  have k1 := (fun w h => by revert w; decide +kernel : ∀ w ∈ wsX100, w ∈ wsX10_owedInAll)
  refine lv_iconst (v := 0) hx hb dX10_owedInAll_0 (by decide) ?_
  refine lv_istore_n (lv' := [(1, .int 0), (0, .ref (a 0))]) hx hb dX10_owedInAll_1 rfl hl (by decide) rfl (fun ls hl => ?_)
  refine lv_iconst (v := 0) hx hb dX10_owedInAll_2 (by decide) ?_
  refine lv_istore_n (lv' := [(2, .int 0), (1, .int 0), (0, .ref (a 0))]) hx hb dX10_owedInAll_3 rfl hl (by decide) rfl (fun ls hl => ?_)
  refine wl_R (B := 8) (i0 := 0) (Inv := fun i1 ls => lv_has ls 3 [(0, .ref (a 0)), (1, .int (allU n i1)), (2, .int (nI i1))] ∧ True) (by omega) ⟨lv_sub hl [2, 1, 0] (rfl), trivial⟩ ?_
  rintro i1 ls hle4 ⟨hl, -⟩ ih4
  refine lv_iload_n hx hb dX10_owedInAll_4 rfl (lv_at hl 2 rfl) ?_
  refine lv_bipush (v := 8) hx hb dX10_owedInAll_5 (by decide) ?_
  refine n_icmp_ge (tgt := 28) hx hb dX10_owedInAll_7 (by decide) (u := i1) (v := 8) rfl rfl (by omega) (by omega) (fun cq1 => ?_) (fun cq1 => ?_)
  · skip
    obtain rfl : i1 = 8 := by omega
    refine lv_iload_n hx hb dX10_owedInAll_28 rfl (lv_at hl 1 rfl) ?_
    exact mR_iret C dX10_owedInAll_29 (rfl)
  · skip
    refine lv_iload_n hx hb dX10_owedInAll_10 rfl (lv_at hl 1 rfl) ?_
    refine lv_aload_n hx hb dX10_owedInAll_11 rfl (lv_at hl 0 rfl) ?_
    refine lv_aload_n hx hb dX10_owedInAll_12 rfl (lv_at hl 0 rfl) ?_
    refine va_get (D := G.1) (ci := 10) (v := .ref (a 3)) (C := RX10) (T := TX10) (N := 25) hx hb hts k1 hown hK hP 0 rfl rfl 2 (by decide) k0 (fun _ h9 => h9) rfl dX10_owedInAll_13 ?_
    refine lv_iload_n hx hb dX10_owedInAll_16 rfl (lv_at hl 2 rfl) ?_
    refine cR_V (Cn := RX10) (n := 2) (As := [.ref (a 3), .int (nI i1)]) (rest := [.int (allU n i1)]) C (c_X10_sumOf_n l G a i j t r n d ps im kp tx cd bk py pt mt  i1 (by omega)) gX10_owedInAll_X10_sumOf rfl ⟨rfl, rfl⟩ hd_X10_sumOf ⟨(Nat.le_of_ble_eq_true rfl), (Nat.le_of_ble_eq_true rfl)⟩ hK hP (va_recv hK hP (ci := 10) (q0 := 0) rfl rfl) rfl hl.1 rfl (Nat.le_of_ble_eq_true rfl) dX10_owedInAll_17 ⟨(Nat.le_of_ble_eq_true rfl), (Nat.le_of_ble_eq_true rfl)⟩ ?_
    refine lv_iadd hx hb dX10_owedInAll_20 ?_
    refine lv_istore_n (lv' := [(1, .int ((allU n i1) + (owU n i1 4))), (0, .ref (a 0)), (2, .int (nI i1))]) hx hb dX10_owedInAll_21 rfl hl (by decide) rfl (fun ls hl => ?_)
    refine lv_iinc (v := nI (i1 + 1)) (lv' := [(2, .int (nI (i1 + 1))), (1, .int ((allU n i1) + (owU n i1 4))), (0, .ref (a 0))]) hx hb dX10_owedInAll_22 hl (k := 2) rfl (by rw [show (nI i1 : Int32) = nI i1 from rfl]; exact nI_add _ 1) (by decide) rfl (fun ls hl => ?_)
    refine lv_goto (tgt := 4) hx hb dX10_owedInAll_25 (by decide) ?_
    exact ih4 _ (by omega) ⟨lv_sub hl [2, 1, 0] (rfl), trivial⟩
theorem hd_X10_whoAre : yX10_whoAre.cls = RX10 ∧ yX10_whoAre.cls ≠ "java/lang/invoke/MethodHandle" ∧ yX10_whoAre.cls ≠ "java/lang/invoke/VarHandle" ∧ (parseMethodDescriptor yX10_whoAre.desc).map (fun d => d.parameters.length) = some 2 := by decide +kernel
set_option maxRecDepth 100000 in
set_option maxHeartbeats 4000000 in
theorem c_X10_whoAre (l : Launch) (G : gG) (a : Nat → Nat) (i : Nat → Int32) (j : Nat → Int32) (t : Nat → Int32) (r : Nat → Int32) (n : Nat → Int32) (d : Nat → Int32) (ps : Nat → Int32) (im : Nat → Int32) (kp : Nat → Int32) (tx : Nat → Int32) (cd : Nat → Int32) (bk : Nat → Int32) (py : Nat → Int32) (pt : Nat → Int32) (mt : Nat → Int32) (nc : Nat) (np : Nat) (c : Nat) (k : Int32) (hT : tw t nc np) (hc : c < 4) : mR l yX10_whoAre wsX10_whoAre ({ frames := 2, cells := 0, slots := 0, locals := 45 }) G (mW G a i j t r n d ps im kp tx cd bk py pt mt) [.ref (a 0), .int (nI c), .int k] (whoU t n c k np) := by
  refine mR.of (cc := cX10_whoAre) (maxL := 5) (ret := (some .int)) (by decide) rfl (Nat.le_of_ble_eq_true rfl) ?_
  intro zp ze zs zm zb zt zc ls C hP hK hl
  obtain ⟨hx, hb, hr, hml, hown, hts, hlk⟩ := id C
  have hl : lv_has ls 5 [(0, .ref (a 0)), (1, .int (nI c)), (2, .int k)] := hl
  have hT2 := hT.2.2
  have k0 := hts (.fieldLink RX10 7 "DebtDowryModel" "town" "[I") (by decide +kernel)
  have k1 := (fun w h => by revert w; decide +kernel : ∀ w ∈ wsX100, w ∈ wsX10_whoAre)
  have k2 := hts (.fieldLink RX10 16 "DebtDowryModel" "now" "[I") (by decide +kernel)
  refine lv_iconst (v := 0) hx hb dX10_whoAre_0 (by decide) ?_
  refine lv_istore_n (lv' := [(3, .int 0), (0, .ref (a 0)), (1, .int (nI c)), (2, .int k)]) hx hb dX10_whoAre_1 rfl hl (by decide) rfl (fun ls hl => ?_)
  refine lv_iconst (v := 0) hx hb dX10_whoAre_2 (by decide) ?_
  refine lv_istore (lv' := [(4, .int 0), (3, .int 0), (0, .ref (a 0)), (1, .int (nI c)), (2, .int k)]) hx hb dX10_whoAre_3 hl (by decide) rfl (fun ls hl => ?_)
  refine wl_R (B := np) (i0 := 0) (Inv := fun i1 ls => lv_has ls 5 [(0, .ref (a 0)), (1, .int (nI c)), (2, .int k), (3, .int (whoU t n c k i1)), (4, .int (nI i1))] ∧ True) (by omega) ⟨lv_sub hl [2, 3, 4, 1, 0] (rfl), trivial⟩ ?_
  rintro i1 ls hle5 ⟨hl, -⟩ ih5
  refine lv_iload hx hb dX10_whoAre_5 (lv_at hl 4 rfl) ?_
  refine lv_aload_n hx hb dX10_whoAre_7 rfl (lv_at hl 0 rfl) ?_
  refine va_get (D := G.1) (ci := 10) (v := .ref (a 1)) (C := RX10) (T := TX10) (N := 25) hx hb hts k1 hown hK hP 0 rfl rfl 0 (by decide) k0 (fun _ h9 => h9) rfl dX10_whoAre_8 ?_
  refine lv_iconst (v := 4) hx hb dX10_whoAre_11 (by decide) ?_
  refine n_iald hx hb hK hP 1 0 rfl rfl (j := 4) rfl (by decide) (by decide) dX10_whoAre_12 ?_
  refine n_icmp_ge (tgt := 48) hx hb dX10_whoAre_13 (by decide) (u := i1) (v := np) rfl hT.2.1 (by omega) (by omega) (fun cq1 => ?_) (fun cq1 => ?_)
  · skip
    obtain rfl : np = i1 := by omega
    refine lv_iload_n hx hb dX10_whoAre_48 rfl (lv_at hl 3 rfl) ?_
    exact mR_iret C dX10_whoAre_49 (rfl)
  · skip
    refine lv_iload_n hx hb dX10_whoAre_16 rfl (lv_at hl 3 rfl) ?_
    refine lv_aload_n hx hb dX10_whoAre_17 rfl (lv_at hl 0 rfl) ?_
    refine lv_aload_n hx hb dX10_whoAre_18 rfl (lv_at hl 0 rfl) ?_
    refine va_get (D := G.1) (ci := 10) (v := .ref (a 3)) (C := RX10) (T := TX10) (N := 25) hx hb hts k1 hown hK hP 0 rfl rfl 2 (by decide) k2 (fun _ h9 => h9) rfl dX10_whoAre_19 ?_
    refine lv_iload hx hb dX10_whoAre_22 (lv_at hl 4 rfl) ?_
    refine lv_iload_n hx hb dX10_whoAre_24 rfl (lv_at hl 1 rfl) ?_
    refine cR_V (Cn := RX10) (n := 3) (As := [.ref (a 3), .int (nI i1), .int (nI c)]) (rest := [.int (whoU t n c k i1)]) C (c_X10_temperOf_n l G a i j t r n d ps im kp tx cd bk py pt mt  i1 c (by omega) (by omega)) gX10_whoAre_X10_temperOf rfl ⟨rfl, rfl⟩ hd_X10_temperOf ⟨(Nat.le_of_ble_eq_true rfl), (Nat.le_of_ble_eq_true rfl)⟩ hK hP (va_recv hK hP (ci := 10) (q0 := 0) rfl rfl) rfl hl.1 rfl (Nat.le_of_ble_eq_true rfl) dX10_whoAre_25 ⟨(Nat.le_of_ble_eq_true rfl), (Nat.le_of_ble_eq_true rfl)⟩ ?_
    refine lv_iload_n hx hb dX10_whoAre_28 rfl (lv_at hl 2 rfl) ?_
    refine lv_icmp_ne (tgt := 39) hx hb dX10_whoAre_29 (by decide) (fun cq2 => ?_) (fun cq2 => ?_)
    · skip
      refine lv_iconst (v := 0) hx hb dX10_whoAre_39 (by decide) ?_
      refine lv_ior hx hb dX10_whoAre_40 ?_
      refine lv_istore_n (lv' := [(3, .int ((whoU t n c k i1) ||| 0)), (0, .ref (a 0)), (1, .int (nI c)), (2, .int k), (4, .int (nI i1))]) hx hb dX10_whoAre_41 rfl hl (by decide) rfl (fun ls hl => ?_)
      refine lv_iinc (v := nI (i1 + 1)) (lv' := [(4, .int (nI (i1 + 1))), (3, .int ((whoU t n c k i1) ||| 0)), (0, .ref (a 0)), (1, .int (nI c)), (2, .int k)]) hx hb dX10_whoAre_42 hl (k := 4) rfl (by rw [show (nI i1 : Int32) = nI i1 from rfl]; exact nI_add _ 1) (by decide) rfl (fun ls hl => ?_)
      refine lv_goto (tgt := 5) hx hb dX10_whoAre_45 (by decide) ?_
      have e3 : (whoU t n c k i1) ||| 0 = whoU t n c k (i1 + 1) := by first | exact setU_t (by simp only [whoP]; simp [cq1, cq2]) | exact setU_f (by simp only [whoP]; simp [cq1, cq2])
      exact ih5 _ (by omega) ⟨lv_sub hl [2, 3, 4, 1, 0] (by rw [← e3]; rfl), trivial⟩
    · skip
      refine lv_iconst (v := 1) hx hb dX10_whoAre_32 (by decide) ?_
      refine lv_iload hx hb dX10_whoAre_33 (lv_at hl 4 rfl) ?_
      refine lv_ishl hx hb dX10_whoAre_35 ?_
      refine lv_goto (tgt := 40) hx hb dX10_whoAre_36 (by decide) ?_
      refine lv_ior hx hb dX10_whoAre_40 ?_
      refine lv_istore_n (lv' := [(3, .int ((whoU t n c k i1) ||| (1 <<< ((nI i1) &&& 31)))), (0, .ref (a 0)), (1, .int (nI c)), (2, .int k), (4, .int (nI i1))]) hx hb dX10_whoAre_41 rfl hl (by decide) rfl (fun ls hl => ?_)
      refine lv_iinc (v := nI (i1 + 1)) (lv' := [(4, .int (nI (i1 + 1))), (3, .int ((whoU t n c k i1) ||| (1 <<< ((nI i1) &&& 31)))), (0, .ref (a 0)), (1, .int (nI c)), (2, .int k)]) hx hb dX10_whoAre_42 hl (k := 4) rfl (by rw [show (nI i1 : Int32) = nI i1 from rfl]; exact nI_add _ 1) (by decide) rfl (fun ls hl => ?_)
      refine lv_goto (tgt := 5) hx hb dX10_whoAre_45 (by decide) ?_
      have e4 : (whoU t n c k i1) ||| (1 <<< ((nI i1) &&& 31)) = whoU t n c k (i1 + 1) := by first | exact setU_t (by simp only [whoP]; simp [cq1, cq2]) | exact setU_f (by simp only [whoP]; simp [cq1, cq2])
      exact ih5 _ (by omega) ⟨lv_sub hl [2, 3, 4, 1, 0] (by rw [← e4]; rfl), trivial⟩
theorem hd_X10_told : yX10_told.cls = RX10 ∧ yX10_told.cls ≠ "java/lang/invoke/MethodHandle" ∧ yX10_told.cls ≠ "java/lang/invoke/VarHandle" ∧ (parseMethodDescriptor yX10_told.desc).map (fun d => d.parameters.length) = some 1 := by decide +kernel
set_option maxRecDepth 100000 in
set_option maxHeartbeats 4000000 in
theorem c_X10_told (l : Launch) (G : gG) (a : Nat → Nat) (i : Nat → Int32) (j : Nat → Int32) (t : Nat → Int32) (r : Nat → Int32) (n : Nat → Int32) (d : Nat → Int32) (ps : Nat → Int32) (im : Nat → Int32) (kp : Nat → Int32) (tx : Nat → Int32) (cd : Nat → Int32) (bk : Nat → Int32) (py : Nat → Int32) (pt : Nat → Int32) (mt : Nat → Int32) (x : Int32) : mR l yX10_told wsX10_told ({ frames := 2, cells := 0, slots := 0, locals := 46 }) G (mW G a i j t r n d ps im kp tx cd bk py pt mt) [.ref (a 0), .int x] (toldR i t n x) := by
  refine mR.of (cc := cX10_told) (maxL := 2) (ret := (some .int)) (by decide) rfl (Nat.le_of_ble_eq_true rfl) ?_
  intro zp ze zs zm zb zt zc ls C hP hK hl
  obtain ⟨hx, hb, hr, hml, hown, hts, hlk⟩ := id C
  have hl : lv_has ls 2 [(0, .ref (a 0)), (1, .int x)] := hl
  have k0 := hts (.constant RX10 80 (-1000000002)) (by decide +kernel)
  have k1 := hts (.fieldLink RX10 7 "DebtDowryModel" "town" "[I") (by decide +kernel)
  have k2 := (fun w h => by revert w; decide +kernel : ∀ w ∈ wsX100, w ∈ wsX10_told)
  have k3 := hts (.fieldLink RX10 81 "DebtDowryModel" "size" "I") (by decide +kernel)
  have k4 := hts (.fieldLink RX10 16 "DebtDowryModel" "now" "[I") (by decide +kernel)
  have k5 := hts (.fieldLink RX10 72 "DebtDowryModel" "cardMany" "I") (by decide +kernel)
  have k6 := hts (.fieldLink RX10 75 "DebtDowryModel" "bookMany" "I") (by decide +kernel)
  have k7 := hts (.fieldLink RX10 69 "DebtDowryModel" "undos" "I") (by decide +kernel)
  refine lv_iload_n hx hb dX10_told_0 rfl (lv_at hl 1 rfl) ?_
  by_cases cq1 : x.toInt < 0 ∨ 13 < x.toInt
  · refine lv_tableOut (tgt := 133) hx hb dX10_told_1 cq1 (by decide) ?_
    refine lv_ldc hx hb hown k0 dX10_told_133 ?_
    exact mR_iret C dX10_told_135 (by unfold toldR; rw [if_neg (sw_out cq1 (k := 0) (by decide) (by decide)), if_neg (sw_out cq1 (k := 1) (by decide) (by decide)), if_neg (sw_out cq1 (k := 2) (by decide) (by decide)), if_neg (sw_out cq1 (k := 3) (by decide) (by decide)), if_neg (sw_out cq1 (k := 4) (by decide) (by decide)), if_neg (sw_out cq1 (k := 5) (by decide) (by decide)), if_neg (sw_out cq1 (k := 6) (by decide) (by decide)), if_neg (sw_out cq1 (k := 7) (by decide) (by decide)), if_neg (sw_out cq1 (k := 8) (by decide) (by decide)), if_neg (sw_out cq1 (k := 9) (by decide) (by decide)), if_neg (sw_out cq1 (k := 10) (by decide) (by decide)), if_neg (sw_out cq1 (k := 11) (by decide) (by decide)), if_neg (sw_out cq1 (k := 12) (by decide) (by decide)), if_neg (sw_out cq1 (k := 13) (by decide) (by decide))])
  · obtain ⟨j, hj1, hj2⟩ : ∃ j : Nat, j < 14 ∧ x.toInt = 0 + (j : Int) := ⟨(x.toInt - 0).toNat, by omega, by omega⟩
    rcases (show j = 0 ∨ j = 1 ∨ j = 2 ∨ j = 3 ∨ j = 4 ∨ j = 5 ∨ j = 6 ∨ j = 7 ∨ j = 8 ∨ j = 9 ∨ j = 10 ∨ j = 11 ∨ j = 12 ∨ j = 13 by omega) with rfl | rfl | rfl | rfl | rfl | rfl | rfl | rfl | rfl | rfl | rfl | rfl | rfl | rfl
    · have cq16 : x = 0 := by apply Int32.toInt_inj.mp; rw [hj2]; decide
      refine lv_tableIn (tgt := 72) hx hb dX10_told_1 (by omega) (by omega) (by rw [hj2]; rfl) (by decide) ?_
      refine lv_aload_n hx hb dX10_told_72 rfl (lv_at hl 0 rfl) ?_
      refine va_get (D := G.1) (ci := 10) (v := .ref (a 1)) (C := RX10) (T := TX10) (N := 25) hx hb hts k2 hown hK hP 0 rfl rfl 0 (by decide) k1 (fun _ h9 => h9) rfl dX10_told_73 ?_
      refine lv_iload_n hx hb dX10_told_76 rfl (lv_at hl 1 rfl) ?_
      refine n_iald hx hb hK hP 1 0 rfl rfl (j := 0) cq16 (by decide) (by decide) dX10_told_77 ?_
      exact mR_iret C dX10_told_78 (by rw [cq16]; rfl)
    · have cq17 : x = 1 := by apply Int32.toInt_inj.mp; rw [hj2]; decide
      refine lv_tableIn (tgt := 72) hx hb dX10_told_1 (by omega) (by omega) (by rw [hj2]; rfl) (by decide) ?_
      refine lv_aload_n hx hb dX10_told_72 rfl (lv_at hl 0 rfl) ?_
      refine va_get (D := G.1) (ci := 10) (v := .ref (a 1)) (C := RX10) (T := TX10) (N := 25) hx hb hts k2 hown hK hP 0 rfl rfl 0 (by decide) k1 (fun _ h9 => h9) rfl dX10_told_73 ?_
      refine lv_iload_n hx hb dX10_told_76 rfl (lv_at hl 1 rfl) ?_
      refine n_iald hx hb hK hP 1 0 rfl rfl (j := 1) cq17 (by decide) (by decide) dX10_told_77 ?_
      exact mR_iret C dX10_told_78 (by rw [cq17]; rfl)
    · have cq18 : x = 2 := by apply Int32.toInt_inj.mp; rw [hj2]; decide
      refine lv_tableIn (tgt := 72) hx hb dX10_told_1 (by omega) (by omega) (by rw [hj2]; rfl) (by decide) ?_
      refine lv_aload_n hx hb dX10_told_72 rfl (lv_at hl 0 rfl) ?_
      refine va_get (D := G.1) (ci := 10) (v := .ref (a 1)) (C := RX10) (T := TX10) (N := 25) hx hb hts k2 hown hK hP 0 rfl rfl 0 (by decide) k1 (fun _ h9 => h9) rfl dX10_told_73 ?_
      refine lv_iload_n hx hb dX10_told_76 rfl (lv_at hl 1 rfl) ?_
      refine n_iald hx hb hK hP 1 0 rfl rfl (j := 2) cq18 (by decide) (by decide) dX10_told_77 ?_
      exact mR_iret C dX10_told_78 (by rw [cq18]; rfl)
    · have cq19 : x = 3 := by apply Int32.toInt_inj.mp; rw [hj2]; decide
      refine lv_tableIn (tgt := 72) hx hb dX10_told_1 (by omega) (by omega) (by rw [hj2]; rfl) (by decide) ?_
      refine lv_aload_n hx hb dX10_told_72 rfl (lv_at hl 0 rfl) ?_
      refine va_get (D := G.1) (ci := 10) (v := .ref (a 1)) (C := RX10) (T := TX10) (N := 25) hx hb hts k2 hown hK hP 0 rfl rfl 0 (by decide) k1 (fun _ h9 => h9) rfl dX10_told_73 ?_
      refine lv_iload_n hx hb dX10_told_76 rfl (lv_at hl 1 rfl) ?_
      refine n_iald hx hb hK hP 1 0 rfl rfl (j := 3) cq19 (by decide) (by decide) dX10_told_77 ?_
      exact mR_iret C dX10_told_78 (by rw [cq19]; rfl)
    · have cq20 : x = 4 := by apply Int32.toInt_inj.mp; rw [hj2]; decide
      refine lv_tableIn (tgt := 72) hx hb dX10_told_1 (by omega) (by omega) (by rw [hj2]; rfl) (by decide) ?_
      refine lv_aload_n hx hb dX10_told_72 rfl (lv_at hl 0 rfl) ?_
      refine va_get (D := G.1) (ci := 10) (v := .ref (a 1)) (C := RX10) (T := TX10) (N := 25) hx hb hts k2 hown hK hP 0 rfl rfl 0 (by decide) k1 (fun _ h9 => h9) rfl dX10_told_73 ?_
      refine lv_iload_n hx hb dX10_told_76 rfl (lv_at hl 1 rfl) ?_
      refine n_iald hx hb hK hP 1 0 rfl rfl (j := 4) cq20 (by decide) (by decide) dX10_told_77 ?_
      exact mR_iret C dX10_told_78 (by rw [cq20]; rfl)
    · have cq21 : x = 5 := by apply Int32.toInt_inj.mp; rw [hj2]; decide
      refine lv_tableIn (tgt := 79) hx hb dX10_told_1 (by omega) (by omega) (by rw [hj2]; rfl) (by decide) ?_
      refine lv_aload_n hx hb dX10_told_79 rfl (lv_at hl 0 rfl) ?_
      refine va_get (D := G.1) (ci := 10) (v := .int (i 10)) (C := RX10) (T := TX10) (N := 25) hx hb hts k2 hown hK hP 0 rfl rfl 10 (by decide) k3 (fun _ h9 => h9) rfl dX10_told_80 ?_
      exact mR_iret C dX10_told_83 (by rw [cq21]; rfl)
    · have cq22 : x = 6 := by apply Int32.toInt_inj.mp; rw [hj2]; decide
      refine lv_tableIn (tgt := 84) hx hb dX10_told_1 (by omega) (by omega) (by rw [hj2]; rfl) (by decide) ?_
      refine lv_aload_n hx hb dX10_told_84 rfl (lv_at hl 0 rfl) ?_
      refine va_get (D := G.1) (ci := 10) (v := .ref (a 3)) (C := RX10) (T := TX10) (N := 25) hx hb hts k2 hown hK hP 0 rfl rfl 2 (by decide) k4 (fun _ h9 => h9) rfl dX10_told_85 ?_
      refine lv_bipush (v := 53) hx hb dX10_told_88 (by decide) ?_
      refine n_iald hx hb hK hP 3 0 rfl rfl (j := 53) rfl (by decide) (by decide) dX10_told_90 ?_
      exact mR_iret C dX10_told_91 (by rw [cq22]; rfl)
    · have cq23 : x = 7 := by apply Int32.toInt_inj.mp; rw [hj2]; decide
      refine lv_tableIn (tgt := 92) hx hb dX10_told_1 (by omega) (by omega) (by rw [hj2]; rfl) (by decide) ?_
      refine lv_aload_n hx hb dX10_told_92 rfl (lv_at hl 0 rfl) ?_
      refine va_get (D := G.1) (ci := 10) (v := .ref (a 1)) (C := RX10) (T := TX10) (N := 25) hx hb hts k2 hown hK hP 0 rfl rfl 0 (by decide) k1 (fun _ h9 => h9) rfl dX10_told_93 ?_
      refine lv_bipush (v := 21) hx hb dX10_told_96 (by decide) ?_
      refine n_iald hx hb hK hP 1 0 rfl rfl (j := 21) rfl (by decide) (by decide) dX10_told_98 ?_
      exact mR_iret C dX10_told_99 (by rw [cq23]; rfl)
    · have cq24 : x = 8 := by apply Int32.toInt_inj.mp; rw [hj2]; decide
      refine lv_tableIn (tgt := 100) hx hb dX10_told_1 (by omega) (by omega) (by rw [hj2]; rfl) (by decide) ?_
      refine lv_aload_n hx hb dX10_told_100 rfl (lv_at hl 0 rfl) ?_
      refine cR_V (Cn := RX10) (n := 0) (As := []) (rest := []) C (c_X10_wedOnes l G a i j t r n d ps im kp tx cd bk py pt mt   ) gX10_told_X10_wedOnes rfl ⟨rfl, rfl⟩ hd_X10_wedOnes ⟨(Nat.le_of_ble_eq_true rfl), (Nat.le_of_ble_eq_true rfl)⟩ hK hP (va_recv hK hP (ci := 10) (q0 := 0) rfl rfl) rfl hl.1 rfl (Nat.le_of_ble_eq_true rfl) dX10_told_101 ⟨(Nat.le_of_ble_eq_true rfl), (Nat.le_of_ble_eq_true rfl)⟩ ?_
      exact mR_iret C dX10_told_104 (by rw [cq24]; rfl)
    · have cq25 : x = 9 := by apply Int32.toInt_inj.mp; rw [hj2]; decide
      refine lv_tableIn (tgt := 105) hx hb dX10_told_1 (by omega) (by omega) (by rw [hj2]; rfl) (by decide) ?_
      refine lv_aload_n hx hb dX10_told_105 rfl (lv_at hl 0 rfl) ?_
      refine va_get (D := G.1) (ci := 10) (v := .ref (a 3)) (C := RX10) (T := TX10) (N := 25) hx hb hts k2 hown hK hP 0 rfl rfl 2 (by decide) k4 (fun _ h9 => h9) rfl dX10_told_106 ?_
      refine lv_bipush (v := 52) hx hb dX10_told_109 (by decide) ?_
      refine n_iald hx hb hK hP 3 0 rfl rfl (j := 52) rfl (by decide) (by decide) dX10_told_111 ?_
      exact mR_iret C dX10_told_112 (by rw [cq25]; rfl)
    · have cq26 : x = 10 := by apply Int32.toInt_inj.mp; rw [hj2]; decide
      refine lv_tableIn (tgt := 113) hx hb dX10_told_1 (by omega) (by omega) (by rw [hj2]; rfl) (by decide) ?_
      refine lv_aload_n hx hb dX10_told_113 rfl (lv_at hl 0 rfl) ?_
      refine cR_V (Cn := RX10) (n := 0) (As := []) (rest := []) C (c_X10_owedInAll l G a i j t r n d ps im kp tx cd bk py pt mt   ) gX10_told_X10_owedInAll rfl ⟨rfl, rfl⟩ hd_X10_owedInAll ⟨(Nat.le_of_ble_eq_true rfl), (Nat.le_of_ble_eq_true rfl)⟩ hK hP (va_recv hK hP (ci := 10) (q0 := 0) rfl rfl) rfl hl.1 rfl (Nat.le_of_ble_eq_true rfl) dX10_told_114 ⟨(Nat.le_of_ble_eq_true rfl), (Nat.le_of_ble_eq_true rfl)⟩ ?_
      exact mR_iret C dX10_told_117 (by rw [cq26]; rfl)
    · have cq27 : x = 11 := by apply Int32.toInt_inj.mp; rw [hj2]; decide
      refine lv_tableIn (tgt := 118) hx hb dX10_told_1 (by omega) (by omega) (by rw [hj2]; rfl) (by decide) ?_
      refine lv_aload_n hx hb dX10_told_118 rfl (lv_at hl 0 rfl) ?_
      refine va_get (D := G.1) (ci := 10) (v := .int (i 13)) (C := RX10) (T := TX10) (N := 25) hx hb hts k2 hown hK hP 0 rfl rfl 13 (by decide) k5 (fun _ h9 => h9) rfl dX10_told_119 ?_
      exact mR_iret C dX10_told_122 (by rw [cq27]; rfl)
    · have cq28 : x = 12 := by apply Int32.toInt_inj.mp; rw [hj2]; decide
      refine lv_tableIn (tgt := 123) hx hb dX10_told_1 (by omega) (by omega) (by rw [hj2]; rfl) (by decide) ?_
      refine lv_aload_n hx hb dX10_told_123 rfl (lv_at hl 0 rfl) ?_
      refine va_get (D := G.1) (ci := 10) (v := .int (i 15)) (C := RX10) (T := TX10) (N := 25) hx hb hts k2 hown hK hP 0 rfl rfl 15 (by decide) k6 (fun _ h9 => h9) rfl dX10_told_124 ?_
      exact mR_iret C dX10_told_127 (by rw [cq28]; rfl)
    · have cq29 : x = 13 := by apply Int32.toInt_inj.mp; rw [hj2]; decide
      refine lv_tableIn (tgt := 128) hx hb dX10_told_1 (by omega) (by omega) (by rw [hj2]; rfl) (by decide) ?_
      refine lv_aload_n hx hb dX10_told_128 rfl (lv_at hl 0 rfl) ?_
      refine va_get (D := G.1) (ci := 10) (v := .int (i 5)) (C := RX10) (T := TX10) (N := 25) hx hb hts k2 hown hK hP 0 rfl rfl 5 (by decide) k7 (fun _ h9 => h9) rfl dX10_told_129 ?_
      exact mR_iret C dX10_told_132 (by rw [cq29]; rfl)
theorem hd_X10_creditor : yX10_creditor.cls = RX10 ∧ yX10_creditor.cls ≠ "java/lang/invoke/MethodHandle" ∧ yX10_creditor.cls ≠ "java/lang/invoke/VarHandle" ∧ (parseMethodDescriptor yX10_creditor.desc).map (fun d => d.parameters.length) = some 2 := by decide +kernel
set_option maxRecDepth 100000 in
set_option maxHeartbeats 4000000 in
theorem c_X10_creditor (l : Launch) (G : gG) (a : Nat → Nat) (i : Nat → Int32) (j : Nat → Int32) (t : Nat → Int32) (r : Nat → Int32) (n : Nat → Int32) (d : Nat → Int32) (ps : Nat → Int32) (im : Nat → Int32) (kp : Nat → Int32) (tx : Nat → Int32) (cd : Nat → Int32) (bk : Nat → Int32) (py : Nat → Int32) (pt : Nat → Int32) (mt : Nat → Int32) (nc : Nat) (np : Nat) (c : Int32) (x : Int32) (hT : tw t nc np) : mR l yX10_creditor wsX10_creditor ({ frames := 3, cells := 0, slots := 0, locals := 69 }) G (mW G a i j t r n d ps im kp tx cd bk py pt mt) [.ref (a 0), .int c, .int x] (crR t n np c x) := by
  refine mR.of (cc := cX10_creditor) (maxL := 3) (ret := (some .int)) (by decide) rfl (Nat.le_of_ble_eq_true rfl) ?_
  intro zp ze zs zm zb zt zc ls C hP hK hl
  obtain ⟨hx, hb, hr, hml, hown, hts, hlk⟩ := id C
  have hl : lv_has ls 3 [(0, .ref (a 0)), (1, .int c), (2, .int x)] := hl
  have hT2 := hT.2.2
  have k0 := hts (.constant RX10 80 (-1000000002)) (by decide +kernel)
  have k1 := hts (.fieldLink RX10 16 "DebtDowryModel" "now" "[I") (by decide +kernel)
  have k2 := (fun w h => by revert w; decide +kernel : ∀ w ∈ wsX100, w ∈ wsX10_creditor)
  have k3 := hts (.fieldLink RX10 7 "DebtDowryModel" "town" "[I") (by decide +kernel)
  have k4 := hts (.constant RX10 175 (-1000000001)) (by decide +kernel)
  refine lv_aload_n hx hb dX10_creditor_0 rfl (lv_at hl 0 rfl) ?_
  refine lv_iload_n hx hb dX10_creditor_1 rfl (lv_at hl 1 rfl) ?_
  refine cR_V (Cn := RX10) (n := 1) (As := [.int c]) (rest := []) C (c_X10_isCreditor l G a i j t r n d ps im kp tx cd bk py pt mt  c ) gX10_creditor_X10_isCreditor rfl ⟨rfl, rfl⟩ hd_X10_isCreditor ⟨(Nat.le_of_ble_eq_true rfl), (Nat.le_of_ble_eq_true rfl)⟩ hK hP (va_recv hK hP (ci := 10) (q0 := 0) rfl rfl) rfl hl.1 rfl (Nat.le_of_ble_eq_true rfl) dX10_creditor_2 ⟨(Nat.le_of_ble_eq_true rfl), (Nat.le_of_ble_eq_true rfl)⟩ ?_
  refine b_if_ne (tgt := 11) hx hb dX10_creditor_5 (by decide) (fun cq1 => ?_) (fun cq1 => ?_)
  · skip
    obtain ⟨cc, hcc, rfl⟩ := inB_nat hT.1 (by omega) cq1
    have hcl_cc := cl_nI (n := cc) (by omega)
    refine lv_iload_n hx hb dX10_creditor_11 rfl (lv_at hl 2 rfl) ?_
    by_cases cq2 : x.toInt < 0 ∨ 5 < x.toInt
    · refine lv_tableOut (tgt := 92) hx hb dX10_creditor_12 cq2 (by decide) ?_
      refine lv_ldc hx hb hown k0 dX10_creditor_92 ?_
      exact mR_iret C dX10_creditor_94 (by unfold crR; rw [if_neg (not_not_intro cq1), if_neg (sw_out cq2 (k := 0) (by decide) (by decide)), if_neg (sw_out cq2 (k := 1) (by decide) (by decide)), if_neg (sw_out cq2 (k := 2) (by decide) (by decide)), if_neg (sw_out cq2 (k := 3) (by decide) (by decide)), if_neg (sw_out cq2 (k := 4) (by decide) (by decide)), if_neg (sw_out cq2 (k := 5) (by decide) (by decide))])
    · obtain ⟨j, hj1, hj2⟩ : ∃ j : Nat, j < 6 ∧ x.toInt = 0 + (j : Int) := ⟨(x.toInt - 0).toNat, by omega, by omega⟩
      rcases (show j = 0 ∨ j = 1 ∨ j = 2 ∨ j = 3 ∨ j = 4 ∨ j = 5 by omega) with rfl | rfl | rfl | rfl | rfl | rfl
      · have cq9 : x = 0 := by apply Int32.toInt_inj.mp; rw [hj2]; decide
        refine lv_tableIn (tgt := 52) hx hb dX10_creditor_12 (by omega) (by omega) (by rw [hj2]; rfl) (by decide) ?_
        refine lv_aload_n hx hb dX10_creditor_52 rfl (lv_at hl 0 rfl) ?_
        refine va_get (D := G.1) (ci := 10) (v := .ref (a 3)) (C := RX10) (T := TX10) (N := 25) hx hb hts k2 hown hK hP 0 rfl rfl 2 (by decide) k1 (fun _ h9 => h9) rfl dX10_creditor_53 ?_
        refine lv_bipush (v := 32) hx hb dX10_creditor_56 (by decide) ?_
        refine lv_iload_n hx hb dX10_creditor_58 rfl (lv_at hl 1 rfl) ?_
        refine n_iadd hx hb dX10_creditor_59 (u := 32) (v := cc) rfl rfl (j := 32 + cc) (by omega) ?_
        refine n_iald hx hb hK hP 3 0 rfl rfl (j := 32 + cc) rfl (by omega) (by decide) dX10_creditor_60 ?_
        exact mR_iret C dX10_creditor_61 (by rw [cq9]; unfold crR; rw [if_neg (not_not_intro cq1)]; simp [hcl_cc])
      · have cq10 : x = 1 := by apply Int32.toInt_inj.mp; rw [hj2]; decide
        refine lv_tableIn (tgt := 62) hx hb dX10_creditor_12 (by omega) (by omega) (by rw [hj2]; rfl) (by decide) ?_
        refine lv_aload_n hx hb dX10_creditor_62 rfl (lv_at hl 0 rfl) ?_
        refine va_get (D := G.1) (ci := 10) (v := .ref (a 1)) (C := RX10) (T := TX10) (N := 25) hx hb hts k2 hown hK hP 0 rfl rfl 0 (by decide) k3 (fun _ h9 => h9) rfl dX10_creditor_63 ?_
        refine lv_bipush (v := 9) hx hb dX10_creditor_66 (by decide) ?_
        refine lv_iconst (v := 4) hx hb dX10_creditor_68 (by decide) ?_
        refine lv_iload_n hx hb dX10_creditor_69 rfl (lv_at hl 2 rfl) ?_
        refine lv_iconst (v := 1) hx hb dX10_creditor_70 (by decide) ?_
        refine n_isub hx hb dX10_creditor_71 (u := 1) (v := 1) cq10 rfl (by omega) (j := 0) (by omega) ?_
        refine n_imul hx hb dX10_creditor_72 (u := 4) (v := 0) rfl rfl (j := 0) (by omega) ?_
        refine n_iadd hx hb dX10_creditor_73 (u := 9) (v := 0) rfl rfl (j := 9) (by omega) ?_
        refine lv_iload_n hx hb dX10_creditor_74 rfl (lv_at hl 1 rfl) ?_
        refine n_iadd hx hb dX10_creditor_75 (u := 9) (v := cc) rfl rfl (j := 9 + cc) (by omega) ?_
        refine n_iald hx hb hK hP 1 0 rfl rfl (j := 9 + cc) rfl (by omega) (by decide) dX10_creditor_76 ?_
        exact mR_iret C dX10_creditor_77 (by rw [cq10]; unfold crR; rw [if_neg (not_not_intro cq1)]; simp [hcl_cc])
      · have cq11 : x = 2 := by apply Int32.toInt_inj.mp; rw [hj2]; decide
        refine lv_tableIn (tgt := 62) hx hb dX10_creditor_12 (by omega) (by omega) (by rw [hj2]; rfl) (by decide) ?_
        refine lv_aload_n hx hb dX10_creditor_62 rfl (lv_at hl 0 rfl) ?_
        refine va_get (D := G.1) (ci := 10) (v := .ref (a 1)) (C := RX10) (T := TX10) (N := 25) hx hb hts k2 hown hK hP 0 rfl rfl 0 (by decide) k3 (fun _ h9 => h9) rfl dX10_creditor_63 ?_
        refine lv_bipush (v := 9) hx hb dX10_creditor_66 (by decide) ?_
        refine lv_iconst (v := 4) hx hb dX10_creditor_68 (by decide) ?_
        refine lv_iload_n hx hb dX10_creditor_69 rfl (lv_at hl 2 rfl) ?_
        refine lv_iconst (v := 1) hx hb dX10_creditor_70 (by decide) ?_
        refine n_isub hx hb dX10_creditor_71 (u := 2) (v := 1) cq11 rfl (by omega) (j := 1) (by omega) ?_
        refine n_imul hx hb dX10_creditor_72 (u := 4) (v := 1) rfl rfl (j := 4) (by omega) ?_
        refine n_iadd hx hb dX10_creditor_73 (u := 9) (v := 4) rfl rfl (j := 13) (by omega) ?_
        refine lv_iload_n hx hb dX10_creditor_74 rfl (lv_at hl 1 rfl) ?_
        refine n_iadd hx hb dX10_creditor_75 (u := 13) (v := cc) rfl rfl (j := 13 + cc) (by omega) ?_
        refine n_iald hx hb hK hP 1 0 rfl rfl (j := 13 + cc) rfl (by omega) (by decide) dX10_creditor_76 ?_
        exact mR_iret C dX10_creditor_77 (by rw [cq11]; unfold crR; rw [if_neg (not_not_intro cq1)]; simp [hcl_cc])
      · have cq12 : x = 3 := by apply Int32.toInt_inj.mp; rw [hj2]; decide
        refine lv_tableIn (tgt := 62) hx hb dX10_creditor_12 (by omega) (by omega) (by rw [hj2]; rfl) (by decide) ?_
        refine lv_aload_n hx hb dX10_creditor_62 rfl (lv_at hl 0 rfl) ?_
        refine va_get (D := G.1) (ci := 10) (v := .ref (a 1)) (C := RX10) (T := TX10) (N := 25) hx hb hts k2 hown hK hP 0 rfl rfl 0 (by decide) k3 (fun _ h9 => h9) rfl dX10_creditor_63 ?_
        refine lv_bipush (v := 9) hx hb dX10_creditor_66 (by decide) ?_
        refine lv_iconst (v := 4) hx hb dX10_creditor_68 (by decide) ?_
        refine lv_iload_n hx hb dX10_creditor_69 rfl (lv_at hl 2 rfl) ?_
        refine lv_iconst (v := 1) hx hb dX10_creditor_70 (by decide) ?_
        refine n_isub hx hb dX10_creditor_71 (u := 3) (v := 1) cq12 rfl (by omega) (j := 2) (by omega) ?_
        refine n_imul hx hb dX10_creditor_72 (u := 4) (v := 2) rfl rfl (j := 8) (by omega) ?_
        refine n_iadd hx hb dX10_creditor_73 (u := 9) (v := 8) rfl rfl (j := 17) (by omega) ?_
        refine lv_iload_n hx hb dX10_creditor_74 rfl (lv_at hl 1 rfl) ?_
        refine n_iadd hx hb dX10_creditor_75 (u := 17) (v := cc) rfl rfl (j := 17 + cc) (by omega) ?_
        refine n_iald hx hb hK hP 1 0 rfl rfl (j := 17 + cc) rfl (by omega) (by decide) dX10_creditor_76 ?_
        exact mR_iret C dX10_creditor_77 (by rw [cq12]; unfold crR; rw [if_neg (not_not_intro cq1)]; simp [hcl_cc])
      · have cq13 : x = 4 := by apply Int32.toInt_inj.mp; rw [hj2]; decide
        refine lv_tableIn (tgt := 78) hx hb dX10_creditor_12 (by omega) (by omega) (by rw [hj2]; rfl) (by decide) ?_
        refine lv_aload_n hx hb dX10_creditor_78 rfl (lv_at hl 0 rfl) ?_
        refine lv_iload_n hx hb dX10_creditor_79 rfl (lv_at hl 1 rfl) ?_
        refine lv_iconst (v := 1) hx hb dX10_creditor_80 (by decide) ?_
        refine cR_V (Cn := RX10) (n := 2) (As := [.int (nI cc), .int 1]) (rest := []) C (c_X10_whoAre l G a i j t r n d ps im kp tx cd bk py pt mt nc np cc 1 hT (by omega)) gX10_creditor_X10_whoAre rfl ⟨rfl, rfl⟩ hd_X10_whoAre ⟨(Nat.le_of_ble_eq_true rfl), (Nat.le_of_ble_eq_true rfl)⟩ hK hP (va_recv hK hP (ci := 10) (q0 := 0) rfl rfl) rfl hl.1 rfl (Nat.le_of_ble_eq_true rfl) dX10_creditor_81 ⟨(Nat.le_of_ble_eq_true rfl), (Nat.le_of_ble_eq_true rfl)⟩ ?_
        exact mR_iret C dX10_creditor_84 (by rw [cq13]; unfold crR; rw [if_neg (not_not_intro cq1)]; simp [hcl_cc])
      · have cq14 : x = 5 := by apply Int32.toInt_inj.mp; rw [hj2]; decide
        refine lv_tableIn (tgt := 85) hx hb dX10_creditor_12 (by omega) (by omega) (by rw [hj2]; rfl) (by decide) ?_
        refine lv_aload_n hx hb dX10_creditor_85 rfl (lv_at hl 0 rfl) ?_
        refine lv_iload_n hx hb dX10_creditor_86 rfl (lv_at hl 1 rfl) ?_
        refine lv_iconst (v := 2) hx hb dX10_creditor_87 (by decide) ?_
        refine cR_V (Cn := RX10) (n := 2) (As := [.int (nI cc), .int 2]) (rest := []) C (c_X10_whoAre l G a i j t r n d ps im kp tx cd bk py pt mt nc np cc 2 hT (by omega)) gX10_creditor_X10_whoAre rfl ⟨rfl, rfl⟩ hd_X10_whoAre ⟨(Nat.le_of_ble_eq_true rfl), (Nat.le_of_ble_eq_true rfl)⟩ hK hP (va_recv hK hP (ci := 10) (q0 := 0) rfl rfl) rfl hl.1 rfl (Nat.le_of_ble_eq_true rfl) dX10_creditor_88 ⟨(Nat.le_of_ble_eq_true rfl), (Nat.le_of_ble_eq_true rfl)⟩ ?_
        exact mR_iret C dX10_creditor_91 (by rw [cq14]; unfold crR; rw [if_neg (not_not_intro cq1)]; simp [hcl_cc])
  · skip
    refine lv_ldc hx hb hown k4 dX10_creditor_8 ?_
    exact mR_iret C dX10_creditor_10 (by simp only [crR]; rw [if_pos cq1])
theorem hd_X10_person : yX10_person.cls = RX10 ∧ yX10_person.cls ≠ "java/lang/invoke/MethodHandle" ∧ yX10_person.cls ≠ "java/lang/invoke/VarHandle" ∧ (parseMethodDescriptor yX10_person.desc).map (fun d => d.parameters.length) = some 2 := by decide +kernel
set_option maxRecDepth 100000 in
set_option maxHeartbeats 4000000 in
theorem c_X10_person (l : Launch) (G : gG) (a : Nat → Nat) (i : Nat → Int32) (j : Nat → Int32) (t : Nat → Int32) (r : Nat → Int32) (n : Nat → Int32) (d : Nat → Int32) (ps : Nat → Int32) (im : Nat → Int32) (kp : Nat → Int32) (tx : Nat → Int32) (cd : Nat → Int32) (bk : Nat → Int32) (py : Nat → Int32) (pt : Nat → Int32) (mt : Nat → Int32) (nc : Nat) (np : Nat) (p : Int32) (x : Int32) (hT : tw t nc np) : mR l yX10_person wsX10_person ({ frames := 3, cells := 0, slots := 0, locals := 70 }) G (mW G a i j t r n d ps im kp tx cd bk py pt mt) [.ref (a 0), .int p, .int x] (peR t n nc p x) := by
  refine mR.of (cc := cX10_person) (maxL := 3) (ret := (some .int)) (by decide) rfl (Nat.le_of_ble_eq_true rfl) ?_
  intro zp ze zs zm zb zt zc ls C hP hK hl
  obtain ⟨hx, hb, hr, hml, hown, hts, hlk⟩ := id C
  have hl : lv_has ls 3 [(0, .ref (a 0)), (1, .int p), (2, .int x)] := hl
  have hT2 := hT.2.2
  have k0 := hts (.constant RX10 80 (-1000000002)) (by decide +kernel)
  have k1 := hts (.fieldLink RX10 7 "DebtDowryModel" "town" "[I") (by decide +kernel)
  have k2 := (fun w h => by revert w; decide +kernel : ∀ w ∈ wsX100, w ∈ wsX10_person)
  have k3 := hts (.fieldLink RX10 16 "DebtDowryModel" "now" "[I") (by decide +kernel)
  have k4 := hts (.constant RX10 175 (-1000000001)) (by decide +kernel)
  refine lv_aload_n hx hb dX10_person_0 rfl (lv_at hl 0 rfl) ?_
  refine lv_iload_n hx hb dX10_person_1 rfl (lv_at hl 1 rfl) ?_
  refine cR_V (Cn := RX10) (n := 1) (As := [.int p]) (rest := []) C (c_X10_isPerson l G a i j t r n d ps im kp tx cd bk py pt mt  p ) gX10_person_X10_isPerson rfl ⟨rfl, rfl⟩ hd_X10_isPerson ⟨(Nat.le_of_ble_eq_true rfl), (Nat.le_of_ble_eq_true rfl)⟩ hK hP (va_recv hK hP (ci := 10) (q0 := 0) rfl rfl) rfl hl.1 rfl (Nat.le_of_ble_eq_true rfl) dX10_person_2 ⟨(Nat.le_of_ble_eq_true rfl), (Nat.le_of_ble_eq_true rfl)⟩ ?_
  refine b_if_ne (tgt := 11) hx hb dX10_person_5 (by decide) (fun cq1 => ?_) (fun cq1 => ?_)
  · skip
    obtain ⟨pp, hpp, rfl⟩ := inB_nat hT.2.1 (by omega) cq1
    have hcl_pp := cl_nI (n := pp) (by omega)
    refine lv_iload_n hx hb dX10_person_11 rfl (lv_at hl 2 rfl) ?_
    by_cases cq2 : x.toInt < 0 ∨ 4 < x.toInt
    · refine lv_tableOut (tgt := 108) hx hb dX10_person_12 cq2 (by decide) ?_
      refine lv_ldc hx hb hown k0 dX10_person_108 ?_
      exact mR_iret C dX10_person_110 (by unfold peR; rw [if_neg (not_not_intro cq1), if_neg (sw_out cq2 (k := 0) (by decide) (by decide)), if_neg (sw_out cq2 (k := 1) (by decide) (by decide)), if_neg (sw_out cq2 (k := 2) (by decide) (by decide)), if_neg (sw_out cq2 (k := 3) (by decide) (by decide)), if_neg (sw_out cq2 (k := 4) (by decide) (by decide))])
    · obtain ⟨j, hj1, hj2⟩ : ∃ j : Nat, j < 5 ∧ x.toInt = 0 + (j : Int) := ⟨(x.toInt - 0).toNat, by omega, by omega⟩
      rcases (show j = 0 ∨ j = 1 ∨ j = 2 ∨ j = 3 ∨ j = 4 by omega) with rfl | rfl | rfl | rfl | rfl
      · have cq8 : x = 0 := by apply Int32.toInt_inj.mp; rw [hj2]; decide
        refine lv_tableIn (tgt := 48) hx hb dX10_person_12 (by omega) (by omega) (by rw [hj2]; rfl) (by decide) ?_
        refine lv_aload_n hx hb dX10_person_48 rfl (lv_at hl 0 rfl) ?_
        refine va_get (D := G.1) (ci := 10) (v := .ref (a 1)) (C := RX10) (T := TX10) (N := 25) hx hb hts k2 hown hK hP 0 rfl rfl 0 (by decide) k1 (fun _ h9 => h9) rfl dX10_person_49 ?_
        refine lv_bipush (v := 21) hx hb dX10_person_52 (by decide) ?_
        refine n_iald hx hb hK hP 1 0 rfl rfl (j := 21) rfl (by decide) (by decide) dX10_person_54 ?_
        refine lv_iload_n hx hb dX10_person_55 rfl (lv_at hl 1 rfl) ?_
        refine cR_S (n := 2) (As := [.int (t 21), .int (nI pp)]) (rest := []) C (c_X10_has l G    (t 21) pp ) gX10_person_X10_has rfl ⟨rfl, rfl⟩ hd_X10_has ⟨(Nat.le_of_ble_eq_true rfl), (Nat.le_of_ble_eq_true rfl)⟩ hK (hP.sub [] rfl) rfl hl.1 rfl (Nat.le_of_ble_eq_true rfl) dX10_person_56 ⟨(Nat.le_of_ble_eq_true rfl), (Nat.le_of_ble_eq_true rfl)⟩ ?_
        refine b_if_eq (tgt := 66) hx hb dX10_person_59 (by decide) (fun cq9 => ?_) (fun cq9 => ?_)
        · skip
          refine lv_iconst (v := 0) hx hb dX10_person_66 (by decide) ?_
          exact mR_iret C dX10_person_67 (by rw [cq8]; unfold peR; rw [if_neg (not_not_intro cq1)]; simp [hcl_pp, bI, cq9])
        · skip
          refine lv_iconst (v := 1) hx hb dX10_person_62 (by decide) ?_
          refine lv_goto (tgt := 67) hx hb dX10_person_63 (by decide) ?_
          exact mR_iret C dX10_person_67 (by rw [cq8]; unfold peR; rw [if_neg (not_not_intro cq1)]; simp [hcl_pp, bI, cq9])
      · have cq10 : x = 1 := by apply Int32.toInt_inj.mp; rw [hj2]; decide
        refine lv_tableIn (tgt := 68) hx hb dX10_person_12 (by omega) (by omega) (by rw [hj2]; rfl) (by decide) ?_
        refine lv_aload_n hx hb dX10_person_68 rfl (lv_at hl 0 rfl) ?_
        refine va_get (D := G.1) (ci := 10) (v := .ref (a 3)) (C := RX10) (T := TX10) (N := 25) hx hb hts k2 hown hK hP 0 rfl rfl 2 (by decide) k3 (fun _ h9 => h9) rfl dX10_person_69 ?_
        refine lv_bipush (v := 44) hx hb dX10_person_72 (by decide) ?_
        refine lv_iload_n hx hb dX10_person_74 rfl (lv_at hl 1 rfl) ?_
        refine n_iadd hx hb dX10_person_75 (u := 44) (v := pp) rfl rfl (j := 44 + pp) (by omega) ?_
        refine n_iald hx hb hK hP 3 0 rfl rfl (j := 44 + pp) rfl (by omega) (by decide) dX10_person_76 ?_
        exact mR_iret C dX10_person_77 (by rw [cq10]; unfold peR; rw [if_neg (not_not_intro cq1)]; simp [hcl_pp])
      · have cq11 : x = 2 := by apply Int32.toInt_inj.mp; rw [hj2]; decide
        refine lv_tableIn (tgt := 78) hx hb dX10_person_12 (by omega) (by omega) (by rw [hj2]; rfl) (by decide) ?_
        refine lv_aload_n hx hb dX10_person_78 rfl (lv_at hl 0 rfl) ?_
        refine lv_aload_n hx hb dX10_person_79 rfl (lv_at hl 0 rfl) ?_
        refine va_get (D := G.1) (ci := 10) (v := .ref (a 3)) (C := RX10) (T := TX10) (N := 25) hx hb hts k2 hown hK hP 0 rfl rfl 2 (by decide) k3 (fun _ h9 => h9) rfl dX10_person_80 ?_
        refine lv_iload_n hx hb dX10_person_83 rfl (lv_at hl 1 rfl) ?_
        refine cR_V (Cn := RX10) (n := 2) (As := [.ref (a 3), .int (nI pp)]) (rest := []) C (c_X10_sumOf_n l G a i j t r n d ps im kp tx cd bk py pt mt  pp (by omega)) gX10_person_X10_sumOf rfl ⟨rfl, rfl⟩ hd_X10_sumOf ⟨(Nat.le_of_ble_eq_true rfl), (Nat.le_of_ble_eq_true rfl)⟩ hK hP (va_recv hK hP (ci := 10) (q0 := 0) rfl rfl) rfl hl.1 rfl (Nat.le_of_ble_eq_true rfl) dX10_person_84 ⟨(Nat.le_of_ble_eq_true rfl), (Nat.le_of_ble_eq_true rfl)⟩ ?_
        exact mR_iret C dX10_person_87 (by rw [cq11]; unfold peR; rw [if_neg (not_not_intro cq1)]; simp [hcl_pp])
      · have cq12 : x = 3 := by apply Int32.toInt_inj.mp; rw [hj2]; decide
        refine lv_tableIn (tgt := 88) hx hb dX10_person_12 (by omega) (by omega) (by rw [hj2]; rfl) (by decide) ?_
        refine lv_aload_n hx hb dX10_person_88 rfl (lv_at hl 0 rfl) ?_
        refine lv_aload_n hx hb dX10_person_89 rfl (lv_at hl 0 rfl) ?_
        refine va_get (D := G.1) (ci := 10) (v := .ref (a 3)) (C := RX10) (T := TX10) (N := 25) hx hb hts k2 hown hK hP 0 rfl rfl 2 (by decide) k3 (fun _ h9 => h9) rfl dX10_person_90 ?_
        refine lv_iload_n hx hb dX10_person_93 rfl (lv_at hl 1 rfl) ?_
        refine cR_V (Cn := RX10) (n := 2) (As := [.ref (a 3), .int (nI pp)]) (rest := []) C (c_X10_standing_n l G a i j t r n d ps im kp tx cd bk py pt mt nc np pp hT (by omega)) gX10_person_X10_standing rfl ⟨rfl, rfl⟩ hd_X10_standing ⟨(Nat.le_of_ble_eq_true rfl), (Nat.le_of_ble_eq_true rfl)⟩ hK hP (va_recv hK hP (ci := 10) (q0 := 0) rfl rfl) rfl hl.1 rfl (Nat.le_of_ble_eq_true rfl) dX10_person_94 ⟨(Nat.le_of_ble_eq_true rfl), (Nat.le_of_ble_eq_true rfl)⟩ ?_
        exact mR_iret C dX10_person_97 (by rw [cq12]; unfold peR; rw [if_neg (not_not_intro cq1)]; simp [hcl_pp])
      · have cq13 : x = 4 := by apply Int32.toInt_inj.mp; rw [hj2]; decide
        refine lv_tableIn (tgt := 98) hx hb dX10_person_12 (by omega) (by omega) (by rw [hj2]; rfl) (by decide) ?_
        refine lv_aload_n hx hb dX10_person_98 rfl (lv_at hl 0 rfl) ?_
        refine va_get (D := G.1) (ci := 10) (v := .ref (a 3)) (C := RX10) (T := TX10) (N := 25) hx hb hts k2 hown hK hP 0 rfl rfl 2 (by decide) k3 (fun _ h9 => h9) rfl dX10_person_99 ?_
        refine lv_bipush (v := 36) hx hb dX10_person_102 (by decide) ?_
        refine lv_iload_n hx hb dX10_person_104 rfl (lv_at hl 1 rfl) ?_
        refine n_iadd hx hb dX10_person_105 (u := 36) (v := pp) rfl rfl (j := 36 + pp) (by omega) ?_
        refine n_iald hx hb hK hP 3 0 rfl rfl (j := 36 + pp) rfl (by omega) (by decide) dX10_person_106 ?_
        exact mR_iret C dX10_person_107 (by rw [cq13]; unfold peR; rw [if_neg (not_not_intro cq1)]; simp [hcl_pp])
  · skip
    refine lv_ldc hx hb hown k4 dX10_person_8 ?_
    exact mR_iret C dX10_person_10 (by simp only [peR]; rw [if_pos cq1])
theorem hd_X10_owes : yX10_owes.cls = RX10 ∧ yX10_owes.cls ≠ "java/lang/invoke/MethodHandle" ∧ yX10_owes.cls ≠ "java/lang/invoke/VarHandle" ∧ (parseMethodDescriptor yX10_owes.desc).map (fun d => d.parameters.length) = some 2 := by decide +kernel
set_option maxRecDepth 100000 in
set_option maxHeartbeats 4000000 in
theorem c_X10_owes (l : Launch) (G : gG) (a : Nat → Nat) (i : Nat → Int32) (j : Nat → Int32) (t : Nat → Int32) (r : Nat → Int32) (n : Nat → Int32) (d : Nat → Int32) (ps : Nat → Int32) (im : Nat → Int32) (kp : Nat → Int32) (tx : Nat → Int32) (cd : Nat → Int32) (bk : Nat → Int32) (py : Nat → Int32) (pt : Nat → Int32) (mt : Nat → Int32) (nc : Nat) (np : Nat) (p : Int32) (c : Int32) (hT : tw t nc np) : mR l yX10_owes wsX10_owes ({ frames := 2, cells := 0, slots := 0, locals := 46 }) G (mW G a i j t r n d ps im kp tx cd bk py pt mt) [.ref (a 0), .int p, .int c] (owR t n p c) := by
  refine mR.of (cc := cX10_owes) (maxL := 3) (ret := (some .int)) (by decide) rfl (Nat.le_of_ble_eq_true rfl) ?_
  intro zp ze zs zm zb zt zc ls C hP hK hl
  obtain ⟨hx, hb, hr, hml, hown, hts, hlk⟩ := id C
  have hl : lv_has ls 3 [(0, .ref (a 0)), (1, .int p), (2, .int c)] := hl
  have hT2 := hT.2.2
  have k0 := hts (.constant RX10 175 (-1000000001)) (by decide +kernel)
  have k1 := hts (.fieldLink RX10 16 "DebtDowryModel" "now" "[I") (by decide +kernel)
  have k2 := (fun w h => by revert w; decide +kernel : ∀ w ∈ wsX100, w ∈ wsX10_owes)
  refine lv_aload_n hx hb dX10_owes_0 rfl (lv_at hl 0 rfl) ?_
  refine lv_iload_n hx hb dX10_owes_1 rfl (lv_at hl 1 rfl) ?_
  refine cR_V (Cn := RX10) (n := 1) (As := [.int p]) (rest := []) C (c_X10_isPerson l G a i j t r n d ps im kp tx cd bk py pt mt  p ) gX10_owes_X10_isPerson rfl ⟨rfl, rfl⟩ hd_X10_isPerson ⟨(Nat.le_of_ble_eq_true rfl), (Nat.le_of_ble_eq_true rfl)⟩ hK hP (va_recv hK hP (ci := 10) (q0 := 0) rfl rfl) rfl hl.1 rfl (Nat.le_of_ble_eq_true rfl) dX10_owes_2 ⟨(Nat.le_of_ble_eq_true rfl), (Nat.le_of_ble_eq_true rfl)⟩ ?_
  refine b_if_eq (tgt := 31) hx hb dX10_owes_5 (by decide) (fun cq1 => ?_) (fun cq1 => ?_)
  · skip
    refine lv_ldc hx hb hown k0 dX10_owes_31 ?_
    exact mR_iret C dX10_owes_33 (by unfold owR; exact (if_neg (fun h => cq1 h.1)).symm)
  · skip
    obtain ⟨pp, hpp, rfl⟩ := inB_nat hT.2.1 (by omega) cq1
    have hcl_pp := cl_nI (n := pp) (by omega)
    refine lv_aload_n hx hb dX10_owes_8 rfl (lv_at hl 0 rfl) ?_
    refine lv_iload_n hx hb dX10_owes_9 rfl (lv_at hl 2 rfl) ?_
    refine cR_V (Cn := RX10) (n := 1) (As := [.int c]) (rest := []) C (c_X10_isCreditor l G a i j t r n d ps im kp tx cd bk py pt mt  c ) gX10_owes_X10_isCreditor rfl ⟨rfl, rfl⟩ hd_X10_isCreditor ⟨(Nat.le_of_ble_eq_true rfl), (Nat.le_of_ble_eq_true rfl)⟩ hK hP (va_recv hK hP (ci := 10) (q0 := 0) rfl rfl) rfl hl.1 rfl (Nat.le_of_ble_eq_true rfl) dX10_owes_10 ⟨(Nat.le_of_ble_eq_true rfl), (Nat.le_of_ble_eq_true rfl)⟩ ?_
    refine b_if_eq (tgt := 31) hx hb dX10_owes_13 (by decide) (fun cq2 => ?_) (fun cq2 => ?_)
    · skip
      refine lv_ldc hx hb hown k0 dX10_owes_31 ?_
      exact mR_iret C dX10_owes_33 (by unfold owR; exact (if_neg (fun h => cq2 h.2)).symm)
    · skip
      obtain ⟨cc, hcc, rfl⟩ := inB_nat hT.1 (by omega) cq2
      have hcl_cc := cl_nI (n := cc) (by omega)
      refine lv_aload_n hx hb dX10_owes_16 rfl (lv_at hl 0 rfl) ?_
      refine va_get (D := G.1) (ci := 10) (v := .ref (a 3)) (C := RX10) (T := TX10) (N := 25) hx hb hts k2 hown hK hP 0 rfl rfl 2 (by decide) k1 (fun _ h9 => h9) rfl dX10_owes_17 ?_
      refine lv_iconst (v := 0) hx hb dX10_owes_20 (by decide) ?_
      refine lv_iconst (v := 4) hx hb dX10_owes_21 (by decide) ?_
      refine lv_iload_n hx hb dX10_owes_22 rfl (lv_at hl 1 rfl) ?_
      refine n_imul hx hb dX10_owes_23 (u := 4) (v := pp) rfl rfl (j := 4 * pp) (by omega) ?_
      refine n_iadd hx hb dX10_owes_24 (u := 0) (v := 4 * pp) rfl rfl (j := 4 * pp) (by omega) ?_
      refine lv_iload_n hx hb dX10_owes_25 rfl (lv_at hl 2 rfl) ?_
      refine n_iadd hx hb dX10_owes_26 (u := 4 * pp) (v := cc) rfl rfl (j := (4 * pp) + cc) (by omega) ?_
      refine n_iald hx hb hK hP 3 0 rfl rfl (j := (4 * pp) + cc) rfl (by omega) (by decide) dX10_owes_27 ?_
      refine lv_goto (tgt := 33) hx hb dX10_owes_28 (by decide) ?_
      exact mR_iret C dX10_owes_33 (by unfold owR; rw [if_pos ⟨cq1, cq2⟩, hcl_pp, hcl_cc])
theorem hd_X10_temper : yX10_temper.cls = RX10 ∧ yX10_temper.cls ≠ "java/lang/invoke/MethodHandle" ∧ yX10_temper.cls ≠ "java/lang/invoke/VarHandle" ∧ (parseMethodDescriptor yX10_temper.desc).map (fun d => d.parameters.length) = some 2 := by decide +kernel
set_option maxRecDepth 100000 in
set_option maxHeartbeats 4000000 in
theorem c_X10_temper (l : Launch) (G : gG) (a : Nat → Nat) (i : Nat → Int32) (j : Nat → Int32) (t : Nat → Int32) (r : Nat → Int32) (n : Nat → Int32) (d : Nat → Int32) (ps : Nat → Int32) (im : Nat → Int32) (kp : Nat → Int32) (tx : Nat → Int32) (cd : Nat → Int32) (bk : Nat → Int32) (py : Nat → Int32) (pt : Nat → Int32) (mt : Nat → Int32) (nc : Nat) (np : Nat) (p : Int32) (c : Int32) (hT : tw t nc np) : mR l yX10_temper wsX10_temper ({ frames := 2, cells := 0, slots := 0, locals := 46 }) G (mW G a i j t r n d ps im kp tx cd bk py pt mt) [.ref (a 0), .int p, .int c] (teR t n p c) := by
  refine mR.of (cc := cX10_temper) (maxL := 3) (ret := (some .int)) (by decide) rfl (Nat.le_of_ble_eq_true rfl) ?_
  intro zp ze zs zm zb zt zc ls C hP hK hl
  obtain ⟨hx, hb, hr, hml, hown, hts, hlk⟩ := id C
  have hl : lv_has ls 3 [(0, .ref (a 0)), (1, .int p), (2, .int c)] := hl
  have hT2 := hT.2.2
  have k0 := hts (.constant RX10 175 (-1000000001)) (by decide +kernel)
  have k1 := hts (.fieldLink RX10 16 "DebtDowryModel" "now" "[I") (by decide +kernel)
  have k2 := (fun w h => by revert w; decide +kernel : ∀ w ∈ wsX100, w ∈ wsX10_temper)
  refine lv_aload_n hx hb dX10_temper_0 rfl (lv_at hl 0 rfl) ?_
  refine lv_iload_n hx hb dX10_temper_1 rfl (lv_at hl 1 rfl) ?_
  refine cR_V (Cn := RX10) (n := 1) (As := [.int p]) (rest := []) C (c_X10_isPerson l G a i j t r n d ps im kp tx cd bk py pt mt  p ) gX10_temper_X10_isPerson rfl ⟨rfl, rfl⟩ hd_X10_isPerson ⟨(Nat.le_of_ble_eq_true rfl), (Nat.le_of_ble_eq_true rfl)⟩ hK hP (va_recv hK hP (ci := 10) (q0 := 0) rfl rfl) rfl hl.1 rfl (Nat.le_of_ble_eq_true rfl) dX10_temper_2 ⟨(Nat.le_of_ble_eq_true rfl), (Nat.le_of_ble_eq_true rfl)⟩ ?_
  refine b_if_eq (tgt := 29) hx hb dX10_temper_5 (by decide) (fun cq1 => ?_) (fun cq1 => ?_)
  · skip
    refine lv_ldc hx hb hown k0 dX10_temper_29 ?_
    exact mR_iret C dX10_temper_31 (by unfold teR; exact (if_neg (fun h => cq1 h.1)).symm)
  · skip
    obtain ⟨pp, hpp, rfl⟩ := inB_nat hT.2.1 (by omega) cq1
    have hcl_pp := cl_nI (n := pp) (by omega)
    refine lv_aload_n hx hb dX10_temper_8 rfl (lv_at hl 0 rfl) ?_
    refine lv_iload_n hx hb dX10_temper_9 rfl (lv_at hl 2 rfl) ?_
    refine cR_V (Cn := RX10) (n := 1) (As := [.int c]) (rest := []) C (c_X10_isCreditor l G a i j t r n d ps im kp tx cd bk py pt mt  c ) gX10_temper_X10_isCreditor rfl ⟨rfl, rfl⟩ hd_X10_isCreditor ⟨(Nat.le_of_ble_eq_true rfl), (Nat.le_of_ble_eq_true rfl)⟩ hK hP (va_recv hK hP (ci := 10) (q0 := 0) rfl rfl) rfl hl.1 rfl (Nat.le_of_ble_eq_true rfl) dX10_temper_10 ⟨(Nat.le_of_ble_eq_true rfl), (Nat.le_of_ble_eq_true rfl)⟩ ?_
    refine b_if_eq (tgt := 29) hx hb dX10_temper_13 (by decide) (fun cq2 => ?_) (fun cq2 => ?_)
    · skip
      refine lv_ldc hx hb hown k0 dX10_temper_29 ?_
      exact mR_iret C dX10_temper_31 (by unfold teR; exact (if_neg (fun h => cq2 h.2)).symm)
    · skip
      obtain ⟨cc, hcc, rfl⟩ := inB_nat hT.1 (by omega) cq2
      have hcl_cc := cl_nI (n := cc) (by omega)
      refine lv_aload_n hx hb dX10_temper_16 rfl (lv_at hl 0 rfl) ?_
      refine lv_aload_n hx hb dX10_temper_17 rfl (lv_at hl 0 rfl) ?_
      refine va_get (D := G.1) (ci := 10) (v := .ref (a 3)) (C := RX10) (T := TX10) (N := 25) hx hb hts k2 hown hK hP 0 rfl rfl 2 (by decide) k1 (fun _ h9 => h9) rfl dX10_temper_18 ?_
      refine lv_iload_n hx hb dX10_temper_21 rfl (lv_at hl 1 rfl) ?_
      refine lv_iload_n hx hb dX10_temper_22 rfl (lv_at hl 2 rfl) ?_
      refine cR_V (Cn := RX10) (n := 3) (As := [.ref (a 3), .int (nI pp), .int (nI cc)]) (rest := []) C (c_X10_temperOf_n l G a i j t r n d ps im kp tx cd bk py pt mt  pp cc (by omega) (by omega)) gX10_temper_X10_temperOf rfl ⟨rfl, rfl⟩ hd_X10_temperOf ⟨(Nat.le_of_ble_eq_true rfl), (Nat.le_of_ble_eq_true rfl)⟩ hK hP (va_recv hK hP (ci := 10) (q0 := 0) rfl rfl) rfl hl.1 rfl (Nat.le_of_ble_eq_true rfl) dX10_temper_23 ⟨(Nat.le_of_ble_eq_true rfl), (Nat.le_of_ble_eq_true rfl)⟩ ?_
      refine lv_goto (tgt := 31) hx hb dX10_temper_26 (by decide) ?_
      exact mR_iret C dX10_temper_31 (by unfold teR; rw [if_pos ⟨cq1, cq2⟩, hcl_pp, hcl_cc])
