theorem hd_X10_bits : yX10_bits.cls ≠ "java/lang/invoke/MethodHandle" ∧ yX10_bits.cls ≠ "java/lang/invoke/VarHandle" ∧ (parseMethodDescriptor yX10_bits.desc).map (fun d => d.parameters.length) = some 1 := by decide +kernel
set_option maxRecDepth 100000 in
set_option maxHeartbeats 4000000 in
theorem c_X10_bits (l : Launch) (G : gG) (x : Int32) (hb16 : lt16 x) : mR l yX10_bits wsX10_bits ({ frames := 0, cells := 0, slots := 0, locals := 0 }) G (eW G  ) [.int x] (popI x) := by
  refine mR.of (cc := cX10_bits) (maxL := 3) (ret := (some .int)) (by decide) rfl (Nat.le_of_ble_eq_true rfl) ?_
  intro zp ze zs zm zb zt zc ls C hP hK hl
  obtain ⟨hx, hb, hr, hml, hown, hts, hlk⟩ := id C
  have hl : lv_has ls 3 [(0, .int x)] := hl
  obtain ⟨k0, hk0, hxe⟩ := hb16
  refine lv_iconst (v := 0) hx hb dX10_bits_0 (by decide) ?_
  refine lv_istore_n (lv' := [(1, .int 0), (0, .int x)]) hx hb dX10_bits_1 rfl hl (by decide) rfl (fun ls hl => ?_)
  refine lv_iload_n hx hb dX10_bits_2 rfl (lv_at hl 1 rfl) ?_
  refine lv_istore_n (lv' := [(2, .int x), (1, .int 0), (0, .int x)]) hx hb dX10_bits_3 rfl hl (by decide) rfl (fun ls hl => ?_)
  refine wl_R (B := 4) (i0 := 0) (Inv := fun i1 ls => lv_has ls 3 [(0, .int x), (1, .int (nI i1)), (2, .int (itc i1 x))] ∧ ∀ j, j < i1 → ¬ itc j x = 0) (by omega) ⟨lv_sub hl [2, 1, 0] (rfl), (fun j hj => absurd hj (by omega))⟩ ?_
  rintro i1 ls hle4 ⟨hl, hz⟩ ih4
  refine lv_iload_n hx hb dX10_bits_4 rfl (lv_at hl 2 rfl) ?_
  refine lv_if_eq (tgt := 20) hx hb dX10_bits_5 (by decide) (fun cq1 => ?_) (fun cq1 => ?_)
  · skip
    refine lv_iload_n hx hb dX10_bits_20 rfl (lv_at hl 1 rfl) ?_
    exact mR_iret C dX10_bits_21 (by subst hxe; exact itc_p k0 hk0 i1 (by omega) cq1 hz)
  · skip
    have cz := cq1
    have hi4 : i1 < 4 := Nat.lt_of_le_of_ne hle4 (fun e => cz (by rw [e, hxe]; exact itc_4 k0 hk0))
    refine lv_iinc (v := nI (i1 + 1)) (lv' := [(1, .int (nI (i1 + 1))), (0, .int x), (2, .int (itc i1 x))]) hx hb dX10_bits_8 hl (k := 1) rfl (by rw [show (nI i1 : Int32) = nI i1 from rfl]; exact nI_add _ 1) (by decide) rfl (fun ls hl => ?_)
    refine lv_iload_n hx hb dX10_bits_11 rfl (lv_at hl 2 rfl) ?_
    refine lv_iload_n hx hb dX10_bits_12 rfl (lv_at hl 2 rfl) ?_
    refine lv_iconst (v := 1) hx hb dX10_bits_13 (by decide) ?_
    refine lv_isub hx hb dX10_bits_14 ?_
    refine lv_iand hx hb dX10_bits_15 ?_
    refine lv_istore_n (lv' := [(2, .int ((itc i1 x) &&& ((itc i1 x) - 1))), (1, .int (nI (i1 + 1))), (0, .int x)]) hx hb dX10_bits_16 rfl hl (by decide) rfl (fun ls hl => ?_)
    refine lv_goto (tgt := 4) hx hb dX10_bits_17 (by decide) ?_
    exact ih4 _ (by omega) ⟨lv_sub hl [2, 1, 0] (rfl), (fun j hj => if e : j = i1 then (by rw [e]; exact cz) else hz j (by omega))⟩
theorem hd_X10_quarter : yX10_quarter.cls = RX10 ∧ yX10_quarter.cls ≠ "java/lang/invoke/MethodHandle" ∧ yX10_quarter.cls ≠ "java/lang/invoke/VarHandle" ∧ (parseMethodDescriptor yX10_quarter.desc).map (fun d => d.parameters.length) = some 1 := by decide +kernel
set_option maxRecDepth 100000 in
set_option maxHeartbeats 4000000 in
theorem c_X10_quarter (l : Launch) (G : gG) (a : Nat → Nat) (i : Nat → Int32) (j : Nat → Int32) (t : Nat → Int32) (r : Nat → Int32) (n : Nat → Int32) (d : Nat → Int32) (ps : Nat → Int32) (im : Nat → Int32) (kp : Nat → Int32) (tx : Nat → Int32) (cd : Nat → Int32) (bk : Nat → Int32) (py : Nat → Int32) (pt : Nat → Int32) (mt : Nat → Int32) (nc : Nat) (np : Nat) (un : Nat) (x : Int32) (hT : tw t nc np) (hun : i 5 = nI un) (hul : un ≤ 30) (hF : lt16 (n 52)) : mX l yX10_quarter wsX10_quarter ({ frames := 4, cells := 0, slots := 0, locals := 92 }) G (mW G a i j t r n d ps im kp tx cd bk py pt mt) (mW G a (if rfR t n x = 0 then upd i 5 (nI (unQ un (cl x))) else i) j t r (if rfR t n x = 0 then nQ t nc np n (cl x) else n) d (if rfR t n x = 0 then psQ t nc np n ps un (cl x) else ps) im kp tx cd bk py pt mt) [.ref (a 0), .int x] (.returned (some (.int (quR t n nc np x)))) := by
  refine mX.of (cc := cX10_quarter) (maxL := 5) (ret := (some .int)) (by decide) rfl (Nat.le_of_ble_eq_true rfl) ?_
  intro zp ze zs zm zb zt zc ls A hAe C hP hK hD hS hl
  obtain ⟨hx, hb, hr, hml, hown, hts, hlk⟩ := id C
  have hl : lv_has ls 5 [(0, .ref (a 0)), (1, .int x)] := hl
  have hT2 := hT.2.2
  have k0 := hts (.fieldLink RX10 16 "DebtDowryModel" "now" "[I") (by decide +kernel)
  have k1 := (fun w h => by revert w; decide +kernel : ∀ w ∈ wsX100, w ∈ wsX10_quarter)
  refine lv_aload_n hx hb dX10_quarter_0 rfl (lv_at hl 0 rfl) ?_
  refine lv_iload_n hx hb dX10_quarter_1 rfl (lv_at hl 1 rfl) ?_
  refine cR_V (Cn := RX10) (n := 1) (As := [.int x]) (rest := []) C (c_X10_refuses l G a i j t r n d ps im kp tx cd bk py pt mt  x ) gX10_quarter_X10_refuses rfl ⟨rfl, rfl⟩ hd_X10_refuses ⟨(Nat.le_of_ble_eq_true rfl), (Nat.le_of_ble_eq_true rfl)⟩ hK hP (va_recv hK hP (ci := 10) (q0 := 0) rfl rfl) rfl hl.1 rfl (Nat.le_of_ble_eq_true rfl) dX10_quarter_2 ⟨(Nat.le_of_ble_eq_true rfl), (Nat.le_of_ble_eq_true rfl)⟩ ?_
  refine lv_istore_n (lv' := [(2, .int (rfR t n x)), (0, .ref (a 0)), (1, .int x)]) hx hb dX10_quarter_5 rfl hl (by decide) rfl (fun ls hl => ?_)
  refine lv_iload_n hx hb dX10_quarter_6 rfl (lv_at hl 0 rfl) ?_
  refine lv_if_eq (tgt := 12) hx hb dX10_quarter_7 (by decide) (fun cq1 => ?_) (fun cq1 => ?_)
  · skip
    obtain ⟨kk, hkk1, hkk2, rfl⟩ := inB_rng (a := 1) (b := 20) rfl rfl (by decide) (by decide) (rfR_0 cq1)
    have hcl_kk := cl_nI (n := kk) (by omega)
    refine lv_aload_n hx hb dX10_quarter_12 rfl (lv_at hl 1 rfl) ?_
    refine va_get (D := G.1) (ci := 10) (v := .ref (a 3)) (C := RX10) (T := TX10) (N := 25) hx hb hts k1 hown hK hP 0 rfl rfl 2 (by decide) k0 (fun _ h9 => h9) rfl dX10_quarter_13 ?_
    refine lv_bipush (v := 52) hx hb dX10_quarter_16 (by decide) ?_
    refine n_iald hx hb hK hP 3 0 rfl rfl (j := 52) rfl (by decide) (by decide) dX10_quarter_18 ?_
    refine lv_istore_n (lv' := [(3, .int (n 52)), (2, .int (rfR t n (nI kk))), (0, .ref (a 0)), (1, .int (nI kk))]) hx hb dX10_quarter_19 rfl hl (by decide) rfl (fun ls hl => ?_)
    refine lv_iconst (v := 0) hx hb dX10_quarter_20 (by decide) ?_
    refine lv_istore (lv' := [(4, .int 0), (3, .int (n 52)), (2, .int (rfR t n (nI kk))), (0, .ref (a 0)), (1, .int (nI kk))]) hx hb dX10_quarter_21 hl (by decide) rfl (fun ls hl => ?_)
    refine wl_X (B := kk) (i0 := 0) (Inv := fun i1 H locs ls => va_P G.1 vwCl (mW G a (upd i 5 (nI (unQ un i1))) j t r (nQ t nc np n i1) d (psQ t nc np n ps un i1) im kp tx cd bk py pt mt) H ∧ va_D A (mW G a (upd i 5 (nI (unQ un i1))) j t r (nQ t nc np n i1) d (psQ t nc np n ps un i1) im kp tx cd bk py pt mt) ∧ va_S A zs.heap H locs ∧ lv_has ls 5 [(0, .ref (a 0)), (1, .int (nI kk)), (3, .int (n 52)), (4, .int (nI i1))] ∧ True) (by omega) ⟨by rw [show upd i 5 (nI (unQ un 0)) = i from upd_self hun]; exact hP, by rw [show upd i 5 (nI (unQ un 0)) = i from upd_self hun]; exact hD, hS, lv_sub hl [3, 4, 1, 0] (rfl), trivial⟩ ?_
    rintro i1 H locs ls hle23 ⟨hP, hD, hS, hl, -⟩ ih23
    refine lv_iload hx hb dX10_quarter_23 (lv_at hl 3 rfl) ?_
    refine lv_iload_n hx hb dX10_quarter_25 rfl (lv_at hl 1 rfl) ?_
    refine n_icmp_ge (tgt := 47) hx hb dX10_quarter_26 (by decide) (u := i1) (v := kk) rfl rfl (by omega) (by omega) (fun cq2 => ?_) (fun cq2 => ?_)
    · skip
      obtain rfl : kk = i1 := by omega
      refine lv_aload_n hx hb dX10_quarter_47 rfl (lv_at hl 0 rfl) ?_
      refine va_get (D := G.1) (ci := 10) (v := .ref (a 3)) (C := RX10) (T := TX10) (N := 25) hx hb hts k1 hown hK hP 0 rfl rfl 2 (by decide) k0 (fun _ h9 => h9) rfl dX10_quarter_48 ?_
      refine lv_bipush (v := 52) hx hb dX10_quarter_51 (by decide) ?_
      refine n_iald hx hb hK hP 3 0 rfl rfl (j := 52) rfl (by decide) (by decide) dX10_quarter_53 ?_
      refine lv_iload_n hx hb dX10_quarter_54 rfl (lv_at hl 2 rfl) ?_
      refine lv_iconst (v := (-1)) hx hb dX10_quarter_55 (by decide) ?_
      refine lv_ixor hx hb dX10_quarter_56 ?_
      refine lv_iand hx hb dX10_quarter_57 ?_
      refine cR_S (n := 1) (As := [.int (((nQ t nc np n kk) 52) &&& ((n 52) ^^^ (-1)))]) (rest := []) C (c_X10_bits l G    (((nQ t nc np n kk) 52) &&& ((n 52) ^^^ (-1))) (lt16_and (lt16_nQ hT2.1 hF kk) hF)) gX10_quarter_X10_bits rfl ⟨rfl, rfl⟩ hd_X10_bits ⟨(Nat.le_of_ble_eq_true rfl), (Nat.le_of_ble_eq_true rfl)⟩ hK (hP.sub [] rfl) rfl hl.1 rfl (Nat.le_of_ble_eq_true rfl) dX10_quarter_58 ⟨(Nat.le_of_ble_eq_true rfl), (Nat.le_of_ble_eq_true rfl)⟩ ?_
      have hP : va_P G.1 vwCl (mW G a (if rfR t n (nI kk) = 0 then upd i 5 (nI (unQ un (cl (nI kk)))) else i) j t r (if rfR t n (nI kk) = 0 then nQ t nc np n (cl (nI kk)) else n) d (if rfR t n (nI kk) = 0 then psQ t nc np n ps un (cl (nI kk)) else ps) im kp tx cd bk py pt mt) H := by rw [show (if rfR t n (nI kk) = 0 then upd i 5 (nI (unQ un (cl (nI kk)))) else i) = (upd i 5 (nI (unQ un kk))) from by rw [if_pos cq1, hcl_kk], show (if rfR t n (nI kk) = 0 then nQ t nc np n (cl (nI kk)) else n) = (nQ t nc np n kk) from by rw [if_pos cq1, hcl_kk], show (if rfR t n (nI kk) = 0 then psQ t nc np n ps un (cl (nI kk)) else ps) = (psQ t nc np n ps un kk) from by rw [if_pos cq1, hcl_kk]]; exact hP
      exact mX_iret hAe C hP hS dX10_quarter_61 (by unfold quR; rw [if_neg (not_not_intro cq1), hcl_kk])
    · skip
      refine lv_aload_n hx hb dX10_quarter_29 rfl (lv_at hl 0 rfl) ?_
      refine cX_V (Cn := RX10) (n := 0) (As := []) (rest := []) (wsn := mW G a (rmI (upd i 5 (nI (unQ un i1))) (unQ un i1)) j t r (nQ t nc np n i1) d (rmP (nQ t nc np n i1) (psQ t nc np n ps un i1) (unQ un i1)) im kp tx cd bk py pt mt) C (c_X10_remember l G a (upd i 5 (nI (unQ un i1))) j t r (nQ t nc np n i1) d (psQ t nc np n ps un i1) im kp tx cd bk py pt mt (unQ un i1)  (upd_at _ _ _) (unQ_le hul i1)) gX10_quarter_X10_remember rfl ⟨rfl, rfl⟩ hd_X10_remember ⟨(Nat.le_of_ble_eq_true rfl), (Nat.le_of_ble_eq_true rfl)⟩ hK hP hD hS [0, 1, 2, 3, 4, 5, 6, 7, 8, 9, 10, 11, 12, 13] (by decide) rfl (mW_f.trans mW_f.symm) rfl (mW_f.trans mW_f.symm) (va_recv hK hP (ci := 10) (q0 := 0) rfl rfl) rfl hl.1 rfl (Nat.le_of_ble_eq_true rfl) dX10_quarter_30 ⟨(Nat.le_of_ble_eq_true rfl), (Nat.le_of_ble_eq_true rfl)⟩ (fun H locs hP hD hS => ?_)
      refine lv_aload_n hx hb dX10_quarter_33 rfl (lv_at hl 0 rfl) ?_
      refine lv_aload_n hx hb dX10_quarter_34 rfl (lv_at hl 0 rfl) ?_
      refine va_get (D := G.1) (ci := 10) (v := .ref (a 3)) (C := RX10) (T := TX10) (N := 25) hx hb hts k1 hown hK hP 0 rfl rfl 2 (by decide) k0 (fun _ h9 => h9) rfl dX10_quarter_35 ?_
      refine cX_V (Cn := RX10) (n := 1) (As := [.ref (a 3)]) (rest := []) (wsn := mW G a (rmI (upd i 5 (nI (unQ un i1))) (unQ un i1)) j t r (qgF t (nQ t nc np n i1) nc np) d (rmP (nQ t nc np n i1) (psQ t nc np n ps un i1) (unQ un i1)) im kp tx cd bk py pt mt) C (c_X10_quarterGoes_n l G a (rmI (upd i 5 (nI (unQ un i1))) (unQ un i1)) j t r (nQ t nc np n i1) d (rmP (nQ t nc np n i1) (psQ t nc np n ps un i1) (unQ un i1)) im kp tx cd bk py pt mt nc np  hT) gX10_quarter_X10_quarterGoes rfl ⟨rfl, rfl⟩ hd_X10_quarterGoes ⟨(Nat.le_of_ble_eq_true rfl), (Nat.le_of_ble_eq_true rfl)⟩ hK hP hD hS [0, 1, 2, 3, 4, 5, 6, 7, 8, 9, 10, 11, 12, 13] (by decide) rfl (mW_f.trans mW_f.symm) rfl (mW_f.trans mW_f.symm) (va_recv hK hP (ci := 10) (q0 := 0) rfl rfl) rfl hl.1 rfl (Nat.le_of_ble_eq_true rfl) dX10_quarter_38 ⟨(Nat.le_of_ble_eq_true rfl), (Nat.le_of_ble_eq_true rfl)⟩ (fun H locs hP hD hS => ?_)
      refine lv_iinc (v := nI (i1 + 1)) (lv' := [(4, .int (nI (i1 + 1))), (0, .ref (a 0)), (1, .int (nI kk)), (3, .int (n 52))]) hx hb dX10_quarter_41 hl (k := 3) rfl (by rw [show (nI i1 : Int32) = nI i1 from rfl]; exact nI_add _ 1) (by decide) rfl (fun ls hl => ?_)
      refine lv_goto (tgt := 23) hx hb dX10_quarter_44 (by decide) ?_
      have e3 : qgF t (nQ t nc np n i1) nc np = nQ t nc np n (i1 + 1) := rfl
      have e4 : rmP (nQ t nc np n i1) (psQ t nc np n ps un i1) (unQ un i1) = psQ t nc np n ps un (i1 + 1) := rfl
      have e5 : rmI (upd i 5 (nI (unQ un i1))) (unQ un i1) = upd i 5 (nI (unQ un (i1 + 1))) := upd_upd _ _ _ _
      rw [e3, e4, e5] at hP hD
      exact ih23 _ _ _ (by omega) ⟨hP, hD, hS, lv_sub hl [1, 2, 3, 0] (rfl), trivial⟩
  · skip
    refine lv_iload_n hx hb dX10_quarter_10 rfl (lv_at hl 0 rfl) ?_
    have hP : va_P G.1 vwCl (mW G a (if rfR t n x = 0 then upd i 5 (nI (unQ un (cl x))) else i) j t r (if rfR t n x = 0 then nQ t nc np n (cl x) else n) d (if rfR t n x = 0 then psQ t nc np n ps un (cl x) else ps) im kp tx cd bk py pt mt) zs.heap := by rw [show (if rfR t n x = 0 then upd i 5 (nI (unQ un (cl x))) else i) = i from by rw [if_neg cq1], show (if rfR t n x = 0 then nQ t nc np n (cl x) else n) = n from by rw [if_neg cq1], show (if rfR t n x = 0 then psQ t nc np n ps un (cl x) else ps) = ps from by rw [if_neg cq1]]; exact hP
    exact mX_iret hAe C hP hS dX10_quarter_11 ((if_pos cq1).symm)
theorem hd_X10_areApart : yX10_areApart.cls = RX10 ∧ yX10_areApart.cls ≠ "java/lang/invoke/MethodHandle" ∧ yX10_areApart.cls ≠ "java/lang/invoke/VarHandle" ∧ (parseMethodDescriptor yX10_areApart.desc).map (fun d => d.parameters.length) = some 2 := by decide +kernel
set_option maxRecDepth 100000 in
set_option maxHeartbeats 4000000 in
theorem c_X10_areApart (l : Launch) (G : gG) (a : Nat → Nat) (i : Nat → Int32) (j : Nat → Int32) (t : Nat → Int32) (r : Nat → Int32) (n : Nat → Int32) (d : Nat → Int32) (ps : Nat → Int32) (im : Nat → Int32) (kp : Nat → Int32) (tx : Nat → Int32) (cd : Nat → Int32) (bk : Nat → Int32) (py : Nat → Int32) (pt : Nat → Int32) (mt : Nat → Int32) (g : Nat) (m : Nat) (hg : g < 8) (hm : m < 8) : mR l yX10_areApart wsX10_areApart ({ frames := 0, cells := 0, slots := 0, locals := 0 }) G (mW G a i j t r n d ps im kp tx cd bk py pt mt) [.ref (a 0), .int (nI g), .int (nI m)] (bI (n (44 + g) = -1 ∧ n (44 + m) = -1)) := by
  refine mR.of (cc := cX10_areApart) (maxL := 3) (ret := (some .boolean)) (by decide) rfl (Nat.le_of_ble_eq_true rfl) ?_
  intro zp ze zs zm zb zt zc ls C hP hK hl
  obtain ⟨hx, hb, hr, hml, hown, hts, hlk⟩ := id C
  have hl : lv_has ls 3 [(0, .ref (a 0)), (1, .int (nI g)), (2, .int (nI m))] := hl
  have k0 := hts (.fieldLink RX10 16 "DebtDowryModel" "now" "[I") (by decide +kernel)
  have k1 := (fun w h => by revert w; decide +kernel : ∀ w ∈ wsX100, w ∈ wsX10_areApart)
  refine lv_aload_n hx hb dX10_areApart_0 rfl (lv_at hl 0 rfl) ?_
  refine va_get (D := G.1) (ci := 10) (v := .ref (a 3)) (C := RX10) (T := TX10) (N := 25) hx hb hts k1 hown hK hP 0 rfl rfl 2 (by decide) k0 (fun _ h9 => h9) rfl dX10_areApart_1 ?_
  refine lv_bipush (v := 44) hx hb dX10_areApart_4 (by decide) ?_
  refine lv_iload_n hx hb dX10_areApart_6 rfl (lv_at hl 1 rfl) ?_
  refine n_iadd hx hb dX10_areApart_7 (u := 44) (v := g) rfl rfl (j := 44 + g) (by omega) ?_
  refine n_iald hx hb hK hP 3 0 rfl rfl (j := 44 + g) rfl (by omega) (by decide) dX10_areApart_8 ?_
  refine lv_iconst (v := (-1)) hx hb dX10_areApart_9 (by decide) ?_
  refine lv_icmp_ne (tgt := 30) hx hb dX10_areApart_10 (by decide) (fun cq1 => ?_) (fun cq1 => ?_)
  · skip
    refine lv_iconst (v := 0) hx hb dX10_areApart_30 (by decide) ?_
    exact mR_zret C dX10_areApart_31 (by decide) ((bI_f (fun h => cq1 h.1)).symm)
  · skip
    refine lv_aload_n hx hb dX10_areApart_13 rfl (lv_at hl 0 rfl) ?_
    refine va_get (D := G.1) (ci := 10) (v := .ref (a 3)) (C := RX10) (T := TX10) (N := 25) hx hb hts k1 hown hK hP 0 rfl rfl 2 (by decide) k0 (fun _ h9 => h9) rfl dX10_areApart_14 ?_
    refine lv_bipush (v := 44) hx hb dX10_areApart_17 (by decide) ?_
    refine lv_iload_n hx hb dX10_areApart_19 rfl (lv_at hl 2 rfl) ?_
    refine n_iadd hx hb dX10_areApart_20 (u := 44) (v := m) rfl rfl (j := 44 + m) (by omega) ?_
    refine n_iald hx hb hK hP 3 0 rfl rfl (j := 44 + m) rfl (by omega) (by decide) dX10_areApart_21 ?_
    refine lv_iconst (v := (-1)) hx hb dX10_areApart_22 (by decide) ?_
    refine lv_icmp_ne (tgt := 30) hx hb dX10_areApart_23 (by decide) (fun cq2 => ?_) (fun cq2 => ?_)
    · skip
      refine lv_iconst (v := 0) hx hb dX10_areApart_30 (by decide) ?_
      exact mR_zret C dX10_areApart_31 (by decide) ((bI_f (fun h => cq2 h.2)).symm)
    · skip
      refine lv_iconst (v := 1) hx hb dX10_areApart_26 (by decide) ?_
      refine lv_goto (tgt := 31) hx hb dX10_areApart_27 (by decide) ?_
      exact mR_zret C dX10_areApart_31 (by decide) ((bI_t ⟨cq1, cq2⟩).symm)
theorem hd_X10_wed : yX10_wed.cls = RX10 ∧ yX10_wed.cls ≠ "java/lang/invoke/MethodHandle" ∧ yX10_wed.cls ≠ "java/lang/invoke/VarHandle" ∧ (parseMethodDescriptor yX10_wed.desc).map (fun d => d.parameters.length) = some 2 := by decide +kernel
set_option maxRecDepth 100000 in
set_option maxHeartbeats 4000000 in
theorem c_X10_wed (l : Launch) (G : gG) (a : Nat → Nat) (i : Nat → Int32) (j : Nat → Int32) (t : Nat → Int32) (r : Nat → Int32) (n : Nat → Int32) (d : Nat → Int32) (ps : Nat → Int32) (im : Nat → Int32) (kp : Nat → Int32) (tx : Nat → Int32) (cd : Nat → Int32) (bk : Nat → Int32) (py : Nat → Int32) (pt : Nat → Int32) (mt : Nat → Int32) (nc : Nat) (np : Nat) (un : Nat) (g : Int32) (m : Int32) (hT : tw t nc np) (hun : i 5 = nI un) (hul : un ≤ 30) : mX l yX10_wed wsX10_wed ({ frames := 3, cells := 0, slots := 0, locals := 70 }) G (mW G a i j t r n d ps im kp tx cd bk py pt mt) (mW G a (if isG t g ∧ isM t m ∧ n (44 + cl g) = -1 ∧ n (44 + cl m) = -1 then rmI i un else i) j t r (if isG t g ∧ isM t m ∧ n (44 + cl g) = -1 ∧ n (44 + cl m) = -1 then wedF n (cl g) (cl m) else n) d (if isG t g ∧ isM t m ∧ n (44 + cl g) = -1 ∧ n (44 + cl m) = -1 then rmP n ps un else ps) im kp tx cd bk py pt mt) [.ref (a 0), .int g, .int m] (.returned (some (.int (weR t n nc g m)))) := by
  refine mX.of (cc := cX10_wed) (maxL := 3) (ret := (some .int)) (by decide) rfl (Nat.le_of_ble_eq_true rfl) ?_
  intro zp ze zs zm zb zt zc ls A hAe C hP hK hD hS hl
  obtain ⟨hx, hb, hr, hml, hown, hts, hlk⟩ := id C
  have hl : lv_has ls 3 [(0, .ref (a 0)), (1, .int g), (2, .int m)] := hl
  have hT2 := hT.2.2
  have k0 := hts (.constant RX10 175 (-1000000001)) (by decide +kernel)
  have k1 := hts (.fieldLink RX10 16 "DebtDowryModel" "now" "[I") (by decide +kernel)
  have k2 := (fun w h => by revert w; decide +kernel : ∀ w ∈ wsX100, w ∈ wsX10_wed)
  have k3 := hts (.constant RX10 193 (-1000000003)) (by decide +kernel)
  refine lv_aload_n hx hb dX10_wed_0 rfl (lv_at hl 0 rfl) ?_
  refine lv_iload_n hx hb dX10_wed_1 rfl (lv_at hl 1 rfl) ?_
  refine cR_V (Cn := RX10) (n := 1) (As := [.int g]) (rest := []) C (c_X10_isGirl l G a i j t r n d ps im kp tx cd bk py pt mt  g ) gX10_wed_X10_isGirl rfl ⟨rfl, rfl⟩ hd_X10_isGirl ⟨(Nat.le_of_ble_eq_true rfl), (Nat.le_of_ble_eq_true rfl)⟩ hK hP (va_recv hK hP (ci := 10) (q0 := 0) rfl rfl) rfl hl.1 rfl (Nat.le_of_ble_eq_true rfl) dX10_wed_2 ⟨(Nat.le_of_ble_eq_true rfl), (Nat.le_of_ble_eq_true rfl)⟩ ?_
  refine b_if_eq (tgt := 16) hx hb dX10_wed_5 (by decide) (fun cq1 => ?_) (fun cq1 => ?_)
  · skip
    refine lv_ldc hx hb hown k0 dX10_wed_16 ?_
    have hP : va_P G.1 vwCl (mW G a (if isG t g ∧ isM t m ∧ n (44 + cl g) = -1 ∧ n (44 + cl m) = -1 then rmI i un else i) j t r (if isG t g ∧ isM t m ∧ n (44 + cl g) = -1 ∧ n (44 + cl m) = -1 then wedF n (cl g) (cl m) else n) d (if isG t g ∧ isM t m ∧ n (44 + cl g) = -1 ∧ n (44 + cl m) = -1 then rmP n ps un else ps) im kp tx cd bk py pt mt) zs.heap := by rw [show (if isG t g ∧ isM t m ∧ n (44 + cl g) = -1 ∧ n (44 + cl m) = -1 then rmI i un else i) = i from by first | rfl | simp [cq1], show (if isG t g ∧ isM t m ∧ n (44 + cl g) = -1 ∧ n (44 + cl m) = -1 then wedF n (cl g) (cl m) else n) = n from by first | rfl | simp [cq1], show (if isG t g ∧ isM t m ∧ n (44 + cl g) = -1 ∧ n (44 + cl m) = -1 then rmP n ps un else ps) = ps from by first | rfl | simp [cq1]]; exact hP
    exact mX_iret hAe C hP hS dX10_wed_18 (by simp [weR, cq1])
  · skip
    obtain ⟨gg, hgg, rfl⟩ := inB_nat hT.2.1 (by omega) (And.left cq1)
    have hcl_gg := cl_nI (n := gg) (by omega)
    refine lv_aload_n hx hb dX10_wed_8 rfl (lv_at hl 0 rfl) ?_
    refine lv_iload_n hx hb dX10_wed_9 rfl (lv_at hl 2 rfl) ?_
    refine cR_V (Cn := RX10) (n := 1) (As := [.int m]) (rest := []) C (c_X10_isMan l G a i j t r n d ps im kp tx cd bk py pt mt  m ) gX10_wed_X10_isMan rfl ⟨rfl, rfl⟩ hd_X10_isMan ⟨(Nat.le_of_ble_eq_true rfl), (Nat.le_of_ble_eq_true rfl)⟩ hK hP (va_recv hK hP (ci := 10) (q0 := 0) rfl rfl) rfl hl.1 rfl (Nat.le_of_ble_eq_true rfl) dX10_wed_10 ⟨(Nat.le_of_ble_eq_true rfl), (Nat.le_of_ble_eq_true rfl)⟩ ?_
    refine b_if_ne (tgt := 19) hx hb dX10_wed_13 (by decide) (fun cq2 => ?_) (fun cq2 => ?_)
    · skip
      obtain ⟨mm, hmm, rfl⟩ := inB_nat hT.2.1 (by omega) (And.left cq2)
      have hcl_mm := cl_nI (n := mm) (by omega)
      refine lv_aload_n hx hb dX10_wed_19 rfl (lv_at hl 0 rfl) ?_
      refine lv_iload_n hx hb dX10_wed_20 rfl (lv_at hl 1 rfl) ?_
      refine lv_iload_n hx hb dX10_wed_21 rfl (lv_at hl 2 rfl) ?_
      refine cR_V (Cn := RX10) (n := 2) (As := [.int (nI gg), .int (nI mm)]) (rest := []) C (c_X10_areApart l G a i j t r n d ps im kp tx cd bk py pt mt  gg mm (by omega) (by omega)) gX10_wed_X10_areApart rfl ⟨rfl, rfl⟩ hd_X10_areApart ⟨(Nat.le_of_ble_eq_true rfl), (Nat.le_of_ble_eq_true rfl)⟩ hK hP (va_recv hK hP (ci := 10) (q0 := 0) rfl rfl) rfl hl.1 rfl (Nat.le_of_ble_eq_true rfl) dX10_wed_22 ⟨(Nat.le_of_ble_eq_true rfl), (Nat.le_of_ble_eq_true rfl)⟩ ?_
      refine b_if_ne (tgt := 31) hx hb dX10_wed_25 (by decide) (fun cq3 => ?_) (fun cq3 => ?_)
      · skip
        refine lv_aload_n hx hb dX10_wed_31 rfl (lv_at hl 0 rfl) ?_
        refine cX_V (Cn := RX10) (n := 0) (As := []) (rest := []) (wsn := mW G a (rmI i un) j t r n d (rmP n ps un) im kp tx cd bk py pt mt) C (c_X10_remember l G a i j t r n d ps im kp tx cd bk py pt mt un  hun (by omega)) gX10_wed_X10_remember rfl ⟨rfl, rfl⟩ hd_X10_remember ⟨(Nat.le_of_ble_eq_true rfl), (Nat.le_of_ble_eq_true rfl)⟩ hK hP hD hS [0, 1, 2, 3, 4, 5, 6, 7, 8, 9, 10, 11, 12, 13] (by decide) rfl (mW_f.trans mW_f.symm) rfl (mW_f.trans mW_f.symm) (va_recv hK hP (ci := 10) (q0 := 0) rfl rfl) rfl hl.1 rfl (Nat.le_of_ble_eq_true rfl) dX10_wed_32 ⟨(Nat.le_of_ble_eq_true rfl), (Nat.le_of_ble_eq_true rfl)⟩ (fun H locs hP hD hS => ?_)
        refine lv_aload_n hx hb dX10_wed_35 rfl (lv_at hl 0 rfl) ?_
        refine lv_aload_n hx hb dX10_wed_36 rfl (lv_at hl 0 rfl) ?_
        refine va_get (D := G.1) (ci := 10) (v := .ref (a 3)) (C := RX10) (T := TX10) (N := 25) hx hb hts k2 hown hK hP 0 rfl rfl 2 (by decide) k1 (fun _ h9 => h9) rfl dX10_wed_37 ?_
        refine lv_iload_n hx hb dX10_wed_40 rfl (lv_at hl 1 rfl) ?_
        refine lv_iload_n hx hb dX10_wed_41 rfl (lv_at hl 2 rfl) ?_
        refine cX_V (Cn := RX10) (n := 3) (As := [.ref (a 3), .int (nI gg), .int (nI mm)]) (rest := []) (wsn := mW G a (rmI i un) j t r (wedF n gg mm) d (rmP n ps un) im kp tx cd bk py pt mt) C (c_X10_weds_n l G a (rmI i un) j t r n d (rmP n ps un) im kp tx cd bk py pt mt  gg mm (by omega) (by omega)) gX10_wed_X10_weds rfl ⟨rfl, rfl⟩ hd_X10_weds ⟨(Nat.le_of_ble_eq_true rfl), (Nat.le_of_ble_eq_true rfl)⟩ hK hP hD hS [0, 1, 2, 3, 4, 5, 6, 7, 8, 9, 10, 11, 12, 13] (by decide) rfl (mW_f.trans mW_f.symm) rfl (mW_f.trans mW_f.symm) (va_recv hK hP (ci := 10) (q0 := 0) rfl rfl) rfl hl.1 rfl (Nat.le_of_ble_eq_true rfl) dX10_wed_42 ⟨(Nat.le_of_ble_eq_true rfl), (Nat.le_of_ble_eq_true rfl)⟩ (fun H locs hP hD hS => ?_)
        refine lv_aload_n hx hb dX10_wed_45 rfl (lv_at hl 0 rfl) ?_
        refine lv_aload_n hx hb dX10_wed_46 rfl (lv_at hl 0 rfl) ?_
        refine va_get (D := G.1) (ci := 10) (v := .ref (a 3)) (C := RX10) (T := TX10) (N := 25) hx hb hts k2 hown hK hP 0 rfl rfl 2 (by decide) k1 (fun _ h9 => h9) rfl dX10_wed_47 ?_
        refine lv_iload_n hx hb dX10_wed_50 rfl (lv_at hl 1 rfl) ?_
        refine cR_V (Cn := RX10) (n := 2) (As := [.ref (a 3), .int (nI gg)]) (rest := []) C (c_X10_standing_n l G a (rmI i un) j t r (wedF n gg mm) d (rmP n ps un) im kp tx cd bk py pt mt nc np gg hT (by omega)) gX10_wed_X10_standing rfl ⟨rfl, rfl⟩ hd_X10_standing ⟨(Nat.le_of_ble_eq_true rfl), (Nat.le_of_ble_eq_true rfl)⟩ hK hP (va_recv hK hP (ci := 10) (q0 := 0) rfl rfl) rfl hl.1 rfl (Nat.le_of_ble_eq_true rfl) dX10_wed_51 ⟨(Nat.le_of_ble_eq_true rfl), (Nat.le_of_ble_eq_true rfl)⟩ ?_
        refine lv_bipush (v := 10) hx hb dX10_wed_54 (by decide) ?_
        refine lv_iadd hx hb dX10_wed_56 ?_
        have hP : va_P G.1 vwCl (mW G a (if isG t (nI gg) ∧ isM t (nI mm) ∧ n (44 + cl (nI gg)) = -1 ∧ n (44 + cl (nI mm)) = -1 then rmI i un else i) j t r (if isG t (nI gg) ∧ isM t (nI mm) ∧ n (44 + cl (nI gg)) = -1 ∧ n (44 + cl (nI mm)) = -1 then wedF n (cl (nI gg)) (cl (nI mm)) else n) d (if isG t (nI gg) ∧ isM t (nI mm) ∧ n (44 + cl (nI gg)) = -1 ∧ n (44 + cl (nI mm)) = -1 then rmP n ps un else ps) im kp tx cd bk py pt mt) H := by rw [show (if isG t (nI gg) ∧ isM t (nI mm) ∧ n (44 + cl (nI gg)) = -1 ∧ n (44 + cl (nI mm)) = -1 then rmI i un else i) = (rmI i un) from by first | rfl | simp [cq1, hcl_gg, cq2, hcl_mm, cq3], show (if isG t (nI gg) ∧ isM t (nI mm) ∧ n (44 + cl (nI gg)) = -1 ∧ n (44 + cl (nI mm)) = -1 then wedF n (cl (nI gg)) (cl (nI mm)) else n) = (wedF n gg mm) from by first | rfl | simp [cq1, hcl_gg, cq2, hcl_mm, cq3], show (if isG t (nI gg) ∧ isM t (nI mm) ∧ n (44 + cl (nI gg)) = -1 ∧ n (44 + cl (nI mm)) = -1 then rmP n ps un else ps) = (rmP n ps un) from by first | rfl | simp [cq1, hcl_gg, cq2, hcl_mm, cq3]]; exact hP
        exact mX_iret hAe C hP hS dX10_wed_57 (by simp [weR, cq1, hcl_gg, cq2, hcl_mm, cq3])
      · skip
        refine lv_ldc hx hb hown k3 dX10_wed_28 ?_
        have hP : va_P G.1 vwCl (mW G a (if isG t (nI gg) ∧ isM t (nI mm) ∧ n (44 + cl (nI gg)) = -1 ∧ n (44 + cl (nI mm)) = -1 then rmI i un else i) j t r (if isG t (nI gg) ∧ isM t (nI mm) ∧ n (44 + cl (nI gg)) = -1 ∧ n (44 + cl (nI mm)) = -1 then wedF n (cl (nI gg)) (cl (nI mm)) else n) d (if isG t (nI gg) ∧ isM t (nI mm) ∧ n (44 + cl (nI gg)) = -1 ∧ n (44 + cl (nI mm)) = -1 then rmP n ps un else ps) im kp tx cd bk py pt mt) zs.heap := by rw [show (if isG t (nI gg) ∧ isM t (nI mm) ∧ n (44 + cl (nI gg)) = -1 ∧ n (44 + cl (nI mm)) = -1 then rmI i un else i) = i from by first | rfl | simp [cq1, hcl_gg, cq2, hcl_mm, cq3], show (if isG t (nI gg) ∧ isM t (nI mm) ∧ n (44 + cl (nI gg)) = -1 ∧ n (44 + cl (nI mm)) = -1 then wedF n (cl (nI gg)) (cl (nI mm)) else n) = n from by first | rfl | simp [cq1, hcl_gg, cq2, hcl_mm, cq3], show (if isG t (nI gg) ∧ isM t (nI mm) ∧ n (44 + cl (nI gg)) = -1 ∧ n (44 + cl (nI mm)) = -1 then rmP n ps un else ps) = ps from by first | rfl | simp [cq1, hcl_gg, cq2, hcl_mm, cq3]]; exact hP
        exact mX_iret hAe C hP hS dX10_wed_30 (by simp [weR, cq1, hcl_gg, cq2, hcl_mm, cq3])
    · skip
      refine lv_ldc hx hb hown k0 dX10_wed_16 ?_
      have hP : va_P G.1 vwCl (mW G a (if isG t (nI gg) ∧ isM t m ∧ n (44 + cl (nI gg)) = -1 ∧ n (44 + cl m) = -1 then rmI i un else i) j t r (if isG t (nI gg) ∧ isM t m ∧ n (44 + cl (nI gg)) = -1 ∧ n (44 + cl m) = -1 then wedF n (cl (nI gg)) (cl m) else n) d (if isG t (nI gg) ∧ isM t m ∧ n (44 + cl (nI gg)) = -1 ∧ n (44 + cl m) = -1 then rmP n ps un else ps) im kp tx cd bk py pt mt) zs.heap := by rw [show (if isG t (nI gg) ∧ isM t m ∧ n (44 + cl (nI gg)) = -1 ∧ n (44 + cl m) = -1 then rmI i un else i) = i from by first | rfl | simp [cq1, hcl_gg, cq2], show (if isG t (nI gg) ∧ isM t m ∧ n (44 + cl (nI gg)) = -1 ∧ n (44 + cl m) = -1 then wedF n (cl (nI gg)) (cl m) else n) = n from by first | rfl | simp [cq1, hcl_gg, cq2], show (if isG t (nI gg) ∧ isM t m ∧ n (44 + cl (nI gg)) = -1 ∧ n (44 + cl m) = -1 then rmP n ps un else ps) = ps from by first | rfl | simp [cq1, hcl_gg, cq2]]; exact hP
      exact mX_iret hAe C hP hS dX10_wed_18 (by simp [weR, cq1, hcl_gg, cq2])
theorem hd_X10_divorce : yX10_divorce.cls = RX10 ∧ yX10_divorce.cls ≠ "java/lang/invoke/MethodHandle" ∧ yX10_divorce.cls ≠ "java/lang/invoke/VarHandle" ∧ (parseMethodDescriptor yX10_divorce.desc).map (fun d => d.parameters.length) = some 1 := by decide +kernel
set_option maxRecDepth 100000 in
set_option maxHeartbeats 4000000 in
theorem c_X10_divorce (l : Launch) (G : gG) (a : Nat → Nat) (i : Nat → Int32) (j : Nat → Int32) (t : Nat → Int32) (r : Nat → Int32) (n : Nat → Int32) (d : Nat → Int32) (ps : Nat → Int32) (im : Nat → Int32) (kp : Nat → Int32) (tx : Nat → Int32) (cd : Nat → Int32) (bk : Nat → Int32) (py : Nat → Int32) (pt : Nat → Int32) (mt : Nat → Int32) (nc : Nat) (np : Nat) (un : Nat) (g : Int32) (hT : tw t nc np) (hun : i 5 = nI un) (hul : un ≤ 30) (hM : mateOK n) : mX l yX10_divorce wsX10_divorce ({ frames := 3, cells := 0, slots := 0, locals := 67 }) G (mW G a i j t r n d ps im kp tx cd bk py pt mt) (mW G a (if isG t g ∧ ¬ n (44 + cl g) = -1 then rmI i un else i) j t r (if isG t g ∧ ¬ n (44 + cl g) = -1 then divF n (cl g) (cl (n (44 + cl g))) else n) d (if isG t g ∧ ¬ n (44 + cl g) = -1 then rmP n ps un else ps) im kp tx cd bk py pt mt) [.ref (a 0), .int g] (.returned (some (.int (dvR t n g)))) := by
  refine mX.of (cc := cX10_divorce) (maxL := 5) (ret := (some .int)) (by decide) rfl (Nat.le_of_ble_eq_true rfl) ?_
  intro zp ze zs zm zb zt zc ls A hAe C hP hK hD hS hl
  obtain ⟨hx, hb, hr, hml, hown, hts, hlk⟩ := id C
  have hl : lv_has ls 5 [(0, .ref (a 0)), (1, .int g)] := hl
  have hT2 := hT.2.2
  have k0 := hts (.fieldLink RX10 16 "DebtDowryModel" "now" "[I") (by decide +kernel)
  have k1 := (fun w h => by revert w; decide +kernel : ∀ w ∈ wsX100, w ∈ wsX10_divorce)
  have k2 := hts (.constant RX10 193 (-1000000003)) (by decide +kernel)
  have k3 := hts (.constant RX10 175 (-1000000001)) (by decide +kernel)
  refine lv_aload_n hx hb dX10_divorce_0 rfl (lv_at hl 0 rfl) ?_
  refine lv_iload_n hx hb dX10_divorce_1 rfl (lv_at hl 1 rfl) ?_
  refine cR_V (Cn := RX10) (n := 1) (As := [.int g]) (rest := []) C (c_X10_isGirl l G a i j t r n d ps im kp tx cd bk py pt mt  g ) gX10_divorce_X10_isGirl rfl ⟨rfl, rfl⟩ hd_X10_isGirl ⟨(Nat.le_of_ble_eq_true rfl), (Nat.le_of_ble_eq_true rfl)⟩ hK hP (va_recv hK hP (ci := 10) (q0 := 0) rfl rfl) rfl hl.1 rfl (Nat.le_of_ble_eq_true rfl) dX10_divorce_2 ⟨(Nat.le_of_ble_eq_true rfl), (Nat.le_of_ble_eq_true rfl)⟩ ?_
  refine b_if_ne (tgt := 11) hx hb dX10_divorce_5 (by decide) (fun cq1 => ?_) (fun cq1 => ?_)
  · skip
    obtain ⟨gg, hgg, rfl⟩ := inB_nat hT.2.1 (by omega) (And.left cq1)
    have hcl_gg := cl_nI (n := gg) (by omega)
    refine lv_aload_n hx hb dX10_divorce_11 rfl (lv_at hl 0 rfl) ?_
    refine va_get (D := G.1) (ci := 10) (v := .ref (a 3)) (C := RX10) (T := TX10) (N := 25) hx hb hts k1 hown hK hP 0 rfl rfl 2 (by decide) k0 (fun _ h9 => h9) rfl dX10_divorce_12 ?_
    refine lv_bipush (v := 44) hx hb dX10_divorce_15 (by decide) ?_
    refine lv_iload_n hx hb dX10_divorce_17 rfl (lv_at hl 1 rfl) ?_
    refine n_iadd hx hb dX10_divorce_18 (u := 44) (v := gg) rfl rfl (j := 44 + gg) (by omega) ?_
    refine n_iald hx hb hK hP 3 0 rfl rfl (j := 44 + gg) rfl (by omega) (by decide) dX10_divorce_19 ?_
    refine lv_istore_n (lv' := [(2, .int (n (44 + gg))), (0, .ref (a 0)), (1, .int (nI gg))]) hx hb dX10_divorce_20 rfl hl (by decide) rfl (fun ls hl => ?_)
    refine lv_iload_n hx hb dX10_divorce_21 rfl (lv_at hl 0 rfl) ?_
    refine lv_iconst (v := (-1)) hx hb dX10_divorce_22 (by decide) ?_
    refine lv_icmp_ne (tgt := 29) hx hb dX10_divorce_23 (by decide) (fun cq2 => ?_) (fun cq2 => ?_)
    · skip
      obtain ⟨mm, hmm, hme⟩ := (hM gg (by omega)).resolve_left cq2
      have hcl_mm : cl (n (44 + gg)) = mm := by rw [hme]; exact cl_nI (by omega)
      refine lv_aload_n hx hb dX10_divorce_29 rfl (lv_at hl 1 rfl) ?_
      refine cX_V (Cn := RX10) (n := 0) (As := []) (rest := []) (wsn := mW G a (rmI i un) j t r n d (rmP n ps un) im kp tx cd bk py pt mt) C (c_X10_remember l G a i j t r n d ps im kp tx cd bk py pt mt un  hun (by omega)) gX10_divorce_X10_remember rfl ⟨rfl, rfl⟩ hd_X10_remember ⟨(Nat.le_of_ble_eq_true rfl), (Nat.le_of_ble_eq_true rfl)⟩ hK hP hD hS [0, 1, 2, 3, 4, 5, 6, 7, 8, 9, 10, 11, 12, 13] (by decide) rfl (mW_f.trans mW_f.symm) rfl (mW_f.trans mW_f.symm) (va_recv hK hP (ci := 10) (q0 := 0) rfl rfl) rfl hl.1 rfl (Nat.le_of_ble_eq_true rfl) dX10_divorce_30 ⟨(Nat.le_of_ble_eq_true rfl), (Nat.le_of_ble_eq_true rfl)⟩ (fun H locs hP hD hS => ?_)
      refine lv_iconst (v := 0) hx hb dX10_divorce_33 (by decide) ?_
      refine lv_istore_n (lv' := [(3, .int 0), (2, .int (n (44 + gg))), (0, .ref (a 0)), (1, .int (nI gg))]) hx hb dX10_divorce_34 rfl hl (by decide) rfl (fun ls hl => ?_)
      refine wl_X (B := 4) (i0 := 0) (Inv := fun i1 H locs ls => va_P G.1 vwCl (mW G a (rmI i un) j t r (dvU n gg mm i1) d (rmP n ps un) im kp tx cd bk py pt mt) H ∧ va_D A (mW G a (rmI i un) j t r (dvU n gg mm i1) d (rmP n ps un) im kp tx cd bk py pt mt) ∧ va_S A zs.heap H locs ∧ lv_has ls 5 [(0, .ref (a 0)), (1, .int (nI gg)), (2, .int (n (44 + gg))), (3, .int (nI i1))] ∧ True) (by omega) ⟨hP, hD, hS, lv_sub hl [2, 3, 1, 0] (rfl), trivial⟩ ?_
      rintro i1 H locs ls hle35 ⟨hP, hD, hS, hl, -⟩ ih35
      refine lv_iload_n hx hb dX10_divorce_35 rfl (lv_at hl 3 rfl) ?_
      refine lv_iconst (v := 4) hx hb dX10_divorce_36 (by decide) ?_
      refine n_icmp_ge (tgt := 93) hx hb dX10_divorce_37 (by decide) (u := i1) (v := 4) rfl rfl (by omega) (by omega) (fun cq3 => ?_) (fun cq3 => ?_)
      · skip
        obtain rfl : i1 = 4 := by omega
        refine lv_aload_n hx hb dX10_divorce_93 rfl (lv_at hl 0 rfl) ?_
        refine va_get (D := G.1) (ci := 10) (v := .ref (a 3)) (C := RX10) (T := TX10) (N := 25) hx hb hts k1 hown hK hP 0 rfl rfl 2 (by decide) k0 (fun _ h9 => h9) rfl dX10_divorce_94 ?_
        refine lv_bipush (v := 36) hx hb dX10_divorce_97 (by decide) ?_
        refine lv_iload_n hx hb dX10_divorce_99 rfl (lv_at hl 2 rfl) ?_
        refine n_iadd hx hb dX10_divorce_100 (u := 36) (v := mm) rfl hme (j := 36 + mm) (by omega) ?_
        refine lv_aload_n hx hb dX10_divorce_101 rfl (lv_at hl 0 rfl) ?_
        refine va_get (D := G.1) (ci := 10) (v := .ref (a 3)) (C := RX10) (T := TX10) (N := 25) hx hb hts k1 hown hK hP 0 rfl rfl 2 (by decide) k0 (fun _ h9 => h9) rfl dX10_divorce_102 ?_
        refine lv_bipush (v := 36) hx hb dX10_divorce_105 (by decide) ?_
        refine lv_iload_n hx hb dX10_divorce_107 rfl (lv_at hl 1 rfl) ?_
        refine n_iadd hx hb dX10_divorce_108 (u := 36) (v := gg) rfl rfl (j := 36 + gg) (by omega) ?_
        refine n_iald hx hb hK hP 3 0 rfl rfl (j := 36 + gg) rfl (by omega) (by decide) dX10_divorce_109 ?_
        refine n_iast hx hb hK hP hD hS 3 0 rfl rfl (x := ((dvU n gg mm 4) (36 + gg))) (j := 36 + mm) rfl (by omega) (by decide) dX10_divorce_110 (wsn := mW G a (rmI i un) j t r (upd (dvU n gg mm 4) (36 + mm) ((dvU n gg mm 4) (36 + gg))) d (rmP n ps un) im kp tx cd bk py pt mt) rfl (fun H locs hP hD hS => ?_)
        refine lv_aload_n hx hb dX10_divorce_111 rfl (lv_at hl 0 rfl) ?_
        refine va_get (D := G.1) (ci := 10) (v := .ref (a 3)) (C := RX10) (T := TX10) (N := 25) hx hb hts k1 hown hK hP 0 rfl rfl 2 (by decide) k0 (fun _ h9 => h9) rfl dX10_divorce_112 ?_
        refine lv_bipush (v := 44) hx hb dX10_divorce_115 (by decide) ?_
        refine lv_iload_n hx hb dX10_divorce_117 rfl (lv_at hl 1 rfl) ?_
        refine n_iadd hx hb dX10_divorce_118 (u := 44) (v := gg) rfl rfl (j := 44 + gg) (by omega) ?_
        refine lv_iconst (v := (-1)) hx hb dX10_divorce_119 (by decide) ?_
        refine n_iast hx hb hK hP hD hS 3 0 rfl rfl (x := (-1)) (j := 44 + gg) rfl (by omega) (by decide) dX10_divorce_120 (wsn := mW G a (rmI i un) j t r (upd (upd (dvU n gg mm 4) (36 + mm) ((dvU n gg mm 4) (36 + gg))) (44 + gg) (-1)) d (rmP n ps un) im kp tx cd bk py pt mt) rfl (fun H locs hP hD hS => ?_)
        refine lv_aload_n hx hb dX10_divorce_121 rfl (lv_at hl 0 rfl) ?_
        refine va_get (D := G.1) (ci := 10) (v := .ref (a 3)) (C := RX10) (T := TX10) (N := 25) hx hb hts k1 hown hK hP 0 rfl rfl 2 (by decide) k0 (fun _ h9 => h9) rfl dX10_divorce_122 ?_
        refine lv_bipush (v := 44) hx hb dX10_divorce_125 (by decide) ?_
        refine lv_iload_n hx hb dX10_divorce_127 rfl (lv_at hl 2 rfl) ?_
        refine n_iadd hx hb dX10_divorce_128 (u := 44) (v := mm) rfl hme (j := 44 + mm) (by omega) ?_
        refine lv_iconst (v := (-1)) hx hb dX10_divorce_129 (by decide) ?_
        refine n_iast hx hb hK hP hD hS 3 0 rfl rfl (x := (-1)) (j := 44 + mm) rfl (by omega) (by decide) dX10_divorce_130 (wsn := mW G a (rmI i un) j t r (upd (upd (upd (dvU n gg mm 4) (36 + mm) ((dvU n gg mm 4) (36 + gg))) (44 + gg) (-1)) (44 + mm) (-1)) d (rmP n ps un) im kp tx cd bk py pt mt) rfl (fun H locs hP hD hS => ?_)
        refine lv_aload_n hx hb dX10_divorce_131 rfl (lv_at hl 0 rfl) ?_
        refine lv_aload_n hx hb dX10_divorce_132 rfl (lv_at hl 0 rfl) ?_
        refine va_get (D := G.1) (ci := 10) (v := .ref (a 3)) (C := RX10) (T := TX10) (N := 25) hx hb hts k1 hown hK hP 0 rfl rfl 2 (by decide) k0 (fun _ h9 => h9) rfl dX10_divorce_133 ?_
        refine lv_iload_n hx hb dX10_divorce_136 rfl (lv_at hl 2 rfl) ?_
        refine cR_V (Cn := RX10) (n := 2) (As := [.ref (a 3), .int (nI mm)]) (rest := []) C (c_X10_sumOf_n l G a (rmI i un) j t r (upd (upd (upd (dvU n gg mm 4) (36 + mm) ((dvU n gg mm 4) (36 + gg))) (44 + gg) (-1)) (44 + mm) (-1)) d (rmP n ps un) im kp tx cd bk py pt mt  mm (by omega)) gX10_divorce_X10_sumOf rfl ⟨rfl, rfl⟩ hd_X10_sumOf ⟨(Nat.le_of_ble_eq_true rfl), (Nat.le_of_ble_eq_true rfl)⟩ hK hP (va_recv hK hP (ci := 10) (q0 := 0) rfl rfl) rfl hl.1 (by rw [show (n (44 + gg) : Int32) = nI mm from hme]; rfl) (Nat.le_of_ble_eq_true rfl) dX10_divorce_137 ⟨(Nat.le_of_ble_eq_true rfl), (Nat.le_of_ble_eq_true rfl)⟩ ?_
        have hP : va_P G.1 vwCl (mW G a (if isG t (nI gg) ∧ ¬ n (44 + cl (nI gg)) = -1 then rmI i un else i) j t r (if isG t (nI gg) ∧ ¬ n (44 + cl (nI gg)) = -1 then divF n (cl (nI gg)) (cl (n (44 + cl (nI gg)))) else n) d (if isG t (nI gg) ∧ ¬ n (44 + cl (nI gg)) = -1 then rmP n ps un else ps) im kp tx cd bk py pt mt) H := by rw [show (if isG t (nI gg) ∧ ¬ n (44 + cl (nI gg)) = -1 then rmI i un else i) = (rmI i un) from by simp [cq1, hcl_gg, cq2, hcl_mm, cq3, divF, dv1], show (if isG t (nI gg) ∧ ¬ n (44 + cl (nI gg)) = -1 then divF n (cl (nI gg)) (cl (n (44 + cl (nI gg)))) else n) = (upd (upd (upd (dvU n gg mm 4) (36 + mm) ((dvU n gg mm 4) (36 + gg))) (44 + gg) (-1)) (44 + mm) (-1)) from by simp [cq1, hcl_gg, cq2, hcl_mm, cq3, divF, dv1], show (if isG t (nI gg) ∧ ¬ n (44 + cl (nI gg)) = -1 then rmP n ps un else ps) = (rmP n ps un) from by simp [cq1, hcl_gg, cq2, hcl_mm, cq3, divF, dv1]]; exact hP
        exact mX_iret hAe C hP hS dX10_divorce_140 (by simp [dvR, cq1, hcl_gg, cq2, hcl_mm, cq3, divF, dv1])
      · skip
        refine lv_aload_n hx hb dX10_divorce_40 rfl (lv_at hl 0 rfl) ?_
        refine va_get (D := G.1) (ci := 10) (v := .ref (a 3)) (C := RX10) (T := TX10) (N := 25) hx hb hts k1 hown hK hP 0 rfl rfl 2 (by decide) k0 (fun _ h9 => h9) rfl dX10_divorce_41 ?_
        refine lv_iconst (v := 0) hx hb dX10_divorce_44 (by decide) ?_
        refine lv_iconst (v := 4) hx hb dX10_divorce_45 (by decide) ?_
        refine lv_iload_n hx hb dX10_divorce_46 rfl (lv_at hl 1 rfl) ?_
        refine n_imul hx hb dX10_divorce_47 (u := 4) (v := gg) rfl rfl (j := 4 * gg) (by omega) ?_
        refine n_iadd hx hb dX10_divorce_48 (u := 0) (v := 4 * gg) rfl rfl (j := 4 * gg) (by omega) ?_
        refine lv_iload_n hx hb dX10_divorce_49 rfl (lv_at hl 3 rfl) ?_
        refine n_iadd hx hb dX10_divorce_50 (u := 4 * gg) (v := i1) rfl rfl (j := (4 * gg) + i1) (by omega) ?_
        refine n_iald hx hb hK hP 3 0 rfl rfl (j := (4 * gg) + i1) rfl (by omega) (by decide) dX10_divorce_51 ?_
        refine lv_iconst (v := 2) hx hb dX10_divorce_52 (by decide) ?_
        refine lv_idiv hx hb dX10_divorce_53 (by decide) ?_
        refine lv_istore (lv' := [(4, .int (((dvU n gg mm i1) ((4 * gg) + i1)) / 2)), (0, .ref (a 0)), (1, .int (nI gg)), (2, .int (n (44 + gg))), (3, .int (nI i1))]) hx hb dX10_divorce_54 hl (by decide) rfl (fun ls hl => ?_)
        refine lv_aload_n hx hb dX10_divorce_56 rfl (lv_at hl 1 rfl) ?_
        refine va_get (D := G.1) (ci := 10) (v := .ref (a 3)) (C := RX10) (T := TX10) (N := 25) hx hb hts k1 hown hK hP 0 rfl rfl 2 (by decide) k0 (fun _ h9 => h9) rfl dX10_divorce_57 ?_
        refine lv_iconst (v := 0) hx hb dX10_divorce_60 (by decide) ?_
        refine lv_iconst (v := 4) hx hb dX10_divorce_61 (by decide) ?_
        refine lv_iload_n hx hb dX10_divorce_62 rfl (lv_at hl 3 rfl) ?_
        refine n_imul hx hb dX10_divorce_63 (u := 4) (v := mm) rfl hme (j := 4 * mm) (by omega) ?_
        refine n_iadd hx hb dX10_divorce_64 (u := 0) (v := 4 * mm) rfl rfl (j := 4 * mm) (by omega) ?_
        refine lv_iload_n hx hb dX10_divorce_65 rfl (lv_at hl 4 rfl) ?_
        refine n_iadd hx hb dX10_divorce_66 (u := 4 * mm) (v := i1) rfl rfl (j := (4 * mm) + i1) (by omega) ?_
        refine lv_iload hx hb dX10_divorce_67 (lv_at hl 0 rfl) ?_
        refine n_iast hx hb hK hP hD hS 3 0 rfl rfl (x := (((dvU n gg mm i1) ((4 * gg) + i1)) / 2)) (j := (4 * mm) + i1) rfl (by omega) (by decide) dX10_divorce_69 (wsn := mW G a (rmI i un) j t r (upd (dvU n gg mm i1) ((4 * mm) + i1) (((dvU n gg mm i1) ((4 * gg) + i1)) / 2)) d (rmP n ps un) im kp tx cd bk py pt mt) rfl (fun H locs hP hD hS => ?_)
        refine lv_aload_n hx hb dX10_divorce_70 rfl (lv_at hl 1 rfl) ?_
        refine va_get (D := G.1) (ci := 10) (v := .ref (a 3)) (C := RX10) (T := TX10) (N := 25) hx hb hts k1 hown hK hP 0 rfl rfl 2 (by decide) k0 (fun _ h9 => h9) rfl dX10_divorce_71 ?_
        refine lv_iconst (v := 0) hx hb dX10_divorce_74 (by decide) ?_
        refine lv_iconst (v := 4) hx hb dX10_divorce_75 (by decide) ?_
        refine lv_iload_n hx hb dX10_divorce_76 rfl (lv_at hl 2 rfl) ?_
        refine n_imul hx hb dX10_divorce_77 (u := 4) (v := gg) rfl rfl (j := 4 * gg) (by omega) ?_
        refine n_iadd hx hb dX10_divorce_78 (u := 0) (v := 4 * gg) rfl rfl (j := 4 * gg) (by omega) ?_
        refine lv_iload_n hx hb dX10_divorce_79 rfl (lv_at hl 4 rfl) ?_
        refine n_iadd hx hb dX10_divorce_80 (u := 4 * gg) (v := i1) rfl rfl (j := (4 * gg) + i1) (by omega) ?_
        refine lv_dup2_11 hx hb dX10_divorce_81 rfl rfl ?_
        refine n_iald hx hb hK hP 3 0 rfl rfl (j := (4 * gg) + i1) rfl (by omega) (by decide) dX10_divorce_82 ?_
        refine lv_iload hx hb dX10_divorce_83 (lv_at hl 0 rfl) ?_
        refine lv_isub hx hb dX10_divorce_85 ?_
        refine n_iast hx hb hK hP hD hS 3 0 rfl rfl (x := (((upd (dvU n gg mm i1) ((4 * mm) + i1) (((dvU n gg mm i1) ((4 * gg) + i1)) / 2)) ((4 * gg) + i1)) - (((dvU n gg mm i1) ((4 * gg) + i1)) / 2))) (j := (4 * gg) + i1) rfl (by omega) (by decide) dX10_divorce_86 (wsn := mW G a (rmI i un) j t r (upd (upd (dvU n gg mm i1) ((4 * mm) + i1) (((dvU n gg mm i1) ((4 * gg) + i1)) / 2)) ((4 * gg) + i1) (((upd (dvU n gg mm i1) ((4 * mm) + i1) (((dvU n gg mm i1) ((4 * gg) + i1)) / 2)) ((4 * gg) + i1)) - (((dvU n gg mm i1) ((4 * gg) + i1)) / 2))) d (rmP n ps un) im kp tx cd bk py pt mt) rfl (fun H locs hP hD hS => ?_)
        refine lv_iinc (v := nI (i1 + 1)) (lv' := [(3, .int (nI (i1 + 1))), (4, .int (((dvU n gg mm i1) ((4 * gg) + i1)) / 2)), (0, .ref (a 0)), (1, .int (nI gg)), (2, .int (n (44 + gg)))]) hx hb dX10_divorce_87 hl (k := 4) rfl (by rw [show (nI i1 : Int32) = nI i1 from rfl]; exact nI_add _ 1) (by decide) rfl (fun ls hl => ?_)
        refine lv_goto (tgt := 35) hx hb dX10_divorce_90 (by decide) ?_
        have e4 : (upd (upd (dvU n gg mm i1) ((4 * mm) + i1) (((dvU n gg mm i1) ((4 * gg) + i1)) / 2)) ((4 * gg) + i1) (((upd (dvU n gg mm i1) ((4 * mm) + i1) (((dvU n gg mm i1) ((4 * gg) + i1)) / 2)) ((4 * gg) + i1)) - (((dvU n gg mm i1) ((4 * gg) + i1)) / 2))) = dvU n gg mm (i1 + 1) := rfl
        rw [e4] at hP hD
        exact ih35 _ _ _ (by omega) ⟨hP, hD, hS, lv_sub hl [2, 3, 4, 0] (rfl), trivial⟩
    · skip
      refine lv_ldc hx hb hown k2 dX10_divorce_26 ?_
      have hP : va_P G.1 vwCl (mW G a (if isG t (nI gg) ∧ ¬ n (44 + cl (nI gg)) = -1 then rmI i un else i) j t r (if isG t (nI gg) ∧ ¬ n (44 + cl (nI gg)) = -1 then divF n (cl (nI gg)) (cl (n (44 + cl (nI gg)))) else n) d (if isG t (nI gg) ∧ ¬ n (44 + cl (nI gg)) = -1 then rmP n ps un else ps) im kp tx cd bk py pt mt) zs.heap := by rw [show (if isG t (nI gg) ∧ ¬ n (44 + cl (nI gg)) = -1 then rmI i un else i) = i from by simp [cq1, hcl_gg, cq2], show (if isG t (nI gg) ∧ ¬ n (44 + cl (nI gg)) = -1 then divF n (cl (nI gg)) (cl (n (44 + cl (nI gg)))) else n) = n from by simp [cq1, hcl_gg, cq2], show (if isG t (nI gg) ∧ ¬ n (44 + cl (nI gg)) = -1 then rmP n ps un else ps) = ps from by simp [cq1, hcl_gg, cq2]]; exact hP
      exact mX_iret hAe C hP hS dX10_divorce_28 (by simp [dvR, cq1, hcl_gg, cq2])
  · skip
    refine lv_ldc hx hb hown k3 dX10_divorce_8 ?_
    have hP : va_P G.1 vwCl (mW G a (if isG t g ∧ ¬ n (44 + cl g) = -1 then rmI i un else i) j t r (if isG t g ∧ ¬ n (44 + cl g) = -1 then divF n (cl g) (cl (n (44 + cl g))) else n) d (if isG t g ∧ ¬ n (44 + cl g) = -1 then rmP n ps un else ps) im kp tx cd bk py pt mt) zs.heap := by rw [show (if isG t g ∧ ¬ n (44 + cl g) = -1 then rmI i un else i) = i from by simp [cq1], show (if isG t g ∧ ¬ n (44 + cl g) = -1 then divF n (cl g) (cl (n (44 + cl g))) else n) = n from by simp [cq1], show (if isG t g ∧ ¬ n (44 + cl g) = -1 then rmP n ps un else ps) = ps from by simp [cq1]]; exact hP
    exact mX_iret hAe C hP hS dX10_divorce_10 (by simp [dvR, cq1])
theorem hd_X10_draw : yX10_draw.cls = RX10 ∧ yX10_draw.cls ≠ "java/lang/invoke/MethodHandle" ∧ yX10_draw.cls ≠ "java/lang/invoke/VarHandle" ∧ (parseMethodDescriptor yX10_draw.desc).map (fun d => d.parameters.length) = some 1 := by decide +kernel
set_option maxRecDepth 100000 in
set_option maxHeartbeats 4000000 in
theorem c_X10_draw (l : Launch) (G : gG) (a : Nat → Nat) (i : Nat → Int32) (j : Nat → Int32) (t : Nat → Int32) (r : Nat → Int32) (n : Nat → Int32) (d : Nat → Int32) (ps : Nat → Int32) (im : Nat → Int32) (kp : Nat → Int32) (tx : Nat → Int32) (cd : Nat → Int32) (bk : Nat → Int32) (py : Nat → Int32) (pt : Nat → Int32) (mt : Nat → Int32) (sd : Nat) (k : Nat) (hk0 : 0 < k) (hk : k < 2147483648) (hsd : i 8 = nI sd) (hs : sd < 2147483648) : mX l yX10_draw wsX10_draw ({ frames := 0, cells := 0, slots := 0, locals := 0 }) G (mW G a i j t r n d ps im kp tx cd bk py pt mt) (mW G a (upd i 8 (nI (nxtN sd))) j t r n d ps im kp tx cd bk py pt mt) [.ref (a 0), .int (nI k)] (.returned (some (.int (nI (drN sd k))))) := by
  refine mX.of (cc := cX10_draw) (maxL := 2) (ret := (some .int)) (by decide) rfl (Nat.le_of_ble_eq_true rfl) ?_
  intro zp ze zs zm zb zt zc ls A hAe C hP hK hD hS hl
  obtain ⟨hx, hb, hr, hml, hown, hts, hlk⟩ := id C
  have hl : lv_has ls 2 [(0, .ref (a 0)), (1, .int (nI k))] := hl
  have k0 := hts (.fieldLink RX10 225 "DebtDowryModel" "seed" "J") (by decide +kernel)
  have k1 := (fun w h => by revert w; decide +kernel : ∀ w ∈ wsX100, w ∈ wsX10_draw)
  have k2 := hts (.constantLong RX10 229 (1103515245)) (by decide +kernel)
  have k3 := hts (.constantLong RX10 231 (12345)) (by decide +kernel)
  have k4 := hts (.constantLong RX10 233 (2147483648)) (by decide +kernel)
  have k5 := hts (.constantLong RX10 235 (65536)) (by decide +kernel)
  refine lv_aload_n hx hb dX10_draw_0 rfl (lv_at hl 0 rfl) ?_
  refine lv_aload_n hx hb dX10_draw_1 rfl (lv_at hl 0 rfl) ?_
  refine va_get (D := G.1) (ci := 10) (v := .long ((i 8).toInt64)) (C := RX10) (T := TX10) (N := 25) hx hb hts k1 hown hK hP 0 rfl rfl 8 (by decide) k0 (fun _ h9 => h9) rfl dX10_draw_2 ?_
  refine lv_ldc2 hx hb hown k2 dX10_draw_5 ?_
  refine lv_lmul hx hb dX10_draw_8 ?_
  refine lv_ldc2 hx hb hown k3 dX10_draw_9 ?_
  refine lv_ladd hx hb dX10_draw_12 ?_
  refine lv_ldc2 hx hb hown k4 dX10_draw_13 ?_
  refine lv_lrem hx hb dX10_draw_16 (by decide) ?_
  rw [hsd, draw_eq hs]
  refine n_put (D := G.1) (wsn := mW G a (upd i 8 (nI (nxtN sd))) j t r n d ps im kp tx cd bk py pt mt) (ci := 10) (v := .long ((nI (nxtN sd)).toInt64)) (ty := .long) (C := RX10) (T := TX10) (N := 25) hx hb hts k1 tyX10 tyX10_ok nmX10 hown hK hP hD hS 0 rfl rfl 8 (by decide) k0 (fun _ h9 => h9) rfl (by decide +kernel) rfl rfl (Nat.le_of_ble_eq_true rfl) rfl dX10_draw_17 (fun H locs hP hD hS => ?_)
  refine lv_aload_n hx hb dX10_draw_20 rfl (lv_at hl 0 rfl) ?_
  refine va_get (D := G.1) (ci := 10) (v := .long ((nI (nxtN sd)).toInt64)) (C := RX10) (T := TX10) (N := 25) hx hb hts k1 hown hK hP 0 rfl rfl 8 (by decide) k0 (fun _ h9 => h9) rfl dX10_draw_21 ?_
  refine lv_ldc2 hx hb hown k5 dX10_draw_24 ?_
  refine lv_ldiv hx hb dX10_draw_27 (by decide) ?_
  refine lv_iload_n hx hb dX10_draw_28 rfl (lv_at hl 1 rfl) ?_
  refine lv_i2l (v := (nI k).toInt64) hx hb dX10_draw_29 rfl ?_
  refine lv_lrem hx hb dX10_draw_30 (ne0_l hk0 hk) ?_
  refine lv_l2i (v := ((((nI (nxtN sd)).toInt64) / 65536) - (((nI (nxtN sd)).toInt64) / 65536) / ((nI k).toInt64) * ((nI k).toInt64)).toInt32) hx hb dX10_draw_31 rfl ?_
  exact mX_iret hAe C hP hS dX10_draw_32 (draw_eq2 hk0 hk)
theorem hd_X10_undo : yX10_undo.cls = RX10 ∧ yX10_undo.cls ≠ "java/lang/invoke/MethodHandle" ∧ yX10_undo.cls ≠ "java/lang/invoke/VarHandle" ∧ (parseMethodDescriptor yX10_undo.desc).map (fun d => d.parameters.length) = some 1 := by decide +kernel
set_option maxRecDepth 100000 in
set_option maxHeartbeats 4000000 in
theorem c_X10_undo (l : Launch) (G : gG) (a : Nat → Nat) (i : Nat → Int32) (j : Nat → Int32) (t : Nat → Int32) (r : Nat → Int32) (n : Nat → Int32) (d : Nat → Int32) (ps : Nat → Int32) (im : Nat → Int32) (kp : Nat → Int32) (tx : Nat → Int32) (cd : Nat → Int32) (bk : Nat → Int32) (py : Nat → Int32) (pt : Nat → Int32) (mt : Nat → Int32) (un : Nat) (x : Int32) (hun : i 5 = nI un) (hul : un ≤ 30) : mX l yX10_undo wsX10_undo ({ frames := 1, cells := 0, slots := 0, locals := 25 }) G (mW G a i j t r n d ps im kp tx cd bk py pt mt) (mW G a (if okUn un x then upd i 5 (nI (un - cl x)) else i) j t r (if okUn un x then va_cpy ps n (54 * (un - cl x)) 0 54 else n) d ps im kp tx cd bk py pt mt) [.ref (a 0), .int x] (.returned (some (.int (unR n ps un x)))) := by
  refine mX.of (cc := cX10_undo) (maxL := 2) (ret := (some .int)) (by decide) rfl (Nat.le_of_ble_eq_true rfl) ?_
  intro zp ze zs zm zb zt zc ls A hAe C hP hK hD hS hl
  obtain ⟨hx, hb, hr, hml, hown, hts, hlk⟩ := id C
  have hl : lv_has ls 2 [(0, .ref (a 0)), (1, .int x)] := hl
  have k0 := hts (.constantLong RX10 240 (30)) (by decide +kernel)
  have k1 := hts (.fieldLink RX10 69 "DebtDowryModel" "undos" "I") (by decide +kernel)
  have k2 := (fun w h => by revert w; decide +kernel : ∀ w ∈ wsX100, w ∈ wsX10_undo)
  have k3 := hts (.fieldLink RX10 22 "DebtDowryModel" "past" "[I") (by decide +kernel)
  have k4 := hts (.fieldLink RX10 16 "DebtDowryModel" "now" "[I") (by decide +kernel)
  have k5 := hts (.constant RX10 193 (-1000000003)) (by decide +kernel)
  have k6 := hts (.constant RX10 80 (-1000000002)) (by decide +kernel)
  refine lv_iload_n hx hb dX10_undo_0 rfl (lv_at hl 1 rfl) ?_
  refine lv_i2l (v := x.toInt64) hx hb dX10_undo_1 rfl ?_
  refine lv_lconst (v := 1) hx hb dX10_undo_2 (by decide) ?_
  refine lv_ldc2 hx hb hown k0 dX10_undo_3 ?_
  refine cR_S (n := 3) (As := [.long x.toInt64, .long 1, .long 30]) (rest := []) C (c_X10_in l G    x x.toInt64 rfl 1 1 rfl 30 30 rfl ) gX10_undo_X10_in rfl ⟨rfl, rfl⟩ hd_X10_in ⟨(Nat.le_of_ble_eq_true rfl), (Nat.le_of_ble_eq_true rfl)⟩ hK (hP.sub [] rfl) rfl hl.1 rfl (Nat.le_of_ble_eq_true rfl) dX10_undo_6 ⟨(Nat.le_of_ble_eq_true rfl), (Nat.le_of_ble_eq_true rfl)⟩ ?_
  refine b_if_ne (tgt := 15) hx hb dX10_undo_9 (by decide) (fun cq1 => ?_) (fun cq1 => ?_)
  · skip
    obtain ⟨kk, hkk1, hkk2, rfl⟩ := inB_rng (a := 1) (b := 30) rfl rfl (by decide) (by decide) (cq1)
    have hcl_kk := cl_nI (n := kk) (by omega)
    refine lv_aload_n hx hb dX10_undo_15 rfl (lv_at hl 0 rfl) ?_
    refine va_get (D := G.1) (ci := 10) (v := .int (i 5)) (C := RX10) (T := TX10) (N := 25) hx hb hts k2 hown hK hP 0 rfl rfl 5 (by decide) k1 (fun _ h9 => h9) rfl dX10_undo_16 ?_
    refine lv_iload_n hx hb dX10_undo_19 rfl (lv_at hl 1 rfl) ?_
    refine n_icmp_ge (tgt := 26) hx hb dX10_undo_20 (by decide) (u := un) (v := kk) hun rfl (by omega) (by omega) (fun cq2 => ?_) (fun cq2 => ?_)
    · skip
      refine lv_aload_n hx hb dX10_undo_26 rfl (lv_at hl 0 rfl) ?_
      refine lv_dup hx hb dX10_undo_27 rfl ?_
      refine va_get (D := G.1) (ci := 10) (v := .int (i 5)) (C := RX10) (T := TX10) (N := 25) hx hb hts k2 hown hK hP 0 rfl rfl 5 (by decide) k1 (fun _ h9 => h9) rfl dX10_undo_28 ?_
      refine lv_iload_n hx hb dX10_undo_31 rfl (lv_at hl 1 rfl) ?_
      refine n_isub hx hb dX10_undo_32 (u := un) (v := kk) hun rfl (by omega) (j := un - kk) (by omega) ?_
      refine n_put (D := G.1) (wsn := mW G a (upd i 5 (nI (un - kk))) j t r n d ps im kp tx cd bk py pt mt) (ci := 10) (v := .int (nI (un - kk))) (ty := .int) (C := RX10) (T := TX10) (N := 25) hx hb hts k2 tyX10 tyX10_ok nmX10 hown hK hP hD hS 0 rfl rfl 5 (by decide) k1 (fun _ h9 => h9) rfl (by decide +kernel) rfl rfl (Nat.le_of_ble_eq_true rfl) rfl dX10_undo_33 (fun H locs hP hD hS => ?_)
      refine lv_aload_n hx hb dX10_undo_36 rfl (lv_at hl 0 rfl) ?_
      refine va_get (D := G.1) (ci := 10) (v := .ref (a 5)) (C := RX10) (T := TX10) (N := 25) hx hb hts k2 hown hK hP 0 rfl rfl 4 (by decide) k3 (fun _ h9 => h9) rfl dX10_undo_37 ?_
      refine lv_bipush (v := 54) hx hb dX10_undo_40 (by decide) ?_
      refine lv_aload_n hx hb dX10_undo_42 rfl (lv_at hl 0 rfl) ?_
      refine va_get (D := G.1) (ci := 10) (v := .int (nI (un - kk))) (C := RX10) (T := TX10) (N := 25) hx hb hts k2 hown hK hP 0 rfl rfl 5 (by decide) k1 (fun _ h9 => h9) rfl dX10_undo_43 ?_
      refine n_imul hx hb dX10_undo_46 (u := 54) (v := un - kk) rfl rfl (j := 54 * (un - kk)) (by omega) ?_
      refine lv_aload_n hx hb dX10_undo_47 rfl (lv_at hl 0 rfl) ?_
      refine va_get (D := G.1) (ci := 10) (v := .ref (a 3)) (C := RX10) (T := TX10) (N := 25) hx hb hts k2 hown hK hP 0 rfl rfl 2 (by decide) k4 (fun _ h9 => h9) rfl dX10_undo_48 ?_
      refine lv_iconst (v := 0) hx hb dX10_undo_51 (by decide) ?_
      refine lv_bipush (v := 54) hx hb dX10_undo_52 (by decide) ?_
      refine cX_S (n := 5) (As := [.ref (a 5), .int (nI (54 * (un - kk))), .ref (a 3), .int (nI 0), .int (nI 54)]) (rest := []) (wsn := mW G a (upd i 5 (nI (un - kk))) j t r (va_cpy ps n (54 * (un - kk)) 0 54) d ps im kp tx cd bk py pt mt) C (c_X10_copies l G (a 5) (a 3) 1620 54 ps n  (54 * (un - kk)) 0 54 (by omega) (by omega) (by decide)) gX10_undo_X10_copies rfl ⟨rfl, rfl⟩ hd_X10_copies ⟨(Nat.le_of_ble_eq_true rfl), (Nat.le_of_ble_eq_true rfl)⟩ hK hP hD hS [5, 3] (by decide) rfl (cpW_f.trans cpW_f.symm) rfl (mW_f.trans mW_f.symm) rfl hl.1 rfl (Nat.le_of_ble_eq_true rfl) dX10_undo_54 ⟨(Nat.le_of_ble_eq_true rfl), (Nat.le_of_ble_eq_true rfl)⟩ (fun H locs hP hD hS => ?_)
      refine lv_aload_n hx hb dX10_undo_57 rfl (lv_at hl 0 rfl) ?_
      refine va_get (D := G.1) (ci := 10) (v := .ref (a 3)) (C := RX10) (T := TX10) (N := 25) hx hb hts k2 hown hK hP 0 rfl rfl 2 (by decide) k4 (fun _ h9 => h9) rfl dX10_undo_58 ?_
      refine lv_bipush (v := 53) hx hb dX10_undo_61 (by decide) ?_
      refine n_iald hx hb hK hP 3 0 rfl rfl (j := 53) rfl (by decide) (by decide) dX10_undo_63 ?_
      have hP : va_P G.1 vwCl (mW G a (if okUn un (nI kk) then upd i 5 (nI (un - cl (nI kk))) else i) j t r (if okUn un (nI kk) then va_cpy ps n (54 * (un - cl (nI kk))) 0 54 else n) d ps im kp tx cd bk py pt mt) H := by rw [show (if okUn un (nI kk) then upd i 5 (nI (un - cl (nI kk))) else i) = (upd i 5 (nI (un - kk))) from by first | rfl | simp [cq1, hcl_kk, cq2], show (if okUn un (nI kk) then va_cpy ps n (54 * (un - cl (nI kk))) 0 54 else n) = (va_cpy ps n (54 * (un - kk)) 0 54) from by first | rfl | simp [cq1, hcl_kk, cq2]]; exact hP
      exact mX_iret hAe C hP hS dX10_undo_64 (by simp [unR, cq1, hcl_kk, cq2])
    · skip
      have hlt : ¬ kk ≤ un := by omega
      refine lv_ldc hx hb hown k5 dX10_undo_23 ?_
      have hP : va_P G.1 vwCl (mW G a (if okUn un (nI kk) then upd i 5 (nI (un - cl (nI kk))) else i) j t r (if okUn un (nI kk) then va_cpy ps n (54 * (un - cl (nI kk))) 0 54 else n) d ps im kp tx cd bk py pt mt) zs.heap := by rw [show (if okUn un (nI kk) then upd i 5 (nI (un - cl (nI kk))) else i) = i from by first | rfl | simp [cq1, hcl_kk, cq2, hlt], show (if okUn un (nI kk) then va_cpy ps n (54 * (un - cl (nI kk))) 0 54 else n) = n from by first | rfl | simp [cq1, hcl_kk, cq2, hlt]]; exact hP
      exact mX_iret hAe C hP hS dX10_undo_25 (by simp [unR, cq1, hcl_kk, cq2, hlt])
  · skip
    refine lv_ldc hx hb hown k6 dX10_undo_12 ?_
    have hP : va_P G.1 vwCl (mW G a (if okUn un x then upd i 5 (nI (un - cl x)) else i) j t r (if okUn un x then va_cpy ps n (54 * (un - cl x)) 0 54 else n) d ps im kp tx cd bk py pt mt) zs.heap := by rw [show (if okUn un x then upd i 5 (nI (un - cl x)) else i) = i from by first | rfl | simp [cq1], show (if okUn un x then va_cpy ps n (54 * (un - cl x)) 0 54 else n) = n from by first | rfl | simp [cq1]]; exact hP
    exact mX_iret hAe C hP hS dX10_undo_14 (by simp [unR, cq1])
theorem hd_X10_layAside : yX10_layAside.cls = RX10 ∧ yX10_layAside.cls ≠ "java/lang/invoke/MethodHandle" ∧ yX10_layAside.cls ≠ "java/lang/invoke/VarHandle" ∧ (parseMethodDescriptor yX10_layAside.desc).map (fun d => d.parameters.length) = some 0 := by decide +kernel
set_option maxRecDepth 100000 in
set_option maxHeartbeats 4000000 in
theorem c_X10_layAside (l : Launch) (G : gG) (a : Nat → Nat) (i : Nat → Int32) (j : Nat → Int32) (t : Nat → Int32) (r : Nat → Int32) (n : Nat → Int32) (d : Nat → Int32) (ps : Nat → Int32) (im : Nat → Int32) (kp : Nat → Int32) (tx : Nat → Int32) (cd : Nat → Int32) (bk : Nat → Int32) (py : Nat → Int32) (pt : Nat → Int32) (mt : Nat → Int32) : mX l yX10_layAside wsX10_layAside ({ frames := 1, cells := 0, slots := 0, locals := 25 }) G (mW G a i j t r n d ps im kp tx cd bk py pt mt) (mW G a i j t r n (va_cpy n d 0 0 54) ps im kp tx cd bk py pt mt) [.ref (a 0)] (.returned none) := by
  refine mX.of (cc := cX10_layAside) (maxL := 1) (ret := none) (by decide) rfl (Nat.le_of_ble_eq_true rfl) ?_
  intro zp ze zs zm zb zt zc ls A hAe C hP hK hD hS hl
  obtain ⟨hx, hb, hr, hml, hown, hts, hlk⟩ := id C
  have hl : lv_has ls 1 [(0, .ref (a 0))] := hl
  have k0 := hts (.fieldLink RX10 16 "DebtDowryModel" "now" "[I") (by decide +kernel)
  have k1 := (fun w h => by revert w; decide +kernel : ∀ w ∈ wsX100, w ∈ wsX10_layAside)
  have k2 := hts (.fieldLink RX10 19 "DebtDowryModel" "aside" "[I") (by decide +kernel)
  refine lv_aload_n hx hb dX10_layAside_0 rfl (lv_at hl 0 rfl) ?_
  refine va_get (D := G.1) (ci := 10) (v := .ref (a 3)) (C := RX10) (T := TX10) (N := 25) hx hb hts k1 hown hK hP 0 rfl rfl 2 (by decide) k0 (fun _ h9 => h9) rfl dX10_layAside_1 ?_
  refine lv_iconst (v := 0) hx hb dX10_layAside_4 (by decide) ?_
  refine lv_aload_n hx hb dX10_layAside_5 rfl (lv_at hl 0 rfl) ?_
  refine va_get (D := G.1) (ci := 10) (v := .ref (a 4)) (C := RX10) (T := TX10) (N := 25) hx hb hts k1 hown hK hP 0 rfl rfl 3 (by decide) k2 (fun _ h9 => h9) rfl dX10_layAside_6 ?_
  refine lv_iconst (v := 0) hx hb dX10_layAside_9 (by decide) ?_
  refine lv_bipush (v := 54) hx hb dX10_layAside_10 (by decide) ?_
  refine cX_S (n := 5) (As := [.ref (a 3), .int (nI 0), .ref (a 4), .int (nI 0), .int (nI 54)]) (rest := []) (wsn := mW G a i j t r n (va_cpy n d 0 0 54) ps im kp tx cd bk py pt mt) C (c_X10_copies l G (a 3) (a 4) 54 54 n d  0 0 54 (by omega) (by omega) (by decide)) gX10_layAside_X10_copies rfl ⟨rfl, rfl⟩ hd_X10_copies ⟨(Nat.le_of_ble_eq_true rfl), (Nat.le_of_ble_eq_true rfl)⟩ hK hP hD hS [3, 4] (by decide) rfl (cpW_f.trans cpW_f.symm) rfl (mW_f.trans mW_f.symm) rfl hl.1 rfl (Nat.le_of_ble_eq_true rfl) dX10_layAside_12 ⟨(Nat.le_of_ble_eq_true rfl), (Nat.le_of_ble_eq_true rfl)⟩ (fun H locs hP hD hS => ?_)
  exact mX_vret hAe C hP hS dX10_layAside_15
theorem hd_X10_joins : yX10_joins.cls = RX10 ∧ yX10_joins.cls ≠ "java/lang/invoke/MethodHandle" ∧ yX10_joins.cls ≠ "java/lang/invoke/VarHandle" ∧ (parseMethodDescriptor yX10_joins.desc).map (fun d => d.parameters.length) = some 2 := by decide +kernel
set_option maxRecDepth 100000 in
set_option maxHeartbeats 4000000 in
theorem c_X10_joins (l : Launch) (G : gG) (a : Nat → Nat) (i : Nat → Int32) (j : Nat → Int32) (t : Nat → Int32) (r : Nat → Int32) (n : Nat → Int32) (d : Nat → Int32) (ps : Nat → Int32) (im : Nat → Int32) (kp : Nat → Int32) (tx : Nat → Int32) (cd : Nat → Int32) (bk : Nat → Int32) (py : Nat → Int32) (pt : Nat → Int32) (mt : Nat → Int32) (nc : Nat) (np : Nat) (g : Nat) (m : Nat) (hT : tw t nc np) (hg : g < 8) (hm : m < 8) : mX l yX10_joins wsX10_joins ({ frames := 3, cells := 0, slots := 0, locals := 70 }) G (mW G a i j t r n d ps im kp tx cd bk py pt mt) (mW G a i j t r n (wedF (va_cpy n d 0 0 54) g m) ps im kp tx cd bk py pt mt) [.ref (a 0), .int (nI g), .int (nI m)] (.returned (some (.int (stU t (wedF n g m) g nc)))) := by
  refine mX.of (cc := cX10_joins) (maxL := 3) (ret := (some .int)) (by decide) rfl (Nat.le_of_ble_eq_true rfl) ?_
  intro zp ze zs zm zb zt zc ls A hAe C hP hK hD hS hl
  obtain ⟨hx, hb, hr, hml, hown, hts, hlk⟩ := id C
  have hl : lv_has ls 3 [(0, .ref (a 0)), (1, .int (nI g)), (2, .int (nI m))] := hl
  have hT2 := hT.2.2
  have k0 := hts (.fieldLink RX10 19 "DebtDowryModel" "aside" "[I") (by decide +kernel)
  have k1 := (fun w h => by revert w; decide +kernel : ∀ w ∈ wsX100, w ∈ wsX10_joins)
  refine lv_aload_n hx hb dX10_joins_0 rfl (lv_at hl 0 rfl) ?_
  refine cX_V (Cn := RX10) (n := 0) (As := []) (rest := []) (wsn := mW G a i j t r n (va_cpy n d 0 0 54) ps im kp tx cd bk py pt mt) C (c_X10_layAside l G a i j t r n d ps im kp tx cd bk py pt mt   ) gX10_joins_X10_layAside rfl ⟨rfl, rfl⟩ hd_X10_layAside ⟨(Nat.le_of_ble_eq_true rfl), (Nat.le_of_ble_eq_true rfl)⟩ hK hP hD hS [0, 1, 2, 3, 4, 5, 6, 7, 8, 9, 10, 11, 12, 13] (by decide) rfl (mW_f.trans mW_f.symm) rfl (mW_f.trans mW_f.symm) (va_recv hK hP (ci := 10) (q0 := 0) rfl rfl) rfl hl.1 rfl (Nat.le_of_ble_eq_true rfl) dX10_joins_1 ⟨(Nat.le_of_ble_eq_true rfl), (Nat.le_of_ble_eq_true rfl)⟩ (fun H locs hP hD hS => ?_)
  refine lv_aload_n hx hb dX10_joins_4 rfl (lv_at hl 0 rfl) ?_
  refine lv_aload_n hx hb dX10_joins_5 rfl (lv_at hl 0 rfl) ?_
  refine va_get (D := G.1) (ci := 10) (v := .ref (a 4)) (C := RX10) (T := TX10) (N := 25) hx hb hts k1 hown hK hP 0 rfl rfl 3 (by decide) k0 (fun _ h9 => h9) rfl dX10_joins_6 ?_
  refine lv_iload_n hx hb dX10_joins_9 rfl (lv_at hl 1 rfl) ?_
  refine lv_iload_n hx hb dX10_joins_10 rfl (lv_at hl 2 rfl) ?_
  refine cX_V (Cn := RX10) (n := 3) (As := [.ref (a 4), .int (nI g), .int (nI m)]) (rest := []) (wsn := mW G a i j t r n (wedF (va_cpy n d 0 0 54) g m) ps im kp tx cd bk py pt mt) C (c_X10_weds_d l G a i j t r n (va_cpy n d 0 0 54) ps im kp tx cd bk py pt mt  g m (by omega) (by omega)) gX10_joins_X10_weds rfl ⟨rfl, rfl⟩ hd_X10_weds ⟨(Nat.le_of_ble_eq_true rfl), (Nat.le_of_ble_eq_true rfl)⟩ hK hP hD hS [0, 1, 2, 3, 4, 5, 6, 7, 8, 9, 10, 11, 12, 13] (by decide) rfl (mW_f.trans mW_f.symm) rfl (mW_f.trans mW_f.symm) (va_recv hK hP (ci := 10) (q0 := 0) rfl rfl) rfl hl.1 rfl (Nat.le_of_ble_eq_true rfl) dX10_joins_11 ⟨(Nat.le_of_ble_eq_true rfl), (Nat.le_of_ble_eq_true rfl)⟩ (fun H locs hP hD hS => ?_)
  refine lv_aload_n hx hb dX10_joins_14 rfl (lv_at hl 0 rfl) ?_
  refine lv_aload_n hx hb dX10_joins_15 rfl (lv_at hl 0 rfl) ?_
  refine va_get (D := G.1) (ci := 10) (v := .ref (a 4)) (C := RX10) (T := TX10) (N := 25) hx hb hts k1 hown hK hP 0 rfl rfl 3 (by decide) k0 (fun _ h9 => h9) rfl dX10_joins_16 ?_
  refine lv_iload_n hx hb dX10_joins_19 rfl (lv_at hl 1 rfl) ?_
  refine cR_V (Cn := RX10) (n := 2) (As := [.ref (a 4), .int (nI g)]) (rest := []) C (c_X10_standing_d l G a i j t r n (wedF (va_cpy n d 0 0 54) g m) ps im kp tx cd bk py pt mt nc np g hT (by omega)) gX10_joins_X10_standing rfl ⟨rfl, rfl⟩ hd_X10_standing ⟨(Nat.le_of_ble_eq_true rfl), (Nat.le_of_ble_eq_true rfl)⟩ hK hP (va_recv hK hP (ci := 10) (q0 := 0) rfl rfl) rfl hl.1 rfl (Nat.le_of_ble_eq_true rfl) dX10_joins_20 ⟨(Nat.le_of_ble_eq_true rfl), (Nat.le_of_ble_eq_true rfl)⟩ ?_
  exact mX_iret hAe C hP hS dX10_joins_23 (stU_c (wedF_c (cpy54 _ _) hg hm) hg hT2.1)
theorem hd_X10_joined : yX10_joined.cls = RX10 ∧ yX10_joined.cls ≠ "java/lang/invoke/MethodHandle" ∧ yX10_joined.cls ≠ "java/lang/invoke/VarHandle" ∧ (parseMethodDescriptor yX10_joined.desc).map (fun d => d.parameters.length) = some 2 := by decide +kernel
set_option maxRecDepth 100000 in
set_option maxHeartbeats 4000000 in
theorem c_X10_joined (l : Launch) (G : gG) (a : Nat → Nat) (i : Nat → Int32) (j : Nat → Int32) (t : Nat → Int32) (r : Nat → Int32) (n : Nat → Int32) (d : Nat → Int32) (ps : Nat → Int32) (im : Nat → Int32) (kp : Nat → Int32) (tx : Nat → Int32) (cd : Nat → Int32) (bk : Nat → Int32) (py : Nat → Int32) (pt : Nat → Int32) (mt : Nat → Int32) (nc : Nat) (np : Nat) (g : Int32) (m : Int32) (hT : tw t nc np) : mE l yX10_joined wsX10_joined ({ frames := 4, cells := 0, slots := 0, locals := 92 }) G (mW G a i j t r n d ps im kp tx cd bk py pt mt) (fun u : (Nat → Int32) => mW G a i j t r n u ps im kp tx cd bk py pt mt) [.ref (a 0), .int g, .int m] (.returned (some (.int (joR t n nc g m)))) := by
  refine mE.of (cc := cX10_joined) (maxL := 3) (ret := (some .int)) (by decide) rfl (Nat.le_of_ble_eq_true rfl) ?_
  intro zp ze zs zm zb zt zc ls A hAe C hP hK hD hS hl
  obtain ⟨hx, hb, hr, hml, hown, hts, hlk⟩ := id C
  have hl : lv_has ls 3 [(0, .ref (a 0)), (1, .int g), (2, .int m)] := hl
  have hT2 := hT.2.2
  have k0 := hts (.constant RX10 175 (-1000000001)) (by decide +kernel)
  have k1 := hts (.constant RX10 193 (-1000000003)) (by decide +kernel)
  refine lv_aload_n hx hb dX10_joined_0 rfl (lv_at hl 0 rfl) ?_
  refine lv_iload_n hx hb dX10_joined_1 rfl (lv_at hl 1 rfl) ?_
  refine cR_V (Cn := RX10) (n := 1) (As := [.int g]) (rest := []) C (c_X10_isGirl l G a i j t r n d ps im kp tx cd bk py pt mt  g ) gX10_joined_X10_isGirl rfl ⟨rfl, rfl⟩ hd_X10_isGirl ⟨(Nat.le_of_ble_eq_true rfl), (Nat.le_of_ble_eq_true rfl)⟩ hK hP (va_recv hK hP (ci := 10) (q0 := 0) rfl rfl) rfl hl.1 rfl (Nat.le_of_ble_eq_true rfl) dX10_joined_2 ⟨(Nat.le_of_ble_eq_true rfl), (Nat.le_of_ble_eq_true rfl)⟩ ?_
  refine b_if_eq (tgt := 16) hx hb dX10_joined_5 (by decide) (fun cq1 => ?_) (fun cq1 => ?_)
  · skip
    refine lv_ldc hx hb hown k0 dX10_joined_16 ?_
    exact mE_iret hAe C (u := d) hP hS dX10_joined_18 (by simp [joR, cq1])
  · skip
    obtain ⟨gg, hgg, rfl⟩ := inB_nat hT.2.1 (by omega) (And.left cq1)
    have hcl_gg := cl_nI (n := gg) (by omega)
    refine lv_aload_n hx hb dX10_joined_8 rfl (lv_at hl 0 rfl) ?_
    refine lv_iload_n hx hb dX10_joined_9 rfl (lv_at hl 2 rfl) ?_
    refine cR_V (Cn := RX10) (n := 1) (As := [.int m]) (rest := []) C (c_X10_isMan l G a i j t r n d ps im kp tx cd bk py pt mt  m ) gX10_joined_X10_isMan rfl ⟨rfl, rfl⟩ hd_X10_isMan ⟨(Nat.le_of_ble_eq_true rfl), (Nat.le_of_ble_eq_true rfl)⟩ hK hP (va_recv hK hP (ci := 10) (q0 := 0) rfl rfl) rfl hl.1 rfl (Nat.le_of_ble_eq_true rfl) dX10_joined_10 ⟨(Nat.le_of_ble_eq_true rfl), (Nat.le_of_ble_eq_true rfl)⟩ ?_
    refine b_if_ne (tgt := 19) hx hb dX10_joined_13 (by decide) (fun cq2 => ?_) (fun cq2 => ?_)
    · skip
      obtain ⟨mm, hmm, rfl⟩ := inB_nat hT.2.1 (by omega) (And.left cq2)
      have hcl_mm := cl_nI (n := mm) (by omega)
      refine lv_aload_n hx hb dX10_joined_19 rfl (lv_at hl 0 rfl) ?_
      refine lv_iload_n hx hb dX10_joined_20 rfl (lv_at hl 1 rfl) ?_
      refine lv_iload_n hx hb dX10_joined_21 rfl (lv_at hl 2 rfl) ?_
      refine cR_V (Cn := RX10) (n := 2) (As := [.int (nI gg), .int (nI mm)]) (rest := []) C (c_X10_areApart l G a i j t r n d ps im kp tx cd bk py pt mt  gg mm (by omega) (by omega)) gX10_joined_X10_areApart rfl ⟨rfl, rfl⟩ hd_X10_areApart ⟨(Nat.le_of_ble_eq_true rfl), (Nat.le_of_ble_eq_true rfl)⟩ hK hP (va_recv hK hP (ci := 10) (q0 := 0) rfl rfl) rfl hl.1 rfl (Nat.le_of_ble_eq_true rfl) dX10_joined_22 ⟨(Nat.le_of_ble_eq_true rfl), (Nat.le_of_ble_eq_true rfl)⟩ ?_
      refine b_if_eq (tgt := 40) hx hb dX10_joined_25 (by decide) (fun cq3 => ?_) (fun cq3 => ?_)
      · skip
        refine lv_ldc hx hb hown k1 dX10_joined_40 ?_
        exact mE_iret hAe C (u := d) hP hS dX10_joined_42 (by simp [joR, cq1, hcl_gg, cq2, hcl_mm, cq3])
      · skip
        refine lv_aload_n hx hb dX10_joined_28 rfl (lv_at hl 0 rfl) ?_
        refine lv_iload_n hx hb dX10_joined_29 rfl (lv_at hl 1 rfl) ?_
        refine lv_iload_n hx hb dX10_joined_30 rfl (lv_at hl 2 rfl) ?_
        refine cX_V (Cn := RX10) (n := 2) (As := [.int (nI gg), .int (nI mm)]) (rest := []) (wsn := mW G a i j t r n (wedF (va_cpy n d 0 0 54) gg mm) ps im kp tx cd bk py pt mt) C (c_X10_joins l G a i j t r n d ps im kp tx cd bk py pt mt nc np gg mm hT (by omega) (by omega)) gX10_joined_X10_joins rfl ⟨rfl, rfl⟩ hd_X10_joins ⟨(Nat.le_of_ble_eq_true rfl), (Nat.le_of_ble_eq_true rfl)⟩ hK hP hD hS [0, 1, 2, 3, 4, 5, 6, 7, 8, 9, 10, 11, 12, 13] (by decide) rfl (mW_f.trans mW_f.symm) rfl (mW_f.trans mW_f.symm) (va_recv hK hP (ci := 10) (q0 := 0) rfl rfl) rfl hl.1 rfl (Nat.le_of_ble_eq_true rfl) dX10_joined_31 ⟨(Nat.le_of_ble_eq_true rfl), (Nat.le_of_ble_eq_true rfl)⟩ (fun H locs hP hD hS => ?_)
        refine lv_bipush (v := 10) hx hb dX10_joined_34 (by decide) ?_
        refine lv_iadd hx hb dX10_joined_36 ?_
        refine lv_goto (tgt := 42) hx hb dX10_joined_37 (by decide) ?_
        exact mE_iret hAe C (u := wedF (va_cpy n d 0 0 54) gg mm) hP hS dX10_joined_42 (by simp [joR, cq1, hcl_gg, cq2, hcl_mm, cq3])
    · skip
      refine lv_ldc hx hb hown k0 dX10_joined_16 ?_
      exact mE_iret hAe C (u := d) hP hS dX10_joined_18 (by simp [joR, cq1, hcl_gg, cq2])
