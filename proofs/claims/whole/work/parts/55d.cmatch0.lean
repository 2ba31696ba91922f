set_option maxRecDepth 100000 in
set_option maxHeartbeats 4000000 in
theorem c_X4_pairAll_z (l : Launch) (G : gG) (w0 : Nat) (w1 : Nat) (s0 : Nat) (s1 : Nat) (s2 : Nat) (s3 : Nat) (s4 : Nat) (b0 : Nat) (b1 : Nat) (b2 : Nat) (b3 : Nat) (mo : Nat → Int32) (t : Nat → Int32) (n : Nat → Int32) (nc : Nat) (np : Nat) (hT : tw t nc np) (hG : okG t nc) (h0 : np = 0) : mX l yX4_pairAll wsX4_pairAll ({ frames := 5, cells := 0, slots := 0, locals := 117 }) G (msW G w0 w1 s0 s1 s2 s3 s4 b0 b1 b2 b3 mo t n) (msW G w0 w1 s0 s1 s2 s3 s4 b0 b1 b2 b3 (upto mo (fun _ => -1) 8) t n) [.ref w0, .ref s0] (.returned (some (.int 0))) := by
  refine mX.of (cc := cX4_pairAll) (maxL := 7) (ret := (some .int)) (by decide) rfl (Nat.le_of_ble_eq_true rfl) ?_
  intro zp ze zs zm zb zt zc ls A hAe C hP hK hD hS hl
  obtain ⟨hx, hb, hr, hml, hown, hts, hlk⟩ := id C
  have hl : lv_has ls 7 [(0, .ref w0), (1, .ref s0)] := hl
  have hT2 := hT.2.2
  have k0 := hts (.fieldLink RX4 9 "DebtDowry$Matcher" "manOf" "[I") (by decide +kernel)
  have k1 := (fun w h => by revert w; decide +kernel : ∀ w ∈ wsX40, w ∈ wsX4_pairAll)
  refine lv_iconst (v := 0) hx hb dX4_pairAll_0 (by decide) ?_
  refine lv_istore_n (lv' := [(2, .int 0), (0, .ref w0), (1, .ref s0)]) hx hb dX4_pairAll_1 rfl hl (by decide) rfl (fun ls hl => ?_)
  refine wl_X (B := 8) (i0 := 0) (Inv := fun i1 H locs ls => va_P G.1 vwCl (msW G w0 w1 s0 s1 s2 s3 s4 b0 b1 b2 b3 (upto mo (fun _ => -1) i1) t n) H ∧ va_D A (msW G w0 w1 s0 s1 s2 s3 s4 b0 b1 b2 b3 (upto mo (fun _ => -1) i1) t n) ∧ va_S A zs.heap H locs ∧ lv_has ls 7 [(0, .ref w0), (1, .ref s0), (2, .int (nI i1))] ∧ True) (by omega) ⟨by rw [upto_0]; exact hP, by rw [upto_0]; exact hD, hS, lv_sub hl [1, 2, 0] (rfl), trivial⟩ ?_
  rintro i1 H locs ls hle2 ⟨hP, hD, hS, hl, -⟩ ih2
  refine lv_iload_n hx hb dX4_pairAll_2 rfl (lv_at hl 2 rfl) ?_
  refine lv_bipush (v := 8) hx hb dX4_pairAll_3 (by decide) ?_
  refine n_icmp_ge (tgt := 21) hx hb dX4_pairAll_5 (by decide) (u := i1) (v := 8) rfl rfl (by omega) (by omega) (fun cq1 => ?_) (fun cq1 => ?_)
  · skip
    obtain rfl : i1 = 8 := by omega
    refine lv_aload_n hx hb dX4_pairAll_21 rfl (lv_at hl 1 rfl) ?_
    refine cR_V (Cn := RX7) (n := 0) (As := []) (rest := []) C (c_X7_wedSet l G s0 s1 s2 s3 s4 b0 b1 b2 b3 t n nc np  hT) gX4_pairAll_X7_wedSet rfl ⟨rfl, rfl⟩ hd_X7_wedSet ⟨(Nat.le_of_ble_eq_true rfl), (Nat.le_of_ble_eq_true rfl)⟩ hK (hP.sub [2, 3, 4, 5, 6, 7, 8, 9, 10] rfl) (va_recv hK hP (ci := 7) (q0 := 2) rfl rfl) rfl hl.1 rfl (Nat.le_of_ble_eq_true rfl) dX4_pairAll_22 ⟨(Nat.le_of_ble_eq_true rfl), (Nat.le_of_ble_eq_true rfl)⟩ ?_
    refine lv_istore_n (lv' := [(2, .int (wedS n np)), (0, .ref w0), (1, .ref s0)]) hx hb dX4_pairAll_25 rfl hl (by decide) rfl (fun ls hl => ?_)
    refine lv_iconst (v := 0) hx hb dX4_pairAll_26 (by decide) ?_
    refine lv_istore_n (lv' := [(3, .int 0), (2, .int (wedS n np)), (0, .ref w0), (1, .ref s0)]) hx hb dX4_pairAll_27 rfl hl (by decide) rfl (fun ls hl => ?_)
    refine wl_X (B := 8) (i0 := 0) (Inv := fun i2 H locs ls => va_P G.1 vwCl (msW G w0 w1 s0 s1 s2 s3 s4 b0 b1 b2 b3 (upto mo (fun _ => -1) 8) t n) H ∧ va_D A (msW G w0 w1 s0 s1 s2 s3 s4 b0 b1 b2 b3 (upto mo (fun _ => -1) 8) t n) ∧ va_S A zs.heap H locs ∧ lv_has ls 7 [(0, .ref w0), (1, .ref s0), (2, .int (wedS n np)), (3, .int (nI i2))] ∧ i2 = 0) (by omega) ⟨hP, hD, hS, lv_sub hl [2, 3, 1, 0] (rfl), (rfl)⟩ ?_
    rintro i2 H locs ls hle28 ⟨hP, hD, hS, hl, hz⟩ ih28
    refine lv_iload_n hx hb dX4_pairAll_28 rfl (lv_at hl 3 rfl) ?_
    refine lv_bipush (v := 8) hx hb dX4_pairAll_29 (by decide) ?_
    refine n_icmp_ge (tgt := 90) hx hb dX4_pairAll_31 (by decide) (u := i2) (v := 8) rfl rfl (by omega) (by omega) (fun cq2 => ?_) (fun cq2 => ?_)
    · exact absurd hz (by omega)
    · skip
      refine lv_aload_n hx hb dX4_pairAll_34 rfl (lv_at hl 1 rfl) ?_
      refine lv_iload_n hx hb dX4_pairAll_35 rfl (lv_at hl 2 rfl) ?_
      refine cR_S (n := 2) (As := [.ref s0, .int (wedS n np)]) (rest := []) C (c_X4_bestPair l G s0 s1 s2 s3 s4 b0 b1 b2 b3 t n nc np (wedS n np) hT hG) gX4_pairAll_X4_bestPair rfl ⟨rfl, rfl⟩ hd_X4_bestPair ⟨(Nat.le_of_ble_eq_true rfl), (Nat.le_of_ble_eq_true rfl)⟩ hK (hP.sub [2, 3, 4, 5, 6, 7, 8, 9, 10] rfl) rfl hl.1 rfl (Nat.le_of_ble_eq_true rfl) dX4_pairAll_36 ⟨(Nat.le_of_ble_eq_true rfl), (Nat.le_of_ble_eq_true rfl)⟩ ?_
      refine lv_istore (lv' := [(4, .int (bst (bpR t n nc np (wedS n np)))), (0, .ref w0), (1, .ref s0), (2, .int (wedS n np)), (3, .int (nI i2))]) hx hb dX4_pairAll_39 hl (by decide) rfl (fun ls hl => ?_)
      refine lv_iload hx hb dX4_pairAll_41 (lv_at hl 0 rfl) ?_
      refine lv_iconst (v := (-1)) hx hb dX4_pairAll_43 (by decide) ?_
      refine lv_icmp_ne (tgt := 49) hx hb dX4_pairAll_44 (by decide) (fun cq3 => ?_) (fun cq3 => ?_)
      · exact absurd (by rw [h0]; rfl) cq3
      · skip
        refine lv_iload_n hx hb dX4_pairAll_47 rfl (lv_at hl 4 rfl) ?_
        exact mX_iret hAe C hP hS dX4_pairAll_48 (by rw [hz]; rfl)
  · skip
    refine lv_aload_n hx hb dX4_pairAll_8 rfl (lv_at hl 0 rfl) ?_
    refine va_get (D := G.1) (ci := 4) (v := .ref w1) (C := RX4) (T := TX4) (N := 1) hx hb hts k1 hown hK hP 0 rfl rfl 0 (by decide) k0 (fun _ h9 => h9) rfl dX4_pairAll_9 ?_
    refine lv_iload_n hx hb dX4_pairAll_12 rfl (lv_at hl 2 rfl) ?_
    refine lv_iconst (v := (-1)) hx hb dX4_pairAll_13 (by decide) ?_
    refine n_iastQ hx hb hK hP hD hS 1 0 rfl rfl (x := (-1)) (j := i1) rfl (by omega) (by decide) dX4_pairAll_14 (wsn := msW G w0 w1 s0 s1 s2 s3 s4 b0 b1 b2 b3 (upd (upto mo (fun _ => -1) i1) i1 (-1)) t n) (msW_r1 (by omega)) (fun H locs hP hD hS => ?_)
    refine lv_iinc (v := nI (i1 + 1)) (lv' := [(2, .int (nI (i1 + 1))), (0, .ref w0), (1, .ref s0)]) hx hb dX4_pairAll_15 hl (k := 2) rfl (by rw [show (nI i1 : Int32) = nI i1 from rfl]; exact nI_add _ 1) (by decide) rfl (fun ls hl => ?_)
    refine lv_goto (tgt := 2) hx hb dX4_pairAll_18 (by decide) ?_
    have e4 : (upd (upto mo (fun _ => -1) i1) i1 (-1)) = upto mo (fun _ => -1) (i1 + 1) := upto_v rfl
    rw [e4] at hP hD
    exact ih2 _ _ _ (by omega) ⟨hP, hD, hS, lv_sub hl [1, 2, 0] (rfl), trivial⟩
