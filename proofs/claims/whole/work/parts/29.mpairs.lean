theorem hd_X10_makesPairs : yX10_makesPairs.cls = RX10 ∧ yX10_makesPairs.cls ≠ "java/lang/invoke/MethodHandle" ∧ yX10_makesPairs.cls ≠ "java/lang/invoke/VarHandle" ∧ (parseMethodDescriptor yX10_makesPairs.desc).map (fun d => d.parameters.length) = some 0 := by decide +kernel
set_option maxRecDepth 100000 in
set_option maxHeartbeats 4000000 in
theorem c_X10_makesPairs (l : Launch) (G : gG) (a : Nat → Nat) (i : Nat → Int32) (j : Nat → Int32) (t : Nat → Int32) (r : Nat → Int32) (n : Nat → Int32) (d : Nat → Int32) (ps : Nat → Int32) (im : Nat → Int32) (kp : Nat → Int32) (tx : Nat → Int32) (cd : Nat → Int32) (bk : Nat → Int32) (py : Nat → Int32) (pt : Nat → Int32) (mt : Nat → Int32) (nc : Nat) (np : Nat) (hT : tw t nc np) : mE l yX10_makesPairs wsX10_makesPairs ({ frames := 4, cells := 0, slots := 0, locals := 92 }) G (mW G a i j t r n d ps im kp tx cd bk py pt mt) (fun u : (Nat → Int32) => mW G a i j t r n u ps im kp tx cd bk py pt (mkM t n nc np (upto mt (fun _ => -1) 8) (mkN t n nc np 8 0))) [.ref (a 0)] (.returned (some (.int (nI (mkN t n nc np 8 0))))) := by
  refine mE.of (cc := cX10_makesPairs) (maxL := 11) (ret := (some .int)) (by decide) rfl (Nat.le_of_ble_eq_true rfl) ?_
  intro zp ze zs zm zb zt zc ls A hAe C hP hK hD hS hl
  obtain ⟨hx, hb, hr, hml, hown, hts, hlk⟩ := id C
  have hl : lv_has ls 11 [(0, .ref (a 0))] := hl
  have hT2 := hT.2.2
  have k0 := hts (.constant RX10 261 (-1000000)) (by decide +kernel)
  have k1 := hts (.fieldLink RX10 7 "DebtDowryModel" "town" "[I") (by decide +kernel)
  have k2 := (fun w h => by revert w; decide +kernel : ∀ w ∈ wsX100, w ∈ wsX10_makesPairs)
  have k3 := hts (.fieldLink RX10 51 "DebtDowryModel" "mates" "[I") (by decide +kernel)
  have k4 := hts (.fieldLink RX10 16 "DebtDowryModel" "now" "[I") (by decide +kernel)
  refine lv_aload_n hx hb dX10_makesPairs_0 rfl (lv_at hl 0 rfl) ?_
  refine cR_V (Cn := RX10) (n := 0) (As := []) (rest := []) C (c_X10_wedOnes l G a i j t r n d ps im kp tx cd bk py pt mt   ) gX10_makesPairs_X10_wedOnes rfl ⟨rfl, rfl⟩ hd_X10_wedOnes ⟨(Nat.le_of_ble_eq_true rfl), (Nat.le_of_ble_eq_true rfl)⟩ hK hP (va_recv hK hP (ci := 10) (q0 := 0) rfl rfl) rfl hl.1 rfl (Nat.le_of_ble_eq_true rfl) dX10_makesPairs_1 ⟨(Nat.le_of_ble_eq_true rfl), (Nat.le_of_ble_eq_true rfl)⟩ ?_
  refine lv_istore_n (lv' := [(1, .int (wedS n 8)), (0, .ref (a 0))]) hx hb dX10_makesPairs_4 rfl hl (by decide) rfl (fun ls hl => ?_)
  refine lv_iconst (v := 0) hx hb dX10_makesPairs_5 (by decide) ?_
  refine lv_istore_n (lv' := [(2, .int 0), (1, .int (wedS n 8)), (0, .ref (a 0))]) hx hb dX10_makesPairs_6 rfl hl (by decide) rfl (fun ls hl => ?_)
  refine lv_iconst (v := 0) hx hb dX10_makesPairs_7 (by decide) ?_
  refine lv_istore_n (lv' := [(3, .int 0), (2, .int 0), (1, .int (wedS n 8)), (0, .ref (a 0))]) hx hb dX10_makesPairs_8 rfl hl (by decide) rfl (fun ls hl => ?_)
  refine wl_X (B := 8) (i0 := 0) (Inv := fun i1 H locs ls => va_P G.1 vwCl (mW G a i j t r n d ps im kp tx cd bk py pt (upto mt (fun _ => -1) i1)) H ∧ va_D A (mW G a i j t r n d ps im kp tx cd bk py pt (upto mt (fun _ => -1) i1)) ∧ va_S A zs.heap H locs ∧ lv_has ls 11 [(0, .ref (a 0)), (1, .int (wedS n 8)), (2, .int 0), (3, .int (nI i1))] ∧ True) (by omega) ⟨by rw [upto_0]; exact hP, by rw [upto_0]; exact hD, hS, lv_sub hl [3, 2, 1, 0] (rfl), trivial⟩ ?_
  rintro i1 H locs ls hle9 ⟨hP, hD, hS, hl, -⟩ ih9
  refine lv_iload_n hx hb dX10_makesPairs_9 rfl (lv_at hl 3 rfl) ?_
  refine lv_bipush (v := 8) hx hb dX10_makesPairs_10 (by decide) ?_
  refine n_icmp_ge (tgt := 28) hx hb dX10_makesPairs_12 (by decide) (u := i1) (v := 8) rfl rfl (by omega) (by omega) (fun cq1 => ?_) (fun cq1 => ?_)
  · skip
    obtain rfl : i1 = 8 := by omega
    refine lv_iconst (v := 1) hx hb dX10_makesPairs_28 (by decide) ?_
    refine lv_istore_n (lv' := [(3, .int 1), (0, .ref (a 0)), (1, .int (wedS n 8)), (2, .int 0)]) hx hb dX10_makesPairs_29 rfl hl (by decide) rfl (fun ls hl => ?_)
    refine wl_X (B := 8) (i0 := 0) (Inv := fun i2 H locs ls => ∃ (d_30 : Nat → Int32), va_P G.1 vwCl (mW G a i j t r n d_30 ps im kp tx cd bk py pt (mkM t n nc np (upto mt (fun _ => -1) 8) i2)) H ∧ va_D A (mW G a i j t r n d_30 ps im kp tx cd bk py pt (mkM t n nc np (upto mt (fun _ => -1) 8) i2)) ∧ va_S A zs.heap H locs ∧ lv_has ls 11 [(0, .ref (a 0)), (1, .int (mkT t n nc np i2)), (2, .int (nI i2)), (3, .int 1)] ∧ i2 + frN (mkT t n nc np i2) 8 ≤ 8 ∧ mkN t n nc np 8 0 = mkN t n nc np (8 - i2) i2) (by omega) ⟨d, hP, hD, hS, lv_sub hl [1, 2, 3, 0] (rfl), (by have := frN_le (wedS n 8) 8; show 0 + frN (wedS n 8) 8 ≤ 8; omega), (rfl)⟩ ?_
    rintro i2 H locs ls hle30 ⟨d_30, hP, hD, hS, hl, hfr, hR⟩ ih30
    refine lv_iload_n hx hb dX10_makesPairs_30 rfl (lv_at hl 3 rfl) ?_
    refine lv_if_eq (tgt := 254) hx hb dX10_makesPairs_31 (by decide) (fun cq2 => ?_) (fun cq2 => ?_)
    · exact absurd cq2 (by decide)
    refine lv_iconst (v := 0) hx hb dX10_makesPairs_34 (by decide) ?_
    refine lv_istore_n (lv' := [(3, .int 0), (0, .ref (a 0)), (1, .int (mkT t n nc np i2)), (2, .int (nI i2))]) hx hb dX10_makesPairs_35 rfl hl (by decide) rfl (fun ls hl => ?_)
    refine lv_ldcw hx hb hown k0 dX10_makesPairs_36 ?_
    refine lv_istore (lv' := [(4, .int (-1000000)), (3, .int 0), (0, .ref (a 0)), (1, .int (mkT t n nc np i2)), (2, .int (nI i2))]) hx hb dX10_makesPairs_39 hl (by decide) rfl (fun ls hl => ?_)
    refine lv_iconst (v := (-1)) hx hb dX10_makesPairs_41 (by decide) ?_
    refine lv_istore (lv' := [(5, .int (-1)), (4, .int (-1000000)), (3, .int 0), (0, .ref (a 0)), (1, .int (mkT t n nc np i2)), (2, .int (nI i2))]) hx hb dX10_makesPairs_42 hl (by decide) rfl (fun ls hl => ?_)
    refine lv_iconst (v := (-1)) hx hb dX10_makesPairs_44 (by decide) ?_
    refine lv_istore (lv' := [(6, .int (-1)), (5, .int (-1)), (4, .int (-1000000)), (3, .int 0), (0, .ref (a 0)), (1, .int (mkT t n nc np i2)), (2, .int (nI i2))]) hx hb dX10_makesPairs_45 hl (by decide) rfl (fun ls hl => ?_)
    refine lv_iconst (v := 0) hx hb dX10_makesPairs_47 (by decide) ?_
    refine lv_istore (lv' := [(7, .int 0), (6, .int (-1)), (5, .int (-1)), (4, .int (-1000000)), (3, .int 0), (0, .ref (a 0)), (1, .int (mkT t n nc np i2)), (2, .int (nI i2))]) hx hb dX10_makesPairs_48 hl (by decide) rfl (fun ls hl => ?_)
    refine wl_X (B := np) (i0 := 0) (Inv := fun i3 H locs ls => ∃ (d_50 : Nat → Int32), va_P G.1 vwCl (mW G a i j t r n d_50 ps im kp tx cd bk py pt (mkM t n nc np (upto mt (fun _ => -1) 8) i2)) H ∧ va_D A (mW G a i j t r n d_50 ps im kp tx cd bk py pt (mkM t n nc np (upto mt (fun _ => -1) 8) i2)) ∧ va_S A zs.heap H locs ∧ lv_has ls 11 [(0, .ref (a 0)), (1, .int (mkT t n nc np i2)), (2, .int (nI i2)), (3, .int 0), (4, .int ((bpG t n nc np (mkT t n nc np i2) i3).1)), (5, .int ((bpG t n nc np (mkT t n nc np i2) i3).2.1)), (6, .int ((bpG t n nc np (mkT t n nc np i2) i3).2.2)), (7, .int (nI i3))] ∧ True) (by omega) ⟨d_30, hP, hD, hS, lv_sub hl [5, 6, 7, 4, 3, 2, 1, 0] (rfl), trivial⟩ ?_
    rintro i3 H locs ls hle50 ⟨d_50, hP, hD, hS, hl, -⟩ ih50
    refine lv_iload hx hb dX10_makesPairs_50 (lv_at hl 7 rfl) ?_
    refine lv_aload_n hx hb dX10_makesPairs_52 rfl (lv_at hl 0 rfl) ?_
    refine va_get (D := G.1) (ci := 10) (v := .ref (a 1)) (C := RX10) (T := TX10) (N := 25) hx hb hts k2 hown hK hP 0 rfl rfl 0 (by decide) k1 (fun _ h9 => h9) rfl dX10_makesPairs_53 ?_
    refine lv_iconst (v := 4) hx hb dX10_makesPairs_56 (by decide) ?_
    refine n_iald hx hb hK hP 1 0 rfl rfl (j := 4) rfl (by decide) (by decide) dX10_makesPairs_57 ?_
    refine n_icmp_ge (tgt := 219) hx hb dX10_makesPairs_58 (by decide) (u := i3) (v := np) rfl hT.2.1 (by omega) (by omega) (fun cq3 => ?_) (fun cq3 => ?_)
    · skip
      obtain rfl : np = i3 := by omega
      refine lv_iload hx hb dX10_makesPairs_219 (lv_at hl 5 rfl) ?_
      refine lv_iconst (v := (-1)) hx hb dX10_makesPairs_221 (by decide) ?_
      refine lv_icmp_eq (tgt := 251) hx hb dX10_makesPairs_222 (by decide) (fun cq4 => ?_) (fun cq4 => ?_)
      · skip
        have hR9 : mkN t n nc np 8 0 = i2 := by rw [hR]; exact mkN_ex cq4
        refine lv_goto (tgt := 30) hx hb dX10_makesPairs_251 (by decide) ?_
        refine lv_iload_n hx hb dX10_makesPairs_30 rfl (lv_at hl 3 rfl) ?_
        refine lv_if_eq (tgt := 254) hx hb dX10_makesPairs_31 (by decide) (fun cq5 => ?_) (fun cq5 => ?_)
        rotate_left
        · exact absurd cq5 (by decide)
        refine lv_iload_n hx hb dX10_makesPairs_254 rfl (lv_at hl 2 rfl) ?_
        have hP : va_P G.1 vwCl (mW G a i j t r n d_50 ps im kp tx cd bk py pt (mkM t n nc np (upto mt (fun _ => -1) 8) (mkN t n nc np 8 0))) H := by rw [show (mkM t n nc np (upto mt (fun _ => -1) 8) (mkN t n nc np 8 0)) = (mkM t n nc np (upto mt (fun _ => -1) 8) i2) from by rw [hR9]]; exact hP
        exact mE_iret hAe C (u := d_50) hP hS dX10_makesPairs_255 (by rw [hR9])
      · skip
        obtain ⟨gg, mm, hgg, hmm, hge, hme, hfg, hfm⟩ := (bpG_ok (t := t) (n := n) (nc := nc) (tk := mkT t n nc np i2) np (Nat.le_refl _)).resolve_left cq4
        have hge : (bpR t n nc np (mkT t n nc np i2)).2.1 = nI gg := hge
        have hme : (bpR t n nc np (mkT t n nc np i2)).2.2 = nI mm := hme
        have hcg : cl (bpR t n nc np (mkT t n nc np i2)).2.1 = gg := by rw [show (bpR t n nc np (mkT t n nc np i2)).2.1 = nI gg from hge]; exact cl_nI (by omega)
        have hT3 : mkT t n nc np i2 ||| ((1 <<< ((bpR t n nc np (mkT t n nc np i2)).2.1 &&& 31)) ||| (1 <<< ((bpR t n nc np (mkT t n nc np i2)).2.2 &&& 31))) = mkT t n nc np (i2 + 1) := rfl
        have hM3 : upd (mkM t n nc np (upto mt (fun _ => -1) 8) i2) gg (bpR t n nc np (mkT t n nc np i2)).2.2 = mkM t n nc np (upto mt (fun _ => -1) 8) (i2 + 1) := by rw [← hcg]; rfl
        have hfr2 : i2 + 1 + frN (mkT t n nc np (i2 + 1)) 8 ≤ 8 := by rw [← hT3, hge, hme]; have q := fr_take (m := mm) (by omega : gg < 8) hfg; omega
        have hi28 : i2 < 8 := by have := hfr2; omega
        have hR2 : mkN t n nc np 8 0 = mkN t n nc np (8 - (i2 + 1)) (i2 + 1) := by rw [hR, show 8 - i2 = (8 - (i2 + 1)) + 1 by omega]; exact mkN_st cq4
        refine lv_aload_n hx hb dX10_makesPairs_225 rfl (lv_at hl 0 rfl) ?_
        refine va_get (D := G.1) (ci := 10) (v := .ref (a 13)) (C := RX10) (T := TX10) (N := 25) hx hb hts k2 hown hK hP 0 rfl rfl 24 (by decide) k3 (fun _ h9 => h9) rfl dX10_makesPairs_226 ?_
        refine lv_iload hx hb dX10_makesPairs_229 (lv_at hl 5 rfl) ?_
        refine lv_iload hx hb dX10_makesPairs_231 (lv_at hl 6 rfl) ?_
        refine n_iast hx hb hK hP hD hS 13 0 rfl rfl (x := ((bpR t n nc np (mkT t n nc np i2)).2.2)) (j := gg) hge (by omega) (by decide) dX10_makesPairs_233 (wsn := mW G a i j t r n d_50 ps im kp tx cd bk py pt (upd (mkM t n nc np (upto mt (fun _ => -1) 8) i2) gg ((bpR t n nc np (mkT t n nc np i2)).2.2))) rfl (fun H locs hP hD hS => ?_)
        refine lv_iload_n hx hb dX10_makesPairs_234 rfl (lv_at hl 1 rfl) ?_
        refine lv_iconst (v := 1) hx hb dX10_makesPairs_235 (by decide) ?_
        refine lv_iload hx hb dX10_makesPairs_236 (lv_at hl 5 rfl) ?_
        refine lv_ishl hx hb dX10_makesPairs_238 ?_
        refine lv_iconst (v := 1) hx hb dX10_makesPairs_239 (by decide) ?_
        refine lv_iload hx hb dX10_makesPairs_240 (lv_at hl 6 rfl) ?_
        refine lv_ishl hx hb dX10_makesPairs_242 ?_
        refine lv_ior hx hb dX10_makesPairs_243 ?_
        refine lv_ior hx hb dX10_makesPairs_244 ?_
        refine lv_istore_n (lv' := [(1, .int ((mkT t n nc np i2) ||| ((1 <<< (((bpR t n nc np (mkT t n nc np i2)).2.1) &&& 31)) ||| (1 <<< (((bpR t n nc np (mkT t n nc np i2)).2.2) &&& 31))))), (0, .ref (a 0)), (2, .int (nI i2)), (3, .int 0), (4, .int ((bpR t n nc np (mkT t n nc np i2)).1)), (5, .int ((bpR t n nc np (mkT t n nc np i2)).2.1)), (6, .int ((bpR t n nc np (mkT t n nc np i2)).2.2)), (7, .int (nI np))]) hx hb dX10_makesPairs_245 rfl hl (by decide) rfl (fun ls hl => ?_)
        refine lv_iinc (v := nI (i2 + 1)) (lv' := [(2, .int (nI (i2 + 1))), (1, .int ((mkT t n nc np i2) ||| ((1 <<< (((bpR t n nc np (mkT t n nc np i2)).2.1) &&& 31)) ||| (1 <<< (((bpR t n nc np (mkT t n nc np i2)).2.2) &&& 31))))), (0, .ref (a 0)), (3, .int 0), (4, .int ((bpR t n nc np (mkT t n nc np i2)).1)), (5, .int ((bpR t n nc np (mkT t n nc np i2)).2.1)), (6, .int ((bpR t n nc np (mkT t n nc np i2)).2.2)), (7, .int (nI np))]) hx hb dX10_makesPairs_246 hl (k := 2) rfl (by rw [show (nI i2 : Int32) = nI i2 from rfl]; exact nI_add _ 1) (by decide) rfl (fun ls hl => ?_)
        refine lv_iconst (v := 1) hx hb dX10_makesPairs_249 (by decide) ?_
        refine lv_istore_n (lv' := [(3, .int 1), (2, .int (nI (i2 + 1))), (1, .int ((mkT t n nc np i2) ||| ((1 <<< (((bpR t n nc np (mkT t n nc np i2)).2.1) &&& 31)) ||| (1 <<< (((bpR t n nc np (mkT t n nc np i2)).2.2) &&& 31))))), (0, .ref (a 0)), (4, .int ((bpR t n nc np (mkT t n nc np i2)).1)), (5, .int ((bpR t n nc np (mkT t n nc np i2)).2.1)), (6, .int ((bpR t n nc np (mkT t n nc np i2)).2.2)), (7, .int (nI np))]) hx hb dX10_makesPairs_250 rfl hl (by decide) rfl (fun ls hl => ?_)
        refine lv_goto (tgt := 30) hx hb dX10_makesPairs_251 (by decide) ?_
        have e6 : (mkT t n nc np i2) ||| ((1 <<< (((bpR t n nc np (mkT t n nc np i2)).2.1) &&& 31)) ||| (1 <<< (((bpR t n nc np (mkT t n nc np i2)).2.2) &&& 31))) = mkT t n nc np (i2 + 1) := hT3
        have e7 : (upd (mkM t n nc np (upto mt (fun _ => -1) 8) i2) gg ((bpR t n nc np (mkT t n nc np i2)).2.2)) = mkM t n nc np (upto mt (fun _ => -1) 8) (i2 + 1) := hM3
        rw [e7] at hP hD
        exact ih30 _ _ _ (by omega) ⟨d_50, hP, hD, hS, lv_sub hl [3, 2, 1, 0] (by rw [← e6]; rfl), (hfr2), (hR2)⟩
    · skip
      refine lv_iconst (v := 0) hx hb dX10_makesPairs_61 (by decide) ?_
      refine lv_istore (lv' := [(8, .int 0), (0, .ref (a 0)), (1, .int (mkT t n nc np i2)), (2, .int (nI i2)), (3, .int 0), (4, .int ((bpG t n nc np (mkT t n nc np i2) i3).1)), (5, .int ((bpG t n nc np (mkT t n nc np i2) i3).2.1)), (6, .int ((bpG t n nc np (mkT t n nc np i2) i3).2.2)), (7, .int (nI i3))]) hx hb dX10_makesPairs_62 hl (by decide) rfl (fun ls hl => ?_)
      refine wl_X (B := np) (i0 := 0) (Inv := fun i4 H locs ls => ∃ (d_64 : Nat → Int32), va_P G.1 vwCl (mW G a i j t r n d_64 ps im kp tx cd bk py pt (mkM t n nc np (upto mt (fun _ => -1) 8) i2)) H ∧ va_D A (mW G a i j t r n d_64 ps im kp tx cd bk py pt (mkM t n nc np (upto mt (fun _ => -1) 8) i2)) ∧ va_S A zs.heap H locs ∧ lv_has ls 11 [(0, .ref (a 0)), (1, .int (mkT t n nc np i2)), (2, .int (nI i2)), (3, .int 0), (4, .int ((bpI t n nc (mkT t n nc np i2) i3 (bpG t n nc np (mkT t n nc np i2) i3) i4).1)), (5, .int ((bpI t n nc (mkT t n nc np i2) i3 (bpG t n nc np (mkT t n nc np i2) i3) i4).2.1)), (6, .int ((bpI t n nc (mkT t n nc np i2) i3 (bpG t n nc np (mkT t n nc np i2) i3) i4).2.2)), (7, .int (nI i3)), (8, .int (nI i4))] ∧ True) (by omega) ⟨d_50, hP, hD, hS, lv_sub hl [1, 2, 3, 4, 5, 6, 7, 8, 0] (rfl), trivial⟩ ?_
      rintro i4 H locs ls hle64 ⟨d_64, hP, hD, hS, hl, -⟩ ih64
      refine lv_iload hx hb dX10_makesPairs_64 (lv_at hl 8 rfl) ?_
      refine lv_aload_n hx hb dX10_makesPairs_66 rfl (lv_at hl 0 rfl) ?_
      refine va_get (D := G.1) (ci := 10) (v := .ref (a 1)) (C := RX10) (T := TX10) (N := 25) hx hb hts k2 hown hK hP 0 rfl rfl 0 (by decide) k1 (fun _ h9 => h9) rfl dX10_makesPairs_67 ?_
      refine lv_iconst (v := 4) hx hb dX10_makesPairs_70 (by decide) ?_
      refine n_iald hx hb hK hP 1 0 rfl rfl (j := 4) rfl (by decide) (by decide) dX10_makesPairs_71 ?_
      refine n_icmp_ge (tgt := 213) hx hb dX10_makesPairs_72 (by decide) (u := i4) (v := np) rfl hT.2.1 (by omega) (by omega) (fun cq8 => ?_) (fun cq8 => ?_)
      · skip
        obtain rfl : np = i4 := by omega
        refine lv_iinc (v := nI (i3 + 1)) (lv' := [(7, .int (nI (i3 + 1))), (0, .ref (a 0)), (1, .int (mkT t n nc np i2)), (2, .int (nI i2)), (3, .int 0), (4, .int ((bpI t n nc (mkT t n nc np i2) i3 (bpG t n nc np (mkT t n nc np i2) i3) np).1)), (5, .int ((bpI t n nc (mkT t n nc np i2) i3 (bpG t n nc np (mkT t n nc np i2) i3) np).2.1)), (6, .int ((bpI t n nc (mkT t n nc np i2) i3 (bpG t n nc np (mkT t n nc np i2) i3) np).2.2)), (8, .int (nI np))]) hx hb dX10_makesPairs_213 hl (k := 7) rfl (by rw [show (nI i3 : Int32) = nI i3 from rfl]; exact nI_add _ 1) (by decide) rfl (fun ls hl => ?_)
        refine lv_goto (tgt := 50) hx hb dX10_makesPairs_216 (by decide) ?_
        have e9 : (bpI t n nc (mkT t n nc np i2) i3 (bpG t n nc np (mkT t n nc np i2) i3) np).1 = (bpG t n nc np (mkT t n nc np i2) (i3 + 1)).1 := rfl
        have e10 : (bpI t n nc (mkT t n nc np i2) i3 (bpG t n nc np (mkT t n nc np i2) i3) np).2.1 = (bpG t n nc np (mkT t n nc np i2) (i3 + 1)).2.1 := rfl
        have e11 : (bpI t n nc (mkT t n nc np i2) i3 (bpG t n nc np (mkT t n nc np i2) i3) np).2.2 = (bpG t n nc np (mkT t n nc np i2) (i3 + 1)).2.2 := rfl
        exact ih50 _ _ _ (by omega) ⟨d_64, hP, hD, hS, lv_sub hl [1, 2, 3, 4, 5, 6, 7, 0] (by rw [← e9, ← e10, ← e11]; rfl), trivial⟩
      · skip
        refine lv_aload_n hx hb dX10_makesPairs_75 rfl (lv_at hl 0 rfl) ?_
        refine lv_iload hx hb dX10_makesPairs_76 (lv_at hl 7 rfl) ?_
        refine cR_V (Cn := RX10) (n := 1) (As := [.int (nI i3)]) (rest := []) C (c_X10_isGirl l G a i j t r n d_64 ps im kp tx cd bk py pt (mkM t n nc np (upto mt (fun _ => -1) 8) i2)  (nI i3) ) gX10_makesPairs_X10_isGirl rfl ⟨rfl, rfl⟩ hd_X10_isGirl ⟨(Nat.le_of_ble_eq_true rfl), (Nat.le_of_ble_eq_true rfl)⟩ hK hP (va_recv hK hP (ci := 10) (q0 := 0) rfl rfl) rfl hl.1 rfl (Nat.le_of_ble_eq_true rfl) dX10_makesPairs_78 ⟨(Nat.le_of_ble_eq_true rfl), (Nat.le_of_ble_eq_true rfl)⟩ ?_
        refine b_if_eq (tgt := 207) hx hb dX10_makesPairs_81 (by decide) (fun cq12 => ?_) (fun cq12 => ?_)
        · skip
          have hbp : ¬ bpC t n nc (mkT t n nc np i2) (bpI t n nc (mkT t n nc np i2) i3 (bpG t n nc np (mkT t n nc np i2) i3) i4).1 i3 i4 := fun q => cq12 q.1
          refine lv_iinc (v := nI (i4 + 1)) (lv' := [(8, .int (nI (i4 + 1))), (0, .ref (a 0)), (1, .int (mkT t n nc np i2)), (2, .int (nI i2)), (3, .int 0), (4, .int ((bpI t n nc (mkT t n nc np i2) i3 (bpG t n nc np (mkT t n nc np i2) i3) i4).1)), (5, .int ((bpI t n nc (mkT t n nc np i2) i3 (bpG t n nc np (mkT t n nc np i2) i3) i4).2.1)), (6, .int ((bpI t n nc (mkT t n nc np i2) i3 (bpG t n nc np (mkT t n nc np i2) i3) i4).2.2)), (7, .int (nI i3))]) hx hb dX10_makesPairs_207 hl (k := 8) rfl (by rw [show (nI i4 : Int32) = nI i4 from rfl]; exact nI_add _ 1) (by decide) rfl (fun ls hl => ?_)
          refine lv_goto (tgt := 64) hx hb dX10_makesPairs_210 (by decide) ?_
          have hbs : bpI t n nc (mkT t n nc np i2) i3 (bpG t n nc np (mkT t n nc np i2) i3) (i4 + 1) = if bpC t n nc (mkT t n nc np i2) (bpI t n nc (mkT t n nc np i2) i3 (bpG t n nc np (mkT t n nc np i2) i3) i4).1 i3 i4 then (jnV t n nc i3 i4, nI i3, nI i4) else bpI t n nc (mkT t n nc np i2) i3 (bpG t n nc np (mkT t n nc np i2) i3) i4 := rfl
          have e13 : (bpI t n nc (mkT t n nc np i2) i3 (bpG t n nc np (mkT t n nc np i2) i3) i4).1 = (bpI t n nc (mkT t n nc np i2) i3 (bpG t n nc np (mkT t n nc np i2) i3) (i4 + 1)).1 := by rw [hbs]; first | (rw [if_pos hbp]; done) | (rw [if_pos hbp]; rfl) | (rw [if_neg hbp]; done)
          have e14 : (bpI t n nc (mkT t n nc np i2) i3 (bpG t n nc np (mkT t n nc np i2) i3) i4).2.1 = (bpI t n nc (mkT t n nc np i2) i3 (bpG t n nc np (mkT t n nc np i2) i3) (i4 + 1)).2.1 := by rw [hbs]; first | (rw [if_pos hbp]; done) | (rw [if_neg hbp]; done)
          have e15 : (bpI t n nc (mkT t n nc np i2) i3 (bpG t n nc np (mkT t n nc np i2) i3) i4).2.2 = (bpI t n nc (mkT t n nc np i2) i3 (bpG t n nc np (mkT t n nc np i2) i3) (i4 + 1)).2.2 := by rw [hbs]; first | (rw [if_pos hbp]; done) | (rw [if_neg hbp]; done)
          exact ih64 _ _ _ (by omega) ⟨d_64, hP, hD, hS, lv_sub hl [1, 2, 3, 4, 5, 6, 7, 8, 0] (by rw [← e13, ← e14, ← e15]; rfl), trivial⟩
        · skip
          have h81 := cq12
          refine lv_aload_n hx hb dX10_makesPairs_84 rfl (lv_at hl 0 rfl) ?_
          refine lv_iload hx hb dX10_makesPairs_85 (lv_at hl 8 rfl) ?_
          refine cR_V (Cn := RX10) (n := 1) (As := [.int (nI i4)]) (rest := []) C (c_X10_isMan l G a i j t r n d_64 ps im kp tx cd bk py pt (mkM t n nc np (upto mt (fun _ => -1) 8) i2)  (nI i4) ) gX10_makesPairs_X10_isMan rfl ⟨rfl, rfl⟩ hd_X10_isMan ⟨(Nat.le_of_ble_eq_true rfl), (Nat.le_of_ble_eq_true rfl)⟩ hK hP (va_recv hK hP (ci := 10) (q0 := 0) rfl rfl) rfl hl.1 rfl (Nat.le_of_ble_eq_true rfl) dX10_makesPairs_87 ⟨(Nat.le_of_ble_eq_true rfl), (Nat.le_of_ble_eq_true rfl)⟩ ?_
          refine b_if_eq (tgt := 207) hx hb dX10_makesPairs_90 (by decide) (fun cq16 => ?_) (fun cq16 => ?_)
          · skip
            have hbp : ¬ bpC t n nc (mkT t n nc np i2) (bpI t n nc (mkT t n nc np i2) i3 (bpG t n nc np (mkT t n nc np i2) i3) i4).1 i3 i4 := fun q => cq16 q.2.1
            refine lv_iinc (v := nI (i4 + 1)) (lv' := [(8, .int (nI (i4 + 1))), (0, .ref (a 0)), (1, .int (mkT t n nc np i2)), (2, .int (nI i2)), (3, .int 0), (4, .int ((bpI t n nc (mkT t n nc np i2) i3 (bpG t n nc np (mkT t n nc np i2) i3) i4).1)), (5, .int ((bpI t n nc (mkT t n nc np i2) i3 (bpG t n nc np (mkT t n nc np i2) i3) i4).2.1)), (6, .int ((bpI t n nc (mkT t n nc np i2) i3 (bpG t n nc np (mkT t n nc np i2) i3) i4).2.2)), (7, .int (nI i3))]) hx hb dX10_makesPairs_207 hl (k := 8) rfl (by rw [show (nI i4 : Int32) = nI i4 from rfl]; exact nI_add _ 1) (by decide) rfl (fun ls hl => ?_)
            refine lv_goto (tgt := 64) hx hb dX10_makesPairs_210 (by decide) ?_
            have hbs : bpI t n nc (mkT t n nc np i2) i3 (bpG t n nc np (mkT t n nc np i2) i3) (i4 + 1) = if bpC t n nc (mkT t n nc np i2) (bpI t n nc (mkT t n nc np i2) i3 (bpG t n nc np (mkT t n nc np i2) i3) i4).1 i3 i4 then (jnV t n nc i3 i4, nI i3, nI i4) else bpI t n nc (mkT t n nc np i2) i3 (bpG t n nc np (mkT t n nc np i2) i3) i4 := rfl
            have e17 : (bpI t n nc (mkT t n nc np i2) i3 (bpG t n nc np (mkT t n nc np i2) i3) i4).1 = (bpI t n nc (mkT t n nc np i2) i3 (bpG t n nc np (mkT t n nc np i2) i3) (i4 + 1)).1 := by rw [hbs]; first | (rw [if_pos hbp]; done) | (rw [if_pos hbp]; rfl) | (rw [if_neg hbp]; done)
            have e18 : (bpI t n nc (mkT t n nc np i2) i3 (bpG t n nc np (mkT t n nc np i2) i3) i4).2.1 = (bpI t n nc (mkT t n nc np i2) i3 (bpG t n nc np (mkT t n nc np i2) i3) (i4 + 1)).2.1 := by rw [hbs]; first | (rw [if_pos hbp]; done) | (rw [if_neg hbp]; done)
            have e19 : (bpI t n nc (mkT t n nc np i2) i3 (bpG t n nc np (mkT t n nc np i2) i3) i4).2.2 = (bpI t n nc (mkT t n nc np i2) i3 (bpG t n nc np (mkT t n nc np i2) i3) (i4 + 1)).2.2 := by rw [hbs]; first | (rw [if_pos hbp]; done) | (rw [if_neg hbp]; done)
            exact ih64 _ _ _ (by omega) ⟨d_64, hP, hD, hS, lv_sub hl [1, 2, 3, 4, 5, 6, 7, 8, 0] (by rw [← e17, ← e18, ← e19]; rfl), trivial⟩
          · skip
            have h90 := cq16
            refine lv_iload_n hx hb dX10_makesPairs_93 rfl (lv_at hl 1 rfl) ?_
            refine lv_iload hx hb dX10_makesPairs_94 (lv_at hl 7 rfl) ?_
            refine cR_S (n := 2) (As := [.int (mkT t n nc np i2), .int (nI i3)]) (rest := []) C (c_X10_has l G    (mkT t n nc np i2) i3 ) gX10_makesPairs_X10_has rfl ⟨rfl, rfl⟩ hd_X10_has ⟨(Nat.le_of_ble_eq_true rfl), (Nat.le_of_ble_eq_true rfl)⟩ hK (hP.sub [] rfl) rfl hl.1 rfl (Nat.le_of_ble_eq_true rfl) dX10_makesPairs_96 ⟨(Nat.le_of_ble_eq_true rfl), (Nat.le_of_ble_eq_true rfl)⟩ ?_
            refine b_if_ne (tgt := 207) hx hb dX10_makesPairs_99 (by decide) (fun cq20 => ?_) (fun cq20 => ?_)
            · skip
              have hbp : ¬ bpC t n nc (mkT t n nc np i2) (bpI t n nc (mkT t n nc np i2) i3 (bpG t n nc np (mkT t n nc np i2) i3) i4).1 i3 i4 := fun q => q.2.2.1 cq20
              refine lv_iinc (v := nI (i4 + 1)) (lv' := [(8, .int (nI (i4 + 1))), (0, .ref (a 0)), (1, .int (mkT t n nc np i2)), (2, .int (nI i2)), (3, .int 0), (4, .int ((bpI t n nc (mkT t n nc np i2) i3 (bpG t n nc np (mkT t n nc np i2) i3) i4).1)), (5, .int ((bpI t n nc (mkT t n nc np i2) i3 (bpG t n nc np (mkT t n nc np i2) i3) i4).2.1)), (6, .int ((bpI t n nc (mkT t n nc np i2) i3 (bpG t n nc np (mkT t n nc np i2) i3) i4).2.2)), (7, .int (nI i3))]) hx hb dX10_makesPairs_207 hl (k := 8) rfl (by rw [show (nI i4 : Int32) = nI i4 from rfl]; exact nI_add _ 1) (by decide) rfl (fun ls hl => ?_)
              refine lv_goto (tgt := 64) hx hb dX10_makesPairs_210 (by decide) ?_
              have hbs : bpI t n nc (mkT t n nc np i2) i3 (bpG t n nc np (mkT t n nc np i2) i3) (i4 + 1) = if bpC t n nc (mkT t n nc np i2) (bpI t n nc (mkT t n nc np i2) i3 (bpG t n nc np (mkT t n nc np i2) i3) i4).1 i3 i4 then (jnV t n nc i3 i4, nI i3, nI i4) else bpI t n nc (mkT t n nc np i2) i3 (bpG t n nc np (mkT t n nc np i2) i3) i4 := rfl
              have e21 : (bpI t n nc (mkT t n nc np i2) i3 (bpG t n nc np (mkT t n nc np i2) i3) i4).1 = (bpI t n nc (mkT t n nc np i2) i3 (bpG t n nc np (mkT t n nc np i2) i3) (i4 + 1)).1 := by rw [hbs]; first | (rw [if_pos hbp]; done) | (rw [if_pos hbp]; rfl) | (rw [if_neg hbp]; done)
              have e22 : (bpI t n nc (mkT t n nc np i2) i3 (bpG t n nc np (mkT t n nc np i2) i3) i4).2.1 = (bpI t n nc (mkT t n nc np i2) i3 (bpG t n nc np (mkT t n nc np i2) i3) (i4 + 1)).2.1 := by rw [hbs]; first | (rw [if_pos hbp]; done) | (rw [if_neg hbp]; done)
              have e23 : (bpI t n nc (mkT t n nc np i2) i3 (bpG t n nc np (mkT t n nc np i2) i3) i4).2.2 = (bpI t n nc (mkT t n nc np i2) i3 (bpG t n nc np (mkT t n nc np i2) i3) (i4 + 1)).2.2 := by rw [hbs]; first | (rw [if_pos hbp]; done) | (rw [if_neg hbp]; done)
              exact ih64 _ _ _ (by omega) ⟨d_64, hP, hD, hS, lv_sub hl [1, 2, 3, 4, 5, 6, 7, 8, 0] (by rw [← e21, ← e22, ← e23]; rfl), trivial⟩
            · skip
              have h99 := cq20
              refine lv_iload_n hx hb dX10_makesPairs_102 rfl (lv_at hl 1 rfl) ?_
              refine lv_iload hx hb dX10_makesPairs_103 (lv_at hl 8 rfl) ?_
              refine cR_S (n := 2) (As := [.int (mkT t n nc np i2), .int (nI i4)]) (rest := []) C (c_X10_has l G    (mkT t n nc np i2) i4 ) gX10_makesPairs_X10_has rfl ⟨rfl, rfl⟩ hd_X10_has ⟨(Nat.le_of_ble_eq_true rfl), (Nat.le_of_ble_eq_true rfl)⟩ hK (hP.sub [] rfl) rfl hl.1 rfl (Nat.le_of_ble_eq_true rfl) dX10_makesPairs_105 ⟨(Nat.le_of_ble_eq_true rfl), (Nat.le_of_ble_eq_true rfl)⟩ ?_
              refine b_if_ne (tgt := 207) hx hb dX10_makesPairs_108 (by decide) (fun cq24 => ?_) (fun cq24 => ?_)
              · skip
                have hbp : ¬ bpC t n nc (mkT t n nc np i2) (bpI t n nc (mkT t n nc np i2) i3 (bpG t n nc np (mkT t n nc np i2) i3) i4).1 i3 i4 := fun q => q.2.2.2.1 cq24
                refine lv_iinc (v := nI (i4 + 1)) (lv' := [(8, .int (nI (i4 + 1))), (0, .ref (a 0)), (1, .int (mkT t n nc np i2)), (2, .int (nI i2)), (3, .int 0), (4, .int ((bpI t n nc (mkT t n nc np i2) i3 (bpG t n nc np (mkT t n nc np i2) i3) i4).1)), (5, .int ((bpI t n nc (mkT t n nc np i2) i3 (bpG t n nc np (mkT t n nc np i2) i3) i4).2.1)), (6, .int ((bpI t n nc (mkT t n nc np i2) i3 (bpG t n nc np (mkT t n nc np i2) i3) i4).2.2)), (7, .int (nI i3))]) hx hb dX10_makesPairs_207 hl (k := 8) rfl (by rw [show (nI i4 : Int32) = nI i4 from rfl]; exact nI_add _ 1) (by decide) rfl (fun ls hl => ?_)
                refine lv_goto (tgt := 64) hx hb dX10_makesPairs_210 (by decide) ?_
                have hbs : bpI t n nc (mkT t n nc np i2) i3 (bpG t n nc np (mkT t n nc np i2) i3) (i4 + 1) = if bpC t n nc (mkT t n nc np i2) (bpI t n nc (mkT t n nc np i2) i3 (bpG t n nc np (mkT t n nc np i2) i3) i4).1 i3 i4 then (jnV t n nc i3 i4, nI i3, nI i4) else bpI t n nc (mkT t n nc np i2) i3 (bpG t n nc np (mkT t n nc np i2) i3) i4 := rfl
                have e25 : (bpI t n nc (mkT t n nc np i2) i3 (bpG t n nc np (mkT t n nc np i2) i3) i4).1 = (bpI t n nc (mkT t n nc np i2) i3 (bpG t n nc np (mkT t n nc np i2) i3) (i4 + 1)).1 := by rw [hbs]; first | (rw [if_pos hbp]; done) | (rw [if_pos hbp]; rfl) | (rw [if_neg hbp]; done)
                have e26 : (bpI t n nc (mkT t n nc np i2) i3 (bpG t n nc np (mkT t n nc np i2) i3) i4).2.1 = (bpI t n nc (mkT t n nc np i2) i3 (bpG t n nc np (mkT t n nc np i2) i3) (i4 + 1)).2.1 := by rw [hbs]; first | (rw [if_pos hbp]; done) | (rw [if_neg hbp]; done)
                have e27 : (bpI t n nc (mkT t n nc np i2) i3 (bpG t n nc np (mkT t n nc np i2) i3) i4).2.2 = (bpI t n nc (mkT t n nc np i2) i3 (bpG t n nc np (mkT t n nc np i2) i3) (i4 + 1)).2.2 := by rw [hbs]; first | (rw [if_pos hbp]; done) | (rw [if_neg hbp]; done)
                exact ih64 _ _ _ (by omega) ⟨d_64, hP, hD, hS, lv_sub hl [1, 2, 3, 4, 5, 6, 7, 8, 0] (by rw [← e25, ← e26, ← e27]; rfl), trivial⟩
              · skip
                have h108 := cq24
                refine lv_aload_n hx hb dX10_makesPairs_111 rfl (lv_at hl 0 rfl) ?_
                refine lv_iload hx hb dX10_makesPairs_112 (lv_at hl 7 rfl) ?_
                refine lv_iload hx hb dX10_makesPairs_114 (lv_at hl 8 rfl) ?_
                refine cX_V (Cn := RX10) (n := 2) (As := [.int (nI i3), .int (nI i4)]) (rest := []) (wsn := mW G a i j t r n (wedF (va_cpy n d_64 0 0 54) i3 i4) ps im kp tx cd bk py pt (mkM t n nc np (upto mt (fun _ => -1) 8) i2)) C (c_X10_joins l G a i j t r n d_64 ps im kp tx cd bk py pt (mkM t n nc np (upto mt (fun _ => -1) 8) i2) nc np i3 i4 hT (by omega) (by omega)) gX10_makesPairs_X10_joins rfl ⟨rfl, rfl⟩ hd_X10_joins ⟨(Nat.le_of_ble_eq_true rfl), (Nat.le_of_ble_eq_true rfl)⟩ hK hP hD hS [0, 1, 2, 3, 4, 5, 6, 7, 8, 9, 10, 11, 12, 13] (by decide) rfl (mW_f.trans mW_f.symm) rfl (mW_f.trans mW_f.symm) (va_recv hK hP (ci := 10) (q0 := 0) rfl rfl) rfl hl.1 rfl (Nat.le_of_ble_eq_true rfl) dX10_makesPairs_116 ⟨(Nat.le_of_ble_eq_true rfl), (Nat.le_of_ble_eq_true rfl)⟩ (fun H locs hP hD hS => ?_)
                refine lv_istore (lv' := [(9, .int (stU t (wedF n i3 i4) i3 nc)), (0, .ref (a 0)), (1, .int (mkT t n nc np i2)), (2, .int (nI i2)), (3, .int 0), (4, .int ((bpI t n nc (mkT t n nc np i2) i3 (bpG t n nc np (mkT t n nc np i2) i3) i4).1)), (5, .int ((bpI t n nc (mkT t n nc np i2) i3 (bpG t n nc np (mkT t n nc np i2) i3) i4).2.1)), (6, .int ((bpI t n nc (mkT t n nc np i2) i3 (bpG t n nc np (mkT t n nc np i2) i3) i4).2.2)), (7, .int (nI i3)), (8, .int (nI i4))]) hx hb dX10_makesPairs_119 hl (by decide) rfl (fun ls hl => ?_)
                refine lv_iload hx hb dX10_makesPairs_121 (lv_at hl 0 rfl) ?_
                refine lv_aload_n hx hb dX10_makesPairs_123 rfl (lv_at hl 1 rfl) ?_
                refine lv_aload_n hx hb dX10_makesPairs_124 rfl (lv_at hl 1 rfl) ?_
                refine va_get (D := G.1) (ci := 10) (v := .ref (a 3)) (C := RX10) (T := TX10) (N := 25) hx hb hts k2 hown hK hP 0 rfl rfl 2 (by decide) k4 (fun _ h9 => h9) rfl dX10_makesPairs_125 ?_
                refine lv_iload hx hb dX10_makesPairs_128 (lv_at hl 8 rfl) ?_
                refine cR_V (Cn := RX10) (n := 2) (As := [.ref (a 3), .int (nI i3)]) (rest := [.int (stU t (wedF n i3 i4) i3 nc)]) C (c_X10_standing_n l G a i j t r n (wedF (va_cpy n d_64 0 0 54) i3 i4) ps im kp tx cd bk py pt (mkM t n nc np (upto mt (fun _ => -1) 8) i2) nc np i3 hT (by omega)) gX10_makesPairs_X10_standing rfl ⟨rfl, rfl⟩ hd_X10_standing ⟨(Nat.le_of_ble_eq_true rfl), (Nat.le_of_ble_eq_true rfl)⟩ hK hP (va_recv hK hP (ci := 10) (q0 := 0) rfl rfl) rfl hl.1 rfl (Nat.le_of_ble_eq_true rfl) dX10_makesPairs_130 ⟨(Nat.le_of_ble_eq_true rfl), (Nat.le_of_ble_eq_true rfl)⟩ ?_
                refine lv_icmp_le (tgt := 162) hx hb dX10_makesPairs_133 (by decide) (fun cq28 => ?_) (fun cq28 => ?_)
                · skip
                  have hbp : ¬ bpC t n nc (mkT t n nc np i2) (bpI t n nc (mkT t n nc np i2) i3 (bpG t n nc np (mkT t n nc np i2) i3) i4).1 i3 i4 := fun q => i32_nlt.mpr cq28 q.2.2.2.2.1
                  refine lv_iconst (v := 0) hx hb dX10_makesPairs_162 (by decide) ?_
                  refine lv_istore (lv' := [(10, .int 0), (9, .int (stU t (wedF n i3 i4) i3 nc)), (0, .ref (a 0)), (1, .int (mkT t n nc np i2)), (2, .int (nI i2)), (3, .int 0), (4, .int ((bpI t n nc (mkT t n nc np i2) i3 (bpG t n nc np (mkT t n nc np i2) i3) i4).1)), (5, .int ((bpI t n nc (mkT t n nc np i2) i3 (bpG t n nc np (mkT t n nc np i2) i3) i4).2.1)), (6, .int ((bpI t n nc (mkT t n nc np i2) i3 (bpG t n nc np (mkT t n nc np i2) i3) i4).2.2)), (7, .int (nI i3)), (8, .int (nI i4))]) hx hb dX10_makesPairs_163 hl (by decide) rfl (fun ls hl => ?_)
                  refine lv_iload hx hb dX10_makesPairs_165 (lv_at hl 0 rfl) ?_
                  refine lv_if_eq (tgt := 175) hx hb dX10_makesPairs_167 (by decide) (fun cq29 => ?_) (fun cq29 => ?_)
                  rotate_left
                  · exact absurd cq29 (by decide)
                  refine lv_iload hx hb dX10_makesPairs_175 (lv_at hl 7 rfl) ?_
                  refine lv_istore (lv' := [(5, .int ((bpI t n nc (mkT t n nc np i2) i3 (bpG t n nc np (mkT t n nc np i2) i3) i4).2.1)), (10, .int 0), (9, .int (stU t (wedF n i3 i4) i3 nc)), (0, .ref (a 0)), (1, .int (mkT t n nc np i2)), (2, .int (nI i2)), (3, .int 0), (4, .int ((bpI t n nc (mkT t n nc np i2) i3 (bpG t n nc np (mkT t n nc np i2) i3) i4).1)), (6, .int ((bpI t n nc (mkT t n nc np i2) i3 (bpG t n nc np (mkT t n nc np i2) i3) i4).2.2)), (7, .int (nI i3)), (8, .int (nI i4))]) hx hb dX10_makesPairs_177 hl (by decide) rfl (fun ls hl => ?_)
                  refine lv_iload hx hb dX10_makesPairs_179 (lv_at hl 1 rfl) ?_
                  refine lv_if_eq (tgt := 189) hx hb dX10_makesPairs_181 (by decide) (fun cq30 => ?_) (fun cq30 => ?_)
                  rotate_left
                  · exact absurd cq30 (by decide)
                  refine lv_iload hx hb dX10_makesPairs_189 (lv_at hl 8 rfl) ?_
                  refine lv_istore (lv' := [(6, .int ((bpI t n nc (mkT t n nc np i2) i3 (bpG t n nc np (mkT t n nc np i2) i3) i4).2.2)), (5, .int ((bpI t n nc (mkT t n nc np i2) i3 (bpG t n nc np (mkT t n nc np i2) i3) i4).2.1)), (10, .int 0), (9, .int (stU t (wedF n i3 i4) i3 nc)), (0, .ref (a 0)), (1, .int (mkT t n nc np i2)), (2, .int (nI i2)), (3, .int 0), (4, .int ((bpI t n nc (mkT t n nc np i2) i3 (bpG t n nc np (mkT t n nc np i2) i3) i4).1)), (7, .int (nI i3)), (8, .int (nI i4))]) hx hb dX10_makesPairs_191 hl (by decide) rfl (fun ls hl => ?_)
                  refine lv_iload hx hb dX10_makesPairs_193 (lv_at hl 2 rfl) ?_
                  refine lv_if_eq (tgt := 203) hx hb dX10_makesPairs_195 (by decide) (fun cq31 => ?_) (fun cq31 => ?_)
                  rotate_left
                  · exact absurd cq31 (by decide)
                  refine lv_iload hx hb dX10_makesPairs_203 (lv_at hl 8 rfl) ?_
                  refine lv_istore (lv' := [(4, .int ((bpI t n nc (mkT t n nc np i2) i3 (bpG t n nc np (mkT t n nc np i2) i3) i4).1)), (6, .int ((bpI t n nc (mkT t n nc np i2) i3 (bpG t n nc np (mkT t n nc np i2) i3) i4).2.2)), (5, .int ((bpI t n nc (mkT t n nc np i2) i3 (bpG t n nc np (mkT t n nc np i2) i3) i4).2.1)), (10, .int 0), (9, .int (stU t (wedF n i3 i4) i3 nc)), (0, .ref (a 0)), (1, .int (mkT t n nc np i2)), (2, .int (nI i2)), (3, .int 0), (7, .int (nI i3)), (8, .int (nI i4))]) hx hb dX10_makesPairs_205 hl (by decide) rfl (fun ls hl => ?_)
                  refine lv_iinc (v := nI (i4 + 1)) (lv' := [(8, .int (nI (i4 + 1))), (4, .int ((bpI t n nc (mkT t n nc np i2) i3 (bpG t n nc np (mkT t n nc np i2) i3) i4).1)), (6, .int ((bpI t n nc (mkT t n nc np i2) i3 (bpG t n nc np (mkT t n nc np i2) i3) i4).2.2)), (5, .int ((bpI t n nc (mkT t n nc np i2) i3 (bpG t n nc np (mkT t n nc np i2) i3) i4).2.1)), (10, .int 0), (9, .int (stU t (wedF n i3 i4) i3 nc)), (0, .ref (a 0)), (1, .int (mkT t n nc np i2)), (2, .int (nI i2)), (3, .int 0), (7, .int (nI i3))]) hx hb dX10_makesPairs_207 hl (k := 10) rfl (by rw [show (nI i4 : Int32) = nI i4 from rfl]; exact nI_add _ 1) (by decide) rfl (fun ls hl => ?_)
                  refine lv_goto (tgt := 64) hx hb dX10_makesPairs_210 (by decide) ?_
                  have hbs : bpI t n nc (mkT t n nc np i2) i3 (bpG t n nc np (mkT t n nc np i2) i3) (i4 + 1) = if bpC t n nc (mkT t n nc np i2) (bpI t n nc (mkT t n nc np i2) i3 (bpG t n nc np (mkT t n nc np i2) i3) i4).1 i3 i4 then (jnV t n nc i3 i4, nI i3, nI i4) else bpI t n nc (mkT t n nc np i2) i3 (bpG t n nc np (mkT t n nc np i2) i3) i4 := rfl
                  have e32 : (bpI t n nc (mkT t n nc np i2) i3 (bpG t n nc np (mkT t n nc np i2) i3) i4).1 = (bpI t n nc (mkT t n nc np i2) i3 (bpG t n nc np (mkT t n nc np i2) i3) (i4 + 1)).1 := by rw [hbs]; first | (rw [if_pos hbp]; done) | (rw [if_pos hbp]; rfl) | (rw [if_neg hbp]; done)
                  have e33 : (bpI t n nc (mkT t n nc np i2) i3 (bpG t n nc np (mkT t n nc np i2) i3) i4).2.1 = (bpI t n nc (mkT t n nc np i2) i3 (bpG t n nc np (mkT t n nc np i2) i3) (i4 + 1)).2.1 := by rw [hbs]; first | (rw [if_pos hbp]; done) | (rw [if_neg hbp]; done)
                  have e34 : (bpI t n nc (mkT t n nc np i2) i3 (bpG t n nc np (mkT t n nc np i2) i3) i4).2.2 = (bpI t n nc (mkT t n nc np i2) i3 (bpG t n nc np (mkT t n nc np i2) i3) (i4 + 1)).2.2 := by rw [hbs]; first | (rw [if_pos hbp]; done) | (rw [if_neg hbp]; done)
                  exact ih64 _ _ _ (by omega) ⟨wedF (va_cpy n d_64 0 0 54) i3 i4, hP, hD, hS, lv_sub hl [6, 7, 8, 9, 1, 3, 2, 10, 0] (by rw [← e32, ← e33, ← e34]; rfl), trivial⟩
                · skip
                  have h133 := i32_nle.mp cq28
                  refine lv_iload hx hb dX10_makesPairs_136 (lv_at hl 0 rfl) ?_
                  refine lv_aload_n hx hb dX10_makesPairs_138 rfl (lv_at hl 1 rfl) ?_
                  refine lv_aload_n hx hb dX10_makesPairs_139 rfl (lv_at hl 1 rfl) ?_
                  refine va_get (D := G.1) (ci := 10) (v := .ref (a 3)) (C := RX10) (T := TX10) (N := 25) hx hb hts k2 hown hK hP 0 rfl rfl 2 (by decide) k4 (fun _ h9 => h9) rfl dX10_makesPairs_140 ?_
                  refine lv_iload hx hb dX10_makesPairs_143 (lv_at hl 9 rfl) ?_
                  refine cR_V (Cn := RX10) (n := 2) (As := [.ref (a 3), .int (nI i4)]) (rest := [.int (stU t (wedF n i3 i4) i3 nc)]) C (c_X10_standing_n l G a i j t r n (wedF (va_cpy n d_64 0 0 54) i3 i4) ps im kp tx cd bk py pt (mkM t n nc np (upto mt (fun _ => -1) 8) i2) nc np i4 hT (by omega)) gX10_makesPairs_X10_standing rfl ⟨rfl, rfl⟩ hd_X10_standing ⟨(Nat.le_of_ble_eq_true rfl), (Nat.le_of_ble_eq_true rfl)⟩ hK hP (va_recv hK hP (ci := 10) (q0 := 0) rfl rfl) rfl hl.1 rfl (Nat.le_of_ble_eq_true rfl) dX10_makesPairs_145 ⟨(Nat.le_of_ble_eq_true rfl), (Nat.le_of_ble_eq_true rfl)⟩ ?_
                  refine lv_icmp_le (tgt := 162) hx hb dX10_makesPairs_148 (by decide) (fun cq35 => ?_) (fun cq35 => ?_)
                  · skip
                    have hbp : ¬ bpC t n nc (mkT t n nc np i2) (bpI t n nc (mkT t n nc np i2) i3 (bpG t n nc np (mkT t n nc np i2) i3) i4).1 i3 i4 := fun q => i32_nlt.mpr cq35 q.2.2.2.2.2.1
                    refine lv_iconst (v := 0) hx hb dX10_makesPairs_162 (by decide) ?_
                    refine lv_istore (lv' := [(10, .int 0), (9, .int (stU t (wedF n i3 i4) i3 nc)), (0, .ref (a 0)), (1, .int (mkT t n nc np i2)), (2, .int (nI i2)), (3, .int 0), (4, .int ((bpI t n nc (mkT t n nc np i2) i3 (bpG t n nc np (mkT t n nc np i2) i3) i4).1)), (5, .int ((bpI t n nc (mkT t n nc np i2) i3 (bpG t n nc np (mkT t n nc np i2) i3) i4).2.1)), (6, .int ((bpI t n nc (mkT t n nc np i2) i3 (bpG t n nc np (mkT t n nc np i2) i3) i4).2.2)), (7, .int (nI i3)), (8, .int (nI i4))]) hx hb dX10_makesPairs_163 hl (by decide) rfl (fun ls hl => ?_)
                    refine lv_iload hx hb dX10_makesPairs_165 (lv_at hl 0 rfl) ?_
                    refine lv_if_eq (tgt := 175) hx hb dX10_makesPairs_167 (by decide) (fun cq36 => ?_) (fun cq36 => ?_)
                    rotate_left
                    · exact absurd cq36 (by decide)
                    refine lv_iload hx hb dX10_makesPairs_175 (lv_at hl 7 rfl) ?_
                    refine lv_istore (lv' := [(5, .int ((bpI t n nc (mkT t n nc np i2) i3 (bpG t n nc np (mkT t n nc np i2) i3) i4).2.1)), (10, .int 0), (9, .int (stU t (wedF n i3 i4) i3 nc)), (0, .ref (a 0)), (1, .int (mkT t n nc np i2)), (2, .int (nI i2)), (3, .int 0), (4, .int ((bpI t n nc (mkT t n nc np i2) i3 (bpG t n nc np (mkT t n nc np i2) i3) i4).1)), (6, .int ((bpI t n nc (mkT t n nc np i2) i3 (bpG t n nc np (mkT t n nc np i2) i3) i4).2.2)), (7, .int (nI i3)), (8, .int (nI i4))]) hx hb dX10_makesPairs_177 hl (by decide) rfl (fun ls hl => ?_)
                    refine lv_iload hx hb dX10_makesPairs_179 (lv_at hl 1 rfl) ?_
                    refine lv_if_eq (tgt := 189) hx hb dX10_makesPairs_181 (by decide) (fun cq37 => ?_) (fun cq37 => ?_)
                    rotate_left
                    · exact absurd cq37 (by decide)
                    refine lv_iload hx hb dX10_makesPairs_189 (lv_at hl 8 rfl) ?_
                    refine lv_istore (lv' := [(6, .int ((bpI t n nc (mkT t n nc np i2) i3 (bpG t n nc np (mkT t n nc np i2) i3) i4).2.2)), (5, .int ((bpI t n nc (mkT t n nc np i2) i3 (bpG t n nc np (mkT t n nc np i2) i3) i4).2.1)), (10, .int 0), (9, .int (stU t (wedF n i3 i4) i3 nc)), (0, .ref (a 0)), (1, .int (mkT t n nc np i2)), (2, .int (nI i2)), (3, .int 0), (4, .int ((bpI t n nc (mkT t n nc np i2) i3 (bpG t n nc np (mkT t n nc np i2) i3) i4).1)), (7, .int (nI i3)), (8, .int (nI i4))]) hx hb dX10_makesPairs_191 hl (by decide) rfl (fun ls hl => ?_)
                    refine lv_iload hx hb dX10_makesPairs_193 (lv_at hl 2 rfl) ?_
                    refine lv_if_eq (tgt := 203) hx hb dX10_makesPairs_195 (by decide) (fun cq38 => ?_) (fun cq38 => ?_)
                    rotate_left
                    · exact absurd cq38 (by decide)
                    refine lv_iload hx hb dX10_makesPairs_203 (lv_at hl 8 rfl) ?_
                    refine lv_istore (lv' := [(4, .int ((bpI t n nc (mkT t n nc np i2) i3 (bpG t n nc np (mkT t n nc np i2) i3) i4).1)), (6, .int ((bpI t n nc (mkT t n nc np i2) i3 (bpG t n nc np (mkT t n nc np i2) i3) i4).2.2)), (5, .int ((bpI t n nc (mkT t n nc np i2) i3 (bpG t n nc np (mkT t n nc np i2) i3) i4).2.1)), (10, .int 0), (9, .int (stU t (wedF n i3 i4) i3 nc)), (0, .ref (a 0)), (1, .int (mkT t n nc np i2)), (2, .int (nI i2)), (3, .int 0), (7, .int (nI i3)), (8, .int (nI i4))]) hx hb dX10_makesPairs_205 hl (by decide) rfl (fun ls hl => ?_)
                    refine lv_iinc (v := nI (i4 + 1)) (lv' := [(8, .int (nI (i4 + 1))), (4, .int ((bpI t n nc (mkT t n nc np i2) i3 (bpG t n nc np (mkT t n nc np i2) i3) i4).1)), (6, .int ((bpI t n nc (mkT t n nc np i2) i3 (bpG t n nc np (mkT t n nc np i2) i3) i4).2.2)), (5, .int ((bpI t n nc (mkT t n nc np i2) i3 (bpG t n nc np (mkT t n nc np i2) i3) i4).2.1)), (10, .int 0), (9, .int (stU t (wedF n i3 i4) i3 nc)), (0, .ref (a 0)), (1, .int (mkT t n nc np i2)), (2, .int (nI i2)), (3, .int 0), (7, .int (nI i3))]) hx hb dX10_makesPairs_207 hl (k := 10) rfl (by rw [show (nI i4 : Int32) = nI i4 from rfl]; exact nI_add _ 1) (by decide) rfl (fun ls hl => ?_)
                    refine lv_goto (tgt := 64) hx hb dX10_makesPairs_210 (by decide) ?_
                    have hbs : bpI t n nc (mkT t n nc np i2) i3 (bpG t n nc np (mkT t n nc np i2) i3) (i4 + 1) = if bpC t n nc (mkT t n nc np i2) (bpI t n nc (mkT t n nc np i2) i3 (bpG t n nc np (mkT t n nc np i2) i3) i4).1 i3 i4 then (jnV t n nc i3 i4, nI i3, nI i4) else bpI t n nc (mkT t n nc np i2) i3 (bpG t n nc np (mkT t n nc np i2) i3) i4 := rfl
                    have e39 : (bpI t n nc (mkT t n nc np i2) i3 (bpG t n nc np (mkT t n nc np i2) i3) i4).1 = (bpI t n nc (mkT t n nc np i2) i3 (bpG t n nc np (mkT t n nc np i2) i3) (i4 + 1)).1 := by rw [hbs]; first | (rw [if_pos hbp]; done) | (rw [if_pos hbp]; rfl) | (rw [if_neg hbp]; done)
                    have e40 : (bpI t n nc (mkT t n nc np i2) i3 (bpG t n nc np (mkT t n nc np i2) i3) i4).2.1 = (bpI t n nc (mkT t n nc np i2) i3 (bpG t n nc np (mkT t n nc np i2) i3) (i4 + 1)).2.1 := by rw [hbs]; first | (rw [if_pos hbp]; done) | (rw [if_neg hbp]; done)
                    have e41 : (bpI t n nc (mkT t n nc np i2) i3 (bpG t n nc np (mkT t n nc np i2) i3) i4).2.2 = (bpI t n nc (mkT t n nc np i2) i3 (bpG t n nc np (mkT t n nc np i2) i3) (i4 + 1)).2.2 := by rw [hbs]; first | (rw [if_pos hbp]; done) | (rw [if_neg hbp]; done)
                    exact ih64 _ _ _ (by omega) ⟨wedF (va_cpy n d_64 0 0 54) i3 i4, hP, hD, hS, lv_sub hl [6, 7, 8, 9, 1, 3, 2, 10, 0] (by rw [← e39, ← e40, ← e41]; rfl), trivial⟩
                  · skip
                    have h148 := i32_nle.mp cq35
                    refine lv_iload hx hb dX10_makesPairs_151 (lv_at hl 0 rfl) ?_
                    refine lv_iload hx hb dX10_makesPairs_153 (lv_at hl 5 rfl) ?_
                    refine lv_icmp_le (tgt := 162) hx hb dX10_makesPairs_155 (by decide) (fun cq42 => ?_) (fun cq42 => ?_)
                    · skip
                      have hbp : ¬ bpC t n nc (mkT t n nc np i2) (bpI t n nc (mkT t n nc np i2) i3 (bpG t n nc np (mkT t n nc np i2) i3) i4).1 i3 i4 := fun q => i32_nlt.mpr cq42 q.2.2.2.2.2.2
                      refine lv_iconst (v := 0) hx hb dX10_makesPairs_162 (by decide) ?_
                      refine lv_istore (lv' := [(10, .int 0), (9, .int (stU t (wedF n i3 i4) i3 nc)), (0, .ref (a 0)), (1, .int (mkT t n nc np i2)), (2, .int (nI i2)), (3, .int 0), (4, .int ((bpI t n nc (mkT t n nc np i2) i3 (bpG t n nc np (mkT t n nc np i2) i3) i4).1)), (5, .int ((bpI t n nc (mkT t n nc np i2) i3 (bpG t n nc np (mkT t n nc np i2) i3) i4).2.1)), (6, .int ((bpI t n nc (mkT t n nc np i2) i3 (bpG t n nc np (mkT t n nc np i2) i3) i4).2.2)), (7, .int (nI i3)), (8, .int (nI i4))]) hx hb dX10_makesPairs_163 hl (by decide) rfl (fun ls hl => ?_)
                      refine lv_iload hx hb dX10_makesPairs_165 (lv_at hl 0 rfl) ?_
                      refine lv_if_eq (tgt := 175) hx hb dX10_makesPairs_167 (by decide) (fun cq43 => ?_) (fun cq43 => ?_)
                      rotate_left
                      · exact absurd cq43 (by decide)
                      refine lv_iload hx hb dX10_makesPairs_175 (lv_at hl 7 rfl) ?_
                      refine lv_istore (lv' := [(5, .int ((bpI t n nc (mkT t n nc np i2) i3 (bpG t n nc np (mkT t n nc np i2) i3) i4).2.1)), (10, .int 0), (9, .int (stU t (wedF n i3 i4) i3 nc)), (0, .ref (a 0)), (1, .int (mkT t n nc np i2)), (2, .int (nI i2)), (3, .int 0), (4, .int ((bpI t n nc (mkT t n nc np i2) i3 (bpG t n nc np (mkT t n nc np i2) i3) i4).1)), (6, .int ((bpI t n nc (mkT t n nc np i2) i3 (bpG t n nc np (mkT t n nc np i2) i3) i4).2.2)), (7, .int (nI i3)), (8, .int (nI i4))]) hx hb dX10_makesPairs_177 hl (by decide) rfl (fun ls hl => ?_)
                      refine lv_iload hx hb dX10_makesPairs_179 (lv_at hl 1 rfl) ?_
                      refine lv_if_eq (tgt := 189) hx hb dX10_makesPairs_181 (by decide) (fun cq44 => ?_) (fun cq44 => ?_)
                      rotate_left
                      · exact absurd cq44 (by decide)
                      refine lv_iload hx hb dX10_makesPairs_189 (lv_at hl 8 rfl) ?_
                      refine lv_istore (lv' := [(6, .int ((bpI t n nc (mkT t n nc np i2) i3 (bpG t n nc np (mkT t n nc np i2) i3) i4).2.2)), (5, .int ((bpI t n nc (mkT t n nc np i2) i3 (bpG t n nc np (mkT t n nc np i2) i3) i4).2.1)), (10, .int 0), (9, .int (stU t (wedF n i3 i4) i3 nc)), (0, .ref (a 0)), (1, .int (mkT t n nc np i2)), (2, .int (nI i2)), (3, .int 0), (4, .int ((bpI t n nc (mkT t n nc np i2) i3 (bpG t n nc np (mkT t n nc np i2) i3) i4).1)), (7, .int (nI i3)), (8, .int (nI i4))]) hx hb dX10_makesPairs_191 hl (by decide) rfl (fun ls hl => ?_)
                      refine lv_iload hx hb dX10_makesPairs_193 (lv_at hl 2 rfl) ?_
                      refine lv_if_eq (tgt := 203) hx hb dX10_makesPairs_195 (by decide) (fun cq45 => ?_) (fun cq45 => ?_)
                      rotate_left
                      · exact absurd cq45 (by decide)
                      refine lv_iload hx hb dX10_makesPairs_203 (lv_at hl 8 rfl) ?_
                      refine lv_istore (lv' := [(4, .int ((bpI t n nc (mkT t n nc np i2) i3 (bpG t n nc np (mkT t n nc np i2) i3) i4).1)), (6, .int ((bpI t n nc (mkT t n nc np i2) i3 (bpG t n nc np (mkT t n nc np i2) i3) i4).2.2)), (5, .int ((bpI t n nc (mkT t n nc np i2) i3 (bpG t n nc np (mkT t n nc np i2) i3) i4).2.1)), (10, .int 0), (9, .int (stU t (wedF n i3 i4) i3 nc)), (0, .ref (a 0)), (1, .int (mkT t n nc np i2)), (2, .int (nI i2)), (3, .int 0), (7, .int (nI i3)), (8, .int (nI i4))]) hx hb dX10_makesPairs_205 hl (by decide) rfl (fun ls hl => ?_)
                      refine lv_iinc (v := nI (i4 + 1)) (lv' := [(8, .int (nI (i4 + 1))), (4, .int ((bpI t n nc (mkT t n nc np i2) i3 (bpG t n nc np (mkT t n nc np i2) i3) i4).1)), (6, .int ((bpI t n nc (mkT t n nc np i2) i3 (bpG t n nc np (mkT t n nc np i2) i3) i4).2.2)), (5, .int ((bpI t n nc (mkT t n nc np i2) i3 (bpG t n nc np (mkT t n nc np i2) i3) i4).2.1)), (10, .int 0), (9, .int (stU t (wedF n i3 i4) i3 nc)), (0, .ref (a 0)), (1, .int (mkT t n nc np i2)), (2, .int (nI i2)), (3, .int 0), (7, .int (nI i3))]) hx hb dX10_makesPairs_207 hl (k := 10) rfl (by rw [show (nI i4 : Int32) = nI i4 from rfl]; exact nI_add _ 1) (by decide) rfl (fun ls hl => ?_)
                      refine lv_goto (tgt := 64) hx hb dX10_makesPairs_210 (by decide) ?_
                      have hbs : bpI t n nc (mkT t n nc np i2) i3 (bpG t n nc np (mkT t n nc np i2) i3) (i4 + 1) = if bpC t n nc (mkT t n nc np i2) (bpI t n nc (mkT t n nc np i2) i3 (bpG t n nc np (mkT t n nc np i2) i3) i4).1 i3 i4 then (jnV t n nc i3 i4, nI i3, nI i4) else bpI t n nc (mkT t n nc np i2) i3 (bpG t n nc np (mkT t n nc np i2) i3) i4 := rfl
                      have e46 : (bpI t n nc (mkT t n nc np i2) i3 (bpG t n nc np (mkT t n nc np i2) i3) i4).1 = (bpI t n nc (mkT t n nc np i2) i3 (bpG t n nc np (mkT t n nc np i2) i3) (i4 + 1)).1 := by rw [hbs]; first | (rw [if_pos hbp]; done) | (rw [if_pos hbp]; rfl) | (rw [if_neg hbp]; done)
                      have e47 : (bpI t n nc (mkT t n nc np i2) i3 (bpG t n nc np (mkT t n nc np i2) i3) i4).2.1 = (bpI t n nc (mkT t n nc np i2) i3 (bpG t n nc np (mkT t n nc np i2) i3) (i4 + 1)).2.1 := by rw [hbs]; first | (rw [if_pos hbp]; done) | (rw [if_neg hbp]; done)
                      have e48 : (bpI t n nc (mkT t n nc np i2) i3 (bpG t n nc np (mkT t n nc np i2) i3) i4).2.2 = (bpI t n nc (mkT t n nc np i2) i3 (bpG t n nc np (mkT t n nc np i2) i3) (i4 + 1)).2.2 := by rw [hbs]; first | (rw [if_pos hbp]; done) | (rw [if_neg hbp]; done)
                      exact ih64 _ _ _ (by omega) ⟨wedF (va_cpy n d_64 0 0 54) i3 i4, hP, hD, hS, lv_sub hl [6, 7, 8, 9, 1, 3, 2, 10, 0] (by rw [← e46, ← e47, ← e48]; rfl), trivial⟩
                    · skip
                      have hbp : bpC t n nc (mkT t n nc np i2) (bpI t n nc (mkT t n nc np i2) i3 (bpG t n nc np (mkT t n nc np i2) i3) i4).1 i3 i4 := ⟨h81, h90, h99, h108, h133, h148, i32_nle.mp cq42⟩
                      refine lv_iconst (v := 1) hx hb dX10_makesPairs_158 (by decide) ?_
                      refine lv_goto (tgt := 163) hx hb dX10_makesPairs_159 (by decide) ?_
                      refine lv_istore (lv' := [(10, .int 1), (9, .int (stU t (wedF n i3 i4) i3 nc)), (0, .ref (a 0)), (1, .int (mkT t n nc np i2)), (2, .int (nI i2)), (3, .int 0), (4, .int ((bpI t n nc (mkT t n nc np i2) i3 (bpG t n nc np (mkT t n nc np i2) i3) i4).1)), (5, .int ((bpI t n nc (mkT t n nc np i2) i3 (bpG t n nc np (mkT t n nc np i2) i3) i4).2.1)), (6, .int ((bpI t n nc (mkT t n nc np i2) i3 (bpG t n nc np (mkT t n nc np i2) i3) i4).2.2)), (7, .int (nI i3)), (8, .int (nI i4))]) hx hb dX10_makesPairs_163 hl (by decide) rfl (fun ls hl => ?_)
                      refine lv_iload hx hb dX10_makesPairs_165 (lv_at hl 0 rfl) ?_
                      refine lv_if_eq (tgt := 175) hx hb dX10_makesPairs_167 (by decide) (fun cq49 => ?_) (fun cq49 => ?_)
                      · exact absurd cq49 (by decide)
                      refine lv_iload hx hb dX10_makesPairs_170 (lv_at hl 9 rfl) ?_
                      refine lv_goto (tgt := 177) hx hb dX10_makesPairs_172 (by decide) ?_
                      refine lv_istore (lv' := [(5, .int (nI i3)), (10, .int 1), (9, .int (stU t (wedF n i3 i4) i3 nc)), (0, .ref (a 0)), (1, .int (mkT t n nc np i2)), (2, .int (nI i2)), (3, .int 0), (4, .int ((bpI t n nc (mkT t n nc np i2) i3 (bpG t n nc np (mkT t n nc np i2) i3) i4).1)), (6, .int ((bpI t n nc (mkT t n nc np i2) i3 (bpG t n nc np (mkT t n nc np i2) i3) i4).2.2)), (7, .int (nI i3)), (8, .int (nI i4))]) hx hb dX10_makesPairs_177 hl (by decide) rfl (fun ls hl => ?_)
                      refine lv_iload hx hb dX10_makesPairs_179 (lv_at hl 1 rfl) ?_
                      refine lv_if_eq (tgt := 189) hx hb dX10_makesPairs_181 (by decide) (fun cq50 => ?_) (fun cq50 => ?_)
                      · exact absurd cq50 (by decide)
                      refine lv_iload hx hb dX10_makesPairs_184 (lv_at hl 10 rfl) ?_
                      refine lv_goto (tgt := 191) hx hb dX10_makesPairs_186 (by decide) ?_
                      refine lv_istore (lv' := [(6, .int (nI i4)), (5, .int (nI i3)), (10, .int 1), (9, .int (stU t (wedF n i3 i4) i3 nc)), (0, .ref (a 0)), (1, .int (mkT t n nc np i2)), (2, .int (nI i2)), (3, .int 0), (4, .int ((bpI t n nc (mkT t n nc np i2) i3 (bpG t n nc np (mkT t n nc np i2) i3) i4).1)), (7, .int (nI i3)), (8, .int (nI i4))]) hx hb dX10_makesPairs_191 hl (by decide) rfl (fun ls hl => ?_)
                      refine lv_iload hx hb dX10_makesPairs_193 (lv_at hl 2 rfl) ?_
                      refine lv_if_eq (tgt := 203) hx hb dX10_makesPairs_195 (by decide) (fun cq51 => ?_) (fun cq51 => ?_)
                      · exact absurd cq51 (by decide)
                      refine lv_iload hx hb dX10_makesPairs_198 (lv_at hl 3 rfl) ?_
                      refine lv_goto (tgt := 205) hx hb dX10_makesPairs_200 (by decide) ?_
                      refine lv_istore (lv' := [(4, .int (stU t (wedF n i3 i4) i3 nc)), (6, .int (nI i4)), (5, .int (nI i3)), (10, .int 1), (9, .int (stU t (wedF n i3 i4) i3 nc)), (0, .ref (a 0)), (1, .int (mkT t n nc np i2)), (2, .int (nI i2)), (3, .int 0), (7, .int (nI i3)), (8, .int (nI i4))]) hx hb dX10_makesPairs_205 hl (by decide) rfl (fun ls hl => ?_)
                      refine lv_iinc (v := nI (i4 + 1)) (lv' := [(8, .int (nI (i4 + 1))), (4, .int (stU t (wedF n i3 i4) i3 nc)), (6, .int (nI i4)), (5, .int (nI i3)), (10, .int 1), (9, .int (stU t (wedF n i3 i4) i3 nc)), (0, .ref (a 0)), (1, .int (mkT t n nc np i2)), (2, .int (nI i2)), (3, .int 0), (7, .int (nI i3))]) hx hb dX10_makesPairs_207 hl (k := 10) rfl (by rw [show (nI i4 : Int32) = nI i4 from rfl]; exact nI_add _ 1) (by decide) rfl (fun ls hl => ?_)
                      refine lv_goto (tgt := 64) hx hb dX10_makesPairs_210 (by decide) ?_
                      have hbs : bpI t n nc (mkT t n nc np i2) i3 (bpG t n nc np (mkT t n nc np i2) i3) (i4 + 1) = if bpC t n nc (mkT t n nc np i2) (bpI t n nc (mkT t n nc np i2) i3 (bpG t n nc np (mkT t n nc np i2) i3) i4).1 i3 i4 then (jnV t n nc i3 i4, nI i3, nI i4) else bpI t n nc (mkT t n nc np i2) i3 (bpG t n nc np (mkT t n nc np i2) i3) i4 := rfl
                      have e52 : stU t (wedF n i3 i4) i3 nc = (bpI t n nc (mkT t n nc np i2) i3 (bpG t n nc np (mkT t n nc np i2) i3) (i4 + 1)).1 := by rw [hbs]; first | (rw [if_pos hbp]; done) | (rw [if_pos hbp]; rfl) | (rw [if_neg hbp]; done)
                      have e53 : nI i3 = (bpI t n nc (mkT t n nc np i2) i3 (bpG t n nc np (mkT t n nc np i2) i3) (i4 + 1)).2.1 := by rw [hbs]; first | (rw [if_pos hbp]; done) | (rw [if_neg hbp]; done)
                      have e54 : nI i4 = (bpI t n nc (mkT t n nc np i2) i3 (bpG t n nc np (mkT t n nc np i2) i3) (i4 + 1)).2.2 := by rw [hbs]; first | (rw [if_pos hbp]; done) | (rw [if_neg hbp]; done)
                      exact ih64 _ _ _ (by omega) ⟨wedF (va_cpy n d_64 0 0 54) i3 i4, hP, hD, hS, lv_sub hl [6, 7, 8, 9, 1, 3, 2, 10, 0] (by rw [← e52, ← e53, ← e54]; rfl), trivial⟩
  · skip
    refine lv_aload_n hx hb dX10_makesPairs_15 rfl (lv_at hl 0 rfl) ?_
    refine va_get (D := G.1) (ci := 10) (v := .ref (a 13)) (C := RX10) (T := TX10) (N := 25) hx hb hts k2 hown hK hP 0 rfl rfl 24 (by decide) k3 (fun _ h9 => h9) rfl dX10_makesPairs_16 ?_
    refine lv_iload_n hx hb dX10_makesPairs_19 rfl (lv_at hl 3 rfl) ?_
    refine lv_iconst (v := (-1)) hx hb dX10_makesPairs_20 (by decide) ?_
    refine n_iast hx hb hK hP hD hS 13 0 rfl rfl (x := (-1)) (j := i1) rfl (by omega) (by decide) dX10_makesPairs_21 (wsn := mW G a i j t r n d ps im kp tx cd bk py pt (upd (upto mt (fun _ => -1) i1) i1 (-1))) rfl (fun H locs hP hD hS => ?_)
    refine lv_iinc (v := nI (i1 + 1)) (lv' := [(3, .int (nI (i1 + 1))), (0, .ref (a 0)), (1, .int (wedS n 8)), (2, .int 0)]) hx hb dX10_makesPairs_22 hl (k := 3) rfl (by rw [show (nI i1 : Int32) = nI i1 from rfl]; exact nI_add _ 1) (by decide) rfl (fun ls hl => ?_)
    refine lv_goto (tgt := 9) hx hb dX10_makesPairs_25 (by decide) ?_
    have e55 : (upd (upto mt (fun _ => -1) i1) i1 (-1)) = upto mt (fun _ => -1) (i1 + 1) := upto_v rfl
    rw [e55] at hP hD
    exact ih9 _ _ _ (by omega) ⟨hP, hD, hS, lv_sub hl [1, 2, 3, 0] (rfl), trivial⟩
theorem hd_X10_matches : yX10_matches.cls = RX10 ∧ yX10_matches.cls ≠ "java/lang/invoke/MethodHandle" ∧ yX10_matches.cls ≠ "java/lang/invoke/VarHandle" ∧ (parseMethodDescriptor yX10_matches.desc).map (fun d => d.parameters.length) = some 1 := by decide +kernel
set_option maxRecDepth 100000 in
set_option maxHeartbeats 4000000 in
theorem c_X10_matches (l : Launch) (G : gG) (a : Nat → Nat) (i : Nat → Int32) (j : Nat → Int32) (t : Nat → Int32) (r : Nat → Int32) (n : Nat → Int32) (d : Nat → Int32) (ps : Nat → Int32) (im : Nat → Int32) (kp : Nat → Int32) (tx : Nat → Int32) (cd : Nat → Int32) (bk : Nat → Int32) (py : Nat → Int32) (pt : Nat → Int32) (mt : Nat → Int32) (nc : Nat) (np : Nat) (x : Int32) (hT : tw t nc np) : mE l yX10_matches wsX10_matches ({ frames := 5, cells := 0, slots := 0, locals := 122 }) G (mW G a i j t r n d ps im kp tx cd bk py pt mt) (fun u : (Nat → Int32) × (Nat → Int32) => mW G a i j t r n u.1 ps im kp tx cd bk py pt u.2) [.ref (a 0), .int x] (.returned (some (.int (maR t n nc np x)))) := by
  refine mE.of (cc := cX10_matches) (maxL := 3) (ret := (some .int)) (by decide) rfl (Nat.le_of_ble_eq_true rfl) ?_
  intro zp ze zs zm zb zt zc ls A hAe C hP hK hD hS hl
  obtain ⟨hx, hb, hr, hml, hown, hts, hlk⟩ := id C
  have hl : lv_has ls 3 [(0, .ref (a 0)), (1, .int x)] := hl
  have hT2 := hT.2.2
  have k0 := hts (.fieldLink RX10 51 "DebtDowryModel" "mates" "[I") (by decide +kernel)
  have k1 := (fun w h => by revert w; decide +kernel : ∀ w ∈ wsX100, w ∈ wsX10_matches)
  have k2 := hts (.constant RX10 175 (-1000000001)) (by decide +kernel)
  refine lv_iload_n hx hb dX10_matches_0 rfl (lv_at hl 1 rfl) ?_
  refine lv_iconst (v := (-1)) hx hb dX10_matches_1 (by decide) ?_
  refine lv_icmp_eq (tgt := 16) hx hb dX10_matches_2 (by decide) (fun cq1 => ?_) (fun cq1 => ?_)
  · skip
    have h2 := cq1
    refine lv_aload_n hx hb dX10_matches_16 rfl (lv_at hl 0 rfl) ?_
    refine cE_V (Cn := RX10) (n := 0) (As := []) (rest := []) (Fn := fun u : (Nat → Int32) => mW G a i j t r n u ps im kp tx cd bk py pt (mkM t n nc np (upto mt (fun _ => -1) 8) (mkN t n nc np 8 0))) C (c_X10_makesPairs l G a i j t r n d ps im kp tx cd bk py pt mt nc np  hT) gX10_matches_X10_makesPairs rfl ⟨rfl, rfl⟩ hd_X10_makesPairs ⟨(Nat.le_of_ble_eq_true rfl), (Nat.le_of_ble_eq_true rfl)⟩ hK hP hD hS [0, 1, 2, 3, 4, 5, 6, 7, 8, 9, 10, 11, 12, 13] (by decide) rfl (fun _ => (mW_f.trans mW_f.symm)) (fun _ => rfl) (fun _ => (mW_f.trans mW_f.symm)) (va_recv hK hP (ci := 10) (q0 := 0) rfl rfl) rfl hl.1 rfl (Nat.le_of_ble_eq_true rfl) dX10_matches_17 ⟨(Nat.le_of_ble_eq_true rfl), (Nat.le_of_ble_eq_true rfl)⟩ (fun u2 H locs hP hD hS => ?_)
    have hP : va_P G.1 vwCl (mW G a i j t r n u2 ps im kp tx cd bk py pt (mkM t n nc np (upto mt (fun _ => -1) 8) (mkN t n nc np 8 0))) H := hP
    have hD : va_D A (mW G a i j t r n u2 ps im kp tx cd bk py pt (mkM t n nc np (upto mt (fun _ => -1) 8) (mkN t n nc np 8 0))) := hD
    refine lv_istore_n (lv' := [(2, .int (nI (mkN t n nc np 8 0))), (0, .ref (a 0)), (1, .int x)]) hx hb dX10_matches_20 rfl hl (by decide) rfl (fun ls hl => ?_)
    refine lv_iload_n hx hb dX10_matches_21 rfl (lv_at hl 2 rfl) ?_
    refine lv_iconst (v := (-1)) hx hb dX10_matches_22 (by decide) ?_
    refine lv_icmp_ne (tgt := 30) hx hb dX10_matches_23 (by decide) (fun cq3 => ?_) (fun cq3 => ?_)
    · exact absurd h2 cq3
    · skip
      refine lv_iload_n hx hb dX10_matches_26 rfl (lv_at hl 0 rfl) ?_
      refine lv_goto (tgt := 36) hx hb dX10_matches_27 (by decide) ?_
      exact mE_iret hAe C (u := (u2, mkM t n nc np (upto mt (fun _ => -1) 8) (mkN t n nc np 8 0))) hP hS dX10_matches_36 (by rw [maR, if_neg (fun q => q.1 h2), if_pos h2])
  · skip
    have h2 := cq1
    refine lv_aload_n hx hb dX10_matches_5 rfl (lv_at hl 0 rfl) ?_
    refine lv_iload_n hx hb dX10_matches_6 rfl (lv_at hl 1 rfl) ?_
    refine cR_V (Cn := RX10) (n := 1) (As := [.int x]) (rest := []) C (c_X10_isGirl l G a i j t r n d ps im kp tx cd bk py pt mt  x ) gX10_matches_X10_isGirl rfl ⟨rfl, rfl⟩ hd_X10_isGirl ⟨(Nat.le_of_ble_eq_true rfl), (Nat.le_of_ble_eq_true rfl)⟩ hK hP (va_recv hK hP (ci := 10) (q0 := 0) rfl rfl) rfl hl.1 rfl (Nat.le_of_ble_eq_true rfl) dX10_matches_7 ⟨(Nat.le_of_ble_eq_true rfl), (Nat.le_of_ble_eq_true rfl)⟩ ?_
    refine b_if_ne (tgt := 16) hx hb dX10_matches_10 (by decide) (fun cq4 => ?_) (fun cq4 => ?_)
    · skip
      have h10 := cq4
      obtain ⟨xx, hxx, rfl⟩ := inB_nat hT.2.1 (by omega) (And.left cq4)
      have hcl_xx := cl_nI (n := xx) (by omega)
      have hne := nI_m1 (k := xx) (by omega)
      refine lv_aload_n hx hb dX10_matches_16 rfl (lv_at hl 0 rfl) ?_
      refine cE_V (Cn := RX10) (n := 0) (As := []) (rest := []) (Fn := fun u : (Nat → Int32) => mW G a i j t r n u ps im kp tx cd bk py pt (mkM t n nc np (upto mt (fun _ => -1) 8) (mkN t n nc np 8 0))) C (c_X10_makesPairs l G a i j t r n d ps im kp tx cd bk py pt mt nc np  hT) gX10_matches_X10_makesPairs rfl ⟨rfl, rfl⟩ hd_X10_makesPairs ⟨(Nat.le_of_ble_eq_true rfl), (Nat.le_of_ble_eq_true rfl)⟩ hK hP hD hS [0, 1, 2, 3, 4, 5, 6, 7, 8, 9, 10, 11, 12, 13] (by decide) rfl (fun _ => (mW_f.trans mW_f.symm)) (fun _ => rfl) (fun _ => (mW_f.trans mW_f.symm)) (va_recv hK hP (ci := 10) (q0 := 0) rfl rfl) rfl hl.1 rfl (Nat.le_of_ble_eq_true rfl) dX10_matches_17 ⟨(Nat.le_of_ble_eq_true rfl), (Nat.le_of_ble_eq_true rfl)⟩ (fun u5 H locs hP hD hS => ?_)
      have hP : va_P G.1 vwCl (mW G a i j t r n u5 ps im kp tx cd bk py pt (mkM t n nc np (upto mt (fun _ => -1) 8) (mkN t n nc np 8 0))) H := hP
      have hD : va_D A (mW G a i j t r n u5 ps im kp tx cd bk py pt (mkM t n nc np (upto mt (fun _ => -1) 8) (mkN t n nc np 8 0))) := hD
      refine lv_istore_n (lv' := [(2, .int (nI (mkN t n nc np 8 0))), (0, .ref (a 0)), (1, .int (nI xx))]) hx hb dX10_matches_20 rfl hl (by decide) rfl (fun ls hl => ?_)
      refine lv_iload_n hx hb dX10_matches_21 rfl (lv_at hl 2 rfl) ?_
      refine lv_iconst (v := (-1)) hx hb dX10_matches_22 (by decide) ?_
      refine lv_icmp_ne (tgt := 30) hx hb dX10_matches_23 (by decide) (fun cq6 => ?_) (fun cq6 => ?_)
      · skip
        refine lv_aload_n hx hb dX10_matches_30 rfl (lv_at hl 1 rfl) ?_
        refine va_get (D := G.1) (ci := 10) (v := .ref (a 13)) (C := RX10) (T := TX10) (N := 25) hx hb hts k1 hown hK hP 0 rfl rfl 24 (by decide) k0 (fun _ h9 => h9) rfl dX10_matches_31 ?_
        refine lv_iload_n hx hb dX10_matches_34 rfl (lv_at hl 2 rfl) ?_
        refine n_iald hx hb hK hP 13 0 rfl rfl (j := xx) rfl (by omega) (by decide) dX10_matches_35 ?_
        exact mE_iret hAe C (u := (u5, mkM t n nc np (upto mt (fun _ => -1) 8) (mkN t n nc np 8 0))) hP hS dX10_matches_36 (by rw [maR, if_neg (fun q => q.2 h10), if_neg hne, hcl_xx]; exact mkM_c (fun k hk => if_pos hk) _ _ (by omega))
      · exact absurd cq6 hne
    · skip
      refine lv_ldc hx hb hown k2 dX10_matches_13 ?_
      exact mE_iret hAe C (u := (d, mt)) hP hS dX10_matches_15 (by rw [maR, if_pos ⟨h2, cq4⟩])
