theorem hd_X10_lookAt : yX10_lookAt.cls = RX10 ∧ yX10_lookAt.cls ≠ "java/lang/invoke/MethodHandle" ∧ yX10_lookAt.cls ≠ "java/lang/invoke/VarHandle" ∧ (parseMethodDescriptor yX10_lookAt.desc).map (fun d => d.parameters.length) = some 2 := by decide +kernel
set_option maxRecDepth 100000 in
set_option maxHeartbeats 4000000 in
theorem c_X10_lookAt (l : Launch) (G : gG) (a : Nat → Nat) (i : Nat → Int32) (j : Nat → Int32) (t : Nat → Int32) (r : Nat → Int32) (n : Nat → Int32) (d : Nat → Int32) (ps : Nat → Int32) (im : Nat → Int32) (kp : Nat → Int32) (tx : Nat → Int32) (cd : Nat → Int32) (bk : Nat → Int32) (py : Nat → Int32) (pt : Nat → Int32) (mt : Nat → Int32) (nc : Nat) (np : Nat) (cm : Nat) (p : Int32) (c : Int32) (hT : tw t nc np) (hcm : i 13 = nI cm) (hcl : cm ≤ 6) (hQ : ∀ k, k < cm → ∃ q, q ≤ 12 ∧ cd (4 * k + 2) = nI q) : mR l yX10_lookAt wsX10_lookAt ({ frames := 5, cells := 0, slots := 0, locals := 119 }) G (mW G a i j t r n d ps im kp tx cd bk py pt mt) [.ref (a 0), .int p, .int c] (loR t cd cm p c) := by
  refine mR.of (cc := cX10_lookAt) (maxL := 9) (ret := (some .int)) (by decide) rfl (Nat.le_of_ble_eq_true rfl) ?_
  intro zp ze zs zm zb zt zc ls C hP hK hl
  obtain ⟨hx, hb, hr, hml, hown, hts, hlk⟩ := id C
  have hl : lv_has ls 9 [(0, .ref (a 0)), (1, .int p), (2, .int c)] := hl
  have hT2 := hT.2.2
  have k0 := hts (.constant RX10 175 (-1000000001)) (by decide +kernel)
  refine lv_aload_n hx hb dX10_lookAt_0 rfl (lv_at hl 0 rfl) ?_
  refine lv_iload_n hx hb dX10_lookAt_1 rfl (lv_at hl 1 rfl) ?_
  refine cR_V (Cn := RX10) (n := 1) (As := [.int p]) (rest := []) C (c_X10_isPerson l G a i j t r n d ps im kp tx cd bk py pt mt  p ) gX10_lookAt_X10_isPerson rfl ⟨rfl, rfl⟩ hd_X10_isPerson ⟨(Nat.le_of_ble_eq_true rfl), (Nat.le_of_ble_eq_true rfl)⟩ hK hP (va_recv hK hP (ci := 10) (q0 := 0) rfl rfl) rfl hl.1 rfl (Nat.le_of_ble_eq_true rfl) dX10_lookAt_2 ⟨(Nat.le_of_ble_eq_true rfl), (Nat.le_of_ble_eq_true rfl)⟩ ?_
  refine b_if_eq (tgt := 16) hx hb dX10_lookAt_5 (by decide) (fun cq1 => ?_) (fun cq1 => ?_)
  · skip
    refine lv_ldc hx hb hown k0 dX10_lookAt_16 ?_
    exact mR_iret C dX10_lookAt_18 (by simp [loR, cq1])
  · skip
    obtain ⟨pp, hpp, rfl⟩ := inB_nat hT.2.1 (by omega) cq1
    have hcl_pp := cl_nI (n := pp) (by omega)
    refine lv_aload_n hx hb dX10_lookAt_8 rfl (lv_at hl 0 rfl) ?_
    refine lv_iload_n hx hb dX10_lookAt_9 rfl (lv_at hl 2 rfl) ?_
    refine cR_V (Cn := RX10) (n := 1) (As := [.int c]) (rest := []) C (c_X10_isCreditor l G a i j t r n d ps im kp tx cd bk py pt mt  c ) gX10_lookAt_X10_isCreditor rfl ⟨rfl, rfl⟩ hd_X10_isCreditor ⟨(Nat.le_of_ble_eq_true rfl), (Nat.le_of_ble_eq_true rfl)⟩ hK hP (va_recv hK hP (ci := 10) (q0 := 0) rfl rfl) rfl hl.1 rfl (Nat.le_of_ble_eq_true rfl) dX10_lookAt_10 ⟨(Nat.le_of_ble_eq_true rfl), (Nat.le_of_ble_eq_true rfl)⟩ ?_
    refine b_if_ne (tgt := 19) hx hb dX10_lookAt_13 (by decide) (fun cq2 => ?_) (fun cq2 => ?_)
    · skip
      obtain ⟨cc, hcc, rfl⟩ := inB_nat hT.1 (by omega) cq2
      have hcl_cc := cl_nI (n := cc) (by omega)
      refine lv_iconst (v := (-1)) hx hb dX10_lookAt_19 (by decide) ?_
      refine lv_istore_n (lv' := [(3, .int (-1)), (0, .ref (a 0)), (1, .int (nI pp)), (2, .int (nI cc))]) hx hb dX10_lookAt_20 rfl hl (by decide) rfl (fun ls hl => ?_)
      refine lv_aload_n hx hb dX10_lookAt_21 rfl (lv_at hl 1 rfl) ?_
      refine lv_iload_n hx hb dX10_lookAt_22 rfl (lv_at hl 2 rfl) ?_
      refine lv_iload_n hx hb dX10_lookAt_23 rfl (lv_at hl 3 rfl) ?_
      refine lv_iconst (v := 0) hx hb dX10_lookAt_24 (by decide) ?_
      refine cR_V (Cn := RX10) (n := 3) (As := [.int (nI pp), .int (nI cc), .int 0]) (rest := []) C (c_X10_had l G a i j t r n d ps im kp tx cd bk py pt mt nc np cm (nI pp) (nI cc) 0 hT hcm hcl hQ) gX10_lookAt_X10_had rfl ⟨rfl, rfl⟩ hd_X10_had ⟨(Nat.le_of_ble_eq_true rfl), (Nat.le_of_ble_eq_true rfl)⟩ hK hP (va_recv hK hP (ci := 10) (q0 := 0) rfl rfl) rfl hl.1 rfl (Nat.le_of_ble_eq_true rfl) dX10_lookAt_25 ⟨(Nat.le_of_ble_eq_true rfl), (Nat.le_of_ble_eq_true rfl)⟩ ?_
      rw [show haR t cd cm (nI pp) (nI cc) 0 = lkA t cd cm pp cc from by simp [haR, lkA, cq1, hcl_pp, cq2, hcl_cc]]
      refine lv_istore (lv' := [(4, .int (lkA t cd cm pp cc)), (3, .int (-1)), (0, .ref (a 0)), (1, .int (nI pp)), (2, .int (nI cc))]) hx hb dX10_lookAt_28 hl (by decide) rfl (fun ls hl => ?_)
      refine lv_iload hx hb dX10_lookAt_30 (lv_at hl 0 rfl) ?_
      refine lv_istore (lv' := [(5, .int (lkA t cd cm pp cc)), (4, .int (lkA t cd cm pp cc)), (3, .int (-1)), (0, .ref (a 0)), (1, .int (nI pp)), (2, .int (nI cc))]) hx hb dX10_lookAt_32 hl (by decide) rfl (fun ls hl => ?_)
      refine lv_iconst (v := 0) hx hb dX10_lookAt_34 (by decide) ?_
      refine lv_istore (lv' := [(6, .int 0), (5, .int (lkA t cd cm pp cc)), (4, .int (lkA t cd cm pp cc)), (3, .int (-1)), (0, .ref (a 0)), (1, .int (nI pp)), (2, .int (nI cc))]) hx hb dX10_lookAt_35 hl (by decide) rfl (fun ls hl => ?_)
      refine wl_R (B := 13) (i0 := 0) (Inv := fun i1 ls => lv_has ls 9 [(0, .ref (a 0)), (1, .int (nI pp)), (2, .int (nI cc)), (3, .int (lkW t cd cm pp cc i1)), (4, .int (lkF t cd cm pp cc i1)), (5, .int (lkA t cd cm pp cc)), (6, .int (nI i1))] ∧ True) (by omega) ⟨lv_sub hl [4, 5, 6, 3, 2, 1, 0] (rfl), trivial⟩ ?_
      rintro i1 ls hle37 ⟨hl, -⟩ ih37
      refine lv_iload hx hb dX10_lookAt_37 (lv_at hl 6 rfl) ?_
      refine lv_bipush (v := 13) hx hb dX10_lookAt_39 (by decide) ?_
      refine n_icmp_ge (tgt := 147) hx hb dX10_lookAt_41 (by decide) (u := i1) (v := 13) rfl rfl (by omega) (by omega) (fun cq3 => ?_) (fun cq3 => ?_)
      · skip
        obtain rfl : i1 = 13 := by omega
        refine lv_iload_n hx hb dX10_lookAt_147 rfl (lv_at hl 3 rfl) ?_
        exact mR_iret C dX10_lookAt_148 (by simp [loR, cq1, hcl_pp, cq2, hcl_cc, cq3])
      · skip
        refine lv_iconst (v := 0) hx hb dX10_lookAt_44 (by decide) ?_
        refine lv_istore (lv' := [(7, .int 0), (0, .ref (a 0)), (1, .int (nI pp)), (2, .int (nI cc)), (3, .int (lkW t cd cm pp cc i1)), (4, .int (lkF t cd cm pp cc i1)), (5, .int (lkA t cd cm pp cc)), (6, .int (nI i1))]) hx hb dX10_lookAt_45 hl (by decide) rfl (fun ls hl => ?_)
        refine lv_iconst (v := 0) hx hb dX10_lookAt_47 (by decide) ?_
        refine lv_istore (lv' := [(8, .int 0), (7, .int 0), (0, .ref (a 0)), (1, .int (nI pp)), (2, .int (nI cc)), (3, .int (lkW t cd cm pp cc i1)), (4, .int (lkF t cd cm pp cc i1)), (5, .int (lkA t cd cm pp cc)), (6, .int (nI i1))]) hx hb dX10_lookAt_48 hl (by decide) rfl (fun ls hl => ?_)
        refine wl_R (B := 100) (i0 := 0) (Inv := fun i2 ls => lv_has ls 9 [(0, .ref (a 0)), (1, .int (nI pp)), (2, .int (nI cc)), (3, .int (lkW t cd cm pp cc i1)), (4, .int (lkF t cd cm pp cc i1)), (5, .int (lkA t cd cm pp cc)), (6, .int (nI i1)), (7, .int (cntU (civP t cd cm pp cc i1) i2)), (8, .int (nI i2))] ∧ True) (by omega) ⟨lv_sub hl [2, 3, 4, 5, 6, 7, 8, 1, 0] (rfl), trivial⟩ ?_
        rintro i2 ls hle50 ⟨hl, -⟩ ih50
        refine lv_iload hx hb dX10_lookAt_50 (lv_at hl 8 rfl) ?_
        refine lv_bipush (v := 100) hx hb dX10_lookAt_52 (by decide) ?_
        refine n_icmp_ge (tgt := 96) hx hb dX10_lookAt_54 (by decide) (u := i2) (v := 100) rfl rfl (by omega) (by omega) (fun cq4 => ?_) (fun cq4 => ?_)
        · skip
          obtain rfl : i2 = 100 := by omega
          refine lv_iload hx hb dX10_lookAt_96 (lv_at hl 7 rfl) ?_
          refine lv_iload hx hb dX10_lookAt_98 (lv_at hl 5 rfl) ?_
          refine lv_iload hx hb dX10_lookAt_100 (lv_at hl 7 rfl) ?_
          refine lv_isub hx hb dX10_lookAt_102 ?_
          refine lv_icmp_le (tgt := 111) hx hb dX10_lookAt_103 (by decide) (fun cq5 => ?_) (fun cq5 => ?_)
          · skip
            have hgr : lkA t cd cm pp cc - cntU (civP t cd cm pp cc i1) 100 = lkG t cd cm pp cc i1 := (if_neg (i32_nlt.mpr cq5)).symm
            refine lv_iload hx hb dX10_lookAt_111 (lv_at hl 5 rfl) ?_
            refine lv_iload hx hb dX10_lookAt_113 (lv_at hl 7 rfl) ?_
            refine lv_isub hx hb dX10_lookAt_115 ?_
            rw [hgr]
            refine lv_istore (lv' := [(8, .int (lkG t cd cm pp cc i1)), (0, .ref (a 0)), (1, .int (nI pp)), (2, .int (nI cc)), (3, .int (lkW t cd cm pp cc i1)), (4, .int (lkF t cd cm pp cc i1)), (5, .int (lkA t cd cm pp cc)), (6, .int (nI i1)), (7, .int (cntU (civP t cd cm pp cc i1) 100))]) hx hb dX10_lookAt_116 hl (by decide) rfl (fun ls hl => ?_)
            refine lv_iload hx hb dX10_lookAt_118 (lv_at hl 0 rfl) ?_
            refine lv_iload hx hb dX10_lookAt_120 (lv_at hl 5 rfl) ?_
            refine lv_icmp_ge (tgt := 130) hx hb dX10_lookAt_122 (by decide) (fun cq6 => ?_) (fun cq6 => ?_)
            · skip
              have hlt : ¬ lkG t cd cm pp cc i1 < lkF t cd cm pp cc i1 := i32_nlt.mpr cq6
              refine lv_iload_n hx hb dX10_lookAt_130 rfl (lv_at hl 4 rfl) ?_
              refine lv_istore_n (lv' := [(3, .int (lkW t cd cm pp cc i1)), (8, .int (lkG t cd cm pp cc i1)), (0, .ref (a 0)), (1, .int (nI pp)), (2, .int (nI cc)), (4, .int (lkF t cd cm pp cc i1)), (5, .int (lkA t cd cm pp cc)), (6, .int (nI i1)), (7, .int (cntU (civP t cd cm pp cc i1) 100))]) hx hb dX10_lookAt_131 rfl hl (by decide) rfl (fun ls hl => ?_)
              refine lv_iload hx hb dX10_lookAt_132 (lv_at hl 5 rfl) ?_
              refine lv_iload hx hb dX10_lookAt_134 (lv_at hl 1 rfl) ?_
              refine cR_S (n := 2) (As := [.int (lkF t cd cm pp cc i1), .int (lkG t cd cm pp cc i1)]) (rest := []) C (c_X10_lesser l G    (lkF t cd cm pp cc i1) (lkG t cd cm pp cc i1) ) gX10_lookAt_X10_lesser rfl ⟨rfl, rfl⟩ hd_X10_lesser ⟨(Nat.le_of_ble_eq_true rfl), (Nat.le_of_ble_eq_true rfl)⟩ hK (hP.sub [] rfl) rfl hl.1 rfl (Nat.le_of_ble_eq_true rfl) dX10_lookAt_136 ⟨(Nat.le_of_ble_eq_true rfl), (Nat.le_of_ble_eq_true rfl)⟩ ?_
              refine lv_istore (lv' := [(4, .int (lessI (lkF t cd cm pp cc i1) (lkG t cd cm pp cc i1))), (3, .int (lkW t cd cm pp cc i1)), (8, .int (lkG t cd cm pp cc i1)), (0, .ref (a 0)), (1, .int (nI pp)), (2, .int (nI cc)), (5, .int (lkA t cd cm pp cc)), (6, .int (nI i1)), (7, .int (cntU (civP t cd cm pp cc i1) 100))]) hx hb dX10_lookAt_139 hl (by decide) rfl (fun ls hl => ?_)
              refine lv_iinc (v := nI (i1 + 1)) (lv' := [(6, .int (nI (i1 + 1))), (4, .int (lessI (lkF t cd cm pp cc i1) (lkG t cd cm pp cc i1))), (3, .int (lkW t cd cm pp cc i1)), (8, .int (lkG t cd cm pp cc i1)), (0, .ref (a 0)), (1, .int (nI pp)), (2, .int (nI cc)), (5, .int (lkA t cd cm pp cc)), (7, .int (cntU (civP t cd cm pp cc i1) 100))]) hx hb dX10_lookAt_141 hl (k := 7) rfl (by rw [show (nI i1 : Int32) = nI i1 from rfl]; exact nI_add _ 1) (by decide) rfl (fun ls hl => ?_)
              refine lv_goto (tgt := 37) hx hb dX10_lookAt_144 (by decide) ?_
              have e7 : lkW t cd cm pp cc i1 = lkW t cd cm pp cc (i1 + 1) := by first | exact (if_pos hlt).symm | exact (if_neg hlt).symm
              have e8 : lessI (lkF t cd cm pp cc i1) (lkG t cd cm pp cc i1) = lkF t cd cm pp cc (i1 + 1) := rfl
              exact ih37 _ (by omega) ⟨lv_sub hl [4, 5, 6, 2, 1, 7, 0] (by rw [← e7, ← e8]; rfl), trivial⟩
            · skip
              have hlt : lkG t cd cm pp cc i1 < lkF t cd cm pp cc i1 := i32_nle.mp cq6
              refine lv_iload hx hb dX10_lookAt_125 (lv_at hl 7 rfl) ?_
              refine lv_goto (tgt := 131) hx hb dX10_lookAt_127 (by decide) ?_
              refine lv_istore_n (lv' := [(3, .int (nI i1)), (8, .int (lkG t cd cm pp cc i1)), (0, .ref (a 0)), (1, .int (nI pp)), (2, .int (nI cc)), (4, .int (lkF t cd cm pp cc i1)), (5, .int (lkA t cd cm pp cc)), (6, .int (nI i1)), (7, .int (cntU (civP t cd cm pp cc i1) 100))]) hx hb dX10_lookAt_131 rfl hl (by decide) rfl (fun ls hl => ?_)
              refine lv_iload hx hb dX10_lookAt_132 (lv_at hl 5 rfl) ?_
              refine lv_iload hx hb dX10_lookAt_134 (lv_at hl 1 rfl) ?_
              refine cR_S (n := 2) (As := [.int (lkF t cd cm pp cc i1), .int (lkG t cd cm pp cc i1)]) (rest := []) C (c_X10_lesser l G    (lkF t cd cm pp cc i1) (lkG t cd cm pp cc i1) ) gX10_lookAt_X10_lesser rfl ⟨rfl, rfl⟩ hd_X10_lesser ⟨(Nat.le_of_ble_eq_true rfl), (Nat.le_of_ble_eq_true rfl)⟩ hK (hP.sub [] rfl) rfl hl.1 rfl (Nat.le_of_ble_eq_true rfl) dX10_lookAt_136 ⟨(Nat.le_of_ble_eq_true rfl), (Nat.le_of_ble_eq_true rfl)⟩ ?_
              refine lv_istore (lv' := [(4, .int (lessI (lkF t cd cm pp cc i1) (lkG t cd cm pp cc i1))), (3, .int (nI i1)), (8, .int (lkG t cd cm pp cc i1)), (0, .ref (a 0)), (1, .int (nI pp)), (2, .int (nI cc)), (5, .int (lkA t cd cm pp cc)), (6, .int (nI i1)), (7, .int (cntU (civP t cd cm pp cc i1) 100))]) hx hb dX10_lookAt_139 hl (by decide) rfl (fun ls hl => ?_)
              refine lv_iinc (v := nI (i1 + 1)) (lv' := [(6, .int (nI (i1 + 1))), (4, .int (lessI (lkF t cd cm pp cc i1) (lkG t cd cm pp cc i1))), (3, .int (nI i1)), (8, .int (lkG t cd cm pp cc i1)), (0, .ref (a 0)), (1, .int (nI pp)), (2, .int (nI cc)), (5, .int (lkA t cd cm pp cc)), (7, .int (cntU (civP t cd cm pp cc i1) 100))]) hx hb dX10_lookAt_141 hl (k := 7) rfl (by rw [show (nI i1 : Int32) = nI i1 from rfl]; exact nI_add _ 1) (by decide) rfl (fun ls hl => ?_)
              refine lv_goto (tgt := 37) hx hb dX10_lookAt_144 (by decide) ?_
              have e9 : nI i1 = lkW t cd cm pp cc (i1 + 1) := by first | exact (if_pos hlt).symm | exact (if_neg hlt).symm
              have e10 : lessI (lkF t cd cm pp cc i1) (lkG t cd cm pp cc i1) = lkF t cd cm pp cc (i1 + 1) := rfl
              exact ih37 _ (by omega) ⟨lv_sub hl [4, 5, 6, 2, 1, 7, 0] (by rw [← e9, ← e10]; rfl), trivial⟩
          · skip
            have hgr : cntU (civP t cd cm pp cc i1) 100 = lkG t cd cm pp cc i1 := (if_pos (i32_nle.mp cq5)).symm
            refine lv_iload hx hb dX10_lookAt_106 (lv_at hl 7 rfl) ?_
            refine lv_goto (tgt := 116) hx hb dX10_lookAt_108 (by decide) ?_
            rw [hgr]
            refine lv_istore (lv' := [(8, .int (lkG t cd cm pp cc i1)), (0, .ref (a 0)), (1, .int (nI pp)), (2, .int (nI cc)), (3, .int (lkW t cd cm pp cc i1)), (4, .int (lkF t cd cm pp cc i1)), (5, .int (lkA t cd cm pp cc)), (6, .int (nI i1)), (7, .int (cntU (civP t cd cm pp cc i1) 100))]) hx hb dX10_lookAt_116 hl (by decide) rfl (fun ls hl => ?_)
            refine lv_iload hx hb dX10_lookAt_118 (lv_at hl 0 rfl) ?_
            refine lv_iload hx hb dX10_lookAt_120 (lv_at hl 5 rfl) ?_
            refine lv_icmp_ge (tgt := 130) hx hb dX10_lookAt_122 (by decide) (fun cq11 => ?_) (fun cq11 => ?_)
            · skip
              have hlt : ¬ lkG t cd cm pp cc i1 < lkF t cd cm pp cc i1 := i32_nlt.mpr cq11
              refine lv_iload_n hx hb dX10_lookAt_130 rfl (lv_at hl 4 rfl) ?_
              refine lv_istore_n (lv' := [(3, .int (lkW t cd cm pp cc i1)), (8, .int (lkG t cd cm pp cc i1)), (0, .ref (a 0)), (1, .int (nI pp)), (2, .int (nI cc)), (4, .int (lkF t cd cm pp cc i1)), (5, .int (lkA t cd cm pp cc)), (6, .int (nI i1)), (7, .int (cntU (civP t cd cm pp cc i1) 100))]) hx hb dX10_lookAt_131 rfl hl (by decide) rfl (fun ls hl => ?_)
              refine lv_iload hx hb dX10_lookAt_132 (lv_at hl 5 rfl) ?_
              refine lv_iload hx hb dX10_lookAt_134 (lv_at hl 1 rfl) ?_
              refine cR_S (n := 2) (As := [.int (lkF t cd cm pp cc i1), .int (lkG t cd cm pp cc i1)]) (rest := []) C (c_X10_lesser l G    (lkF t cd cm pp cc i1) (lkG t cd cm pp cc i1) ) gX10_lookAt_X10_lesser rfl ⟨rfl, rfl⟩ hd_X10_lesser ⟨(Nat.le_of_ble_eq_true rfl), (Nat.le_of_ble_eq_true rfl)⟩ hK (hP.sub [] rfl) rfl hl.1 rfl (Nat.le_of_ble_eq_true rfl) dX10_lookAt_136 ⟨(Nat.le_of_ble_eq_true rfl), (Nat.le_of_ble_eq_true rfl)⟩ ?_
              refine lv_istore (lv' := [(4, .int (lessI (lkF t cd cm pp cc i1) (lkG t cd cm pp cc i1))), (3, .int (lkW t cd cm pp cc i1)), (8, .int (lkG t cd cm pp cc i1)), (0, .ref (a 0)), (1, .int (nI pp)), (2, .int (nI cc)), (5, .int (lkA t cd cm pp cc)), (6, .int (nI i1)), (7, .int (cntU (civP t cd cm pp cc i1) 100))]) hx hb dX10_lookAt_139 hl (by decide) rfl (fun ls hl => ?_)
              refine lv_iinc (v := nI (i1 + 1)) (lv' := [(6, .int (nI (i1 + 1))), (4, .int (lessI (lkF t cd cm pp cc i1) (lkG t cd cm pp cc i1))), (3, .int (lkW t cd cm pp cc i1)), (8, .int (lkG t cd cm pp cc i1)), (0, .ref (a 0)), (1, .int (nI pp)), (2, .int (nI cc)), (5, .int (lkA t cd cm pp cc)), (7, .int (cntU (civP t cd cm pp cc i1) 100))]) hx hb dX10_lookAt_141 hl (k := 7) rfl (by rw [show (nI i1 : Int32) = nI i1 from rfl]; exact nI_add _ 1) (by decide) rfl (fun ls hl => ?_)
              refine lv_goto (tgt := 37) hx hb dX10_lookAt_144 (by decide) ?_
              have e12 : lkW t cd cm pp cc i1 = lkW t cd cm pp cc (i1 + 1) := by first | exact (if_pos hlt).symm | exact (if_neg hlt).symm
              have e13 : lessI (lkF t cd cm pp cc i1) (lkG t cd cm pp cc i1) = lkF t cd cm pp cc (i1 + 1) := rfl
              exact ih37 _ (by omega) ⟨lv_sub hl [4, 5, 6, 2, 1, 7, 0] (by rw [← e12, ← e13]; rfl), trivial⟩
            · skip
              have hlt : lkG t cd cm pp cc i1 < lkF t cd cm pp cc i1 := i32_nle.mp cq11
              refine lv_iload hx hb dX10_lookAt_125 (lv_at hl 7 rfl) ?_
              refine lv_goto (tgt := 131) hx hb dX10_lookAt_127 (by decide) ?_
              refine lv_istore_n (lv' := [(3, .int (nI i1)), (8, .int (lkG t cd cm pp cc i1)), (0, .ref (a 0)), (1, .int (nI pp)), (2, .int (nI cc)), (4, .int (lkF t cd cm pp cc i1)), (5, .int (lkA t cd cm pp cc)), (6, .int (nI i1)), (7, .int (cntU (civP t cd cm pp cc i1) 100))]) hx hb dX10_lookAt_131 rfl hl (by decide) rfl (fun ls hl => ?_)
              refine lv_iload hx hb dX10_lookAt_132 (lv_at hl 5 rfl) ?_
              refine lv_iload hx hb dX10_lookAt_134 (lv_at hl 1 rfl) ?_
              refine cR_S (n := 2) (As := [.int (lkF t cd cm pp cc i1), .int (lkG t cd cm pp cc i1)]) (rest := []) C (c_X10_lesser l G    (lkF t cd cm pp cc i1) (lkG t cd cm pp cc i1) ) gX10_lookAt_X10_lesser rfl ⟨rfl, rfl⟩ hd_X10_lesser ⟨(Nat.le_of_ble_eq_true rfl), (Nat.le_of_ble_eq_true rfl)⟩ hK (hP.sub [] rfl) rfl hl.1 rfl (Nat.le_of_ble_eq_true rfl) dX10_lookAt_136 ⟨(Nat.le_of_ble_eq_true rfl), (Nat.le_of_ble_eq_true rfl)⟩ ?_
              refine lv_istore (lv' := [(4, .int (lessI (lkF t cd cm pp cc i1) (lkG t cd cm pp cc i1))), (3, .int (nI i1)), (8, .int (lkG t cd cm pp cc i1)), (0, .ref (a 0)), (1, .int (nI pp)), (2, .int (nI cc)), (5, .int (lkA t cd cm pp cc)), (6, .int (nI i1)), (7, .int (cntU (civP t cd cm pp cc i1) 100))]) hx hb dX10_lookAt_139 hl (by decide) rfl (fun ls hl => ?_)
              refine lv_iinc (v := nI (i1 + 1)) (lv' := [(6, .int (nI (i1 + 1))), (4, .int (lessI (lkF t cd cm pp cc i1) (lkG t cd cm pp cc i1))), (3, .int (nI i1)), (8, .int (lkG t cd cm pp cc i1)), (0, .ref (a 0)), (1, .int (nI pp)), (2, .int (nI cc)), (5, .int (lkA t cd cm pp cc)), (7, .int (cntU (civP t cd cm pp cc i1) 100))]) hx hb dX10_lookAt_141 hl (k := 7) rfl (by rw [show (nI i1 : Int32) = nI i1 from rfl]; exact nI_add _ 1) (by decide) rfl (fun ls hl => ?_)
              refine lv_goto (tgt := 37) hx hb dX10_lookAt_144 (by decide) ?_
              have e14 : nI i1 = lkW t cd cm pp cc (i1 + 1) := by first | exact (if_pos hlt).symm | exact (if_neg hlt).symm
              have e15 : lessI (lkF t cd cm pp cc i1) (lkG t cd cm pp cc i1) = lkF t cd cm pp cc (i1 + 1) := rfl
              exact ih37 _ (by omega) ⟨lv_sub hl [4, 5, 6, 2, 1, 7, 0] (by rw [← e14, ← e15]; rfl), trivial⟩
        · skip
          refine lv_iload hx hb dX10_lookAt_57 (lv_at hl 7 rfl) ?_
          refine lv_aload_n hx hb dX10_lookAt_59 rfl (lv_at hl 0 rfl) ?_
          refine lv_iload_n hx hb dX10_lookAt_60 rfl (lv_at hl 1 rfl) ?_
          refine lv_iload_n hx hb dX10_lookAt_61 rfl (lv_at hl 2 rfl) ?_
          refine lv_iload hx hb dX10_lookAt_62 (lv_at hl 8 rfl) ?_
          refine cR_V (Cn := RX10) (n := 3) (As := [.int (nI pp), .int (nI cc), .int (nI i2)]) (rest := [.int (cntU (civP t cd cm pp cc i1) i2)]) C (c_X10_couldBe l G a i j t r n d ps im kp tx cd bk py pt mt cm pp cc (nI i2) hcm hcl hQ (by omega)) gX10_lookAt_X10_couldBe rfl ⟨rfl, rfl⟩ hd_X10_couldBe ⟨(Nat.le_of_ble_eq_true rfl), (Nat.le_of_ble_eq_true rfl)⟩ hK hP (va_recv hK hP (ci := 10) (q0 := 0) rfl rfl) rfl hl.1 rfl (Nat.le_of_ble_eq_true rfl) dX10_lookAt_64 ⟨(Nat.le_of_ble_eq_true rfl), (Nat.le_of_ble_eq_true rfl)⟩ ?_
          refine b_if_eq (tgt := 86) hx hb dX10_lookAt_67 (by decide) (fun cq16 => ?_) (fun cq16 => ?_)
          · skip
            have hci : ¬ civP t cd cm pp cc i1 i2 = true := by unfold civP; intro q; rw [Bool.and_eq_true] at q; exact cq16 q.1
            refine lv_iconst (v := 0) hx hb dX10_lookAt_86 (by decide) ?_
            refine lv_iadd hx hb dX10_lookAt_87 ?_
            refine lv_istore (lv' := [(7, .int ((cntU (civP t cd cm pp cc i1) i2) + 0)), (0, .ref (a 0)), (1, .int (nI pp)), (2, .int (nI cc)), (3, .int (lkW t cd cm pp cc i1)), (4, .int (lkF t cd cm pp cc i1)), (5, .int (lkA t cd cm pp cc)), (6, .int (nI i1)), (8, .int (nI i2))]) hx hb dX10_lookAt_88 hl (by decide) rfl (fun ls hl => ?_)
            refine lv_iinc (v := nI (i2 + 1)) (lv' := [(8, .int (nI (i2 + 1))), (7, .int ((cntU (civP t cd cm pp cc i1) i2) + 0)), (0, .ref (a 0)), (1, .int (nI pp)), (2, .int (nI cc)), (3, .int (lkW t cd cm pp cc i1)), (4, .int (lkF t cd cm pp cc i1)), (5, .int (lkA t cd cm pp cc)), (6, .int (nI i1))]) hx hb dX10_lookAt_90 hl (k := 8) rfl (by rw [show (nI i2 : Int32) = nI i2 from rfl]; exact nI_add _ 1) (by decide) rfl (fun ls hl => ?_)
            refine lv_goto (tgt := 50) hx hb dX10_lookAt_93 (by decide) ?_
            have e17 : (cntU (civP t cd cm pp cc i1) i2) + 0 = cntU (civP t cd cm pp cc i1) (i2 + 1) := by first | exact (if_pos hci).symm | (rw [Int32.add_zero]; exact (if_neg hci).symm)
            exact ih50 _ (by omega) ⟨lv_sub hl [2, 3, 4, 5, 6, 7, 8, 1, 0] (by rw [← e17]; rfl), trivial⟩
          · skip
            have h67 := cq16
            refine lv_aload_n hx hb dX10_lookAt_70 rfl (lv_at hl 0 rfl) ?_
            refine lv_iload_n hx hb dX10_lookAt_71 rfl (lv_at hl 2 rfl) ?_
            refine lv_iload hx hb dX10_lookAt_72 (lv_at hl 8 rfl) ?_
            refine lv_iload hx hb dX10_lookAt_74 (lv_at hl 6 rfl) ?_
            refine cR_V (Cn := RX10) (n := 3) (As := [.int (nI cc), .int (nI i2), .int (nI i1)]) (rest := [.int (cntU (civP t cd cm pp cc i1) i2)]) C (c_X10_isCivil l G a i j t r n d ps im kp tx cd bk py pt mt  cc (nI i2) i1 (by omega) (by omega)) gX10_lookAt_X10_isCivil rfl ⟨rfl, rfl⟩ hd_X10_isCivil ⟨(Nat.le_of_ble_eq_true rfl), (Nat.le_of_ble_eq_true rfl)⟩ hK hP (va_recv hK hP (ci := 10) (q0 := 0) rfl rfl) rfl hl.1 rfl (Nat.le_of_ble_eq_true rfl) dX10_lookAt_76 ⟨(Nat.le_of_ble_eq_true rfl), (Nat.le_of_ble_eq_true rfl)⟩ ?_
            refine b_if_eq (tgt := 86) hx hb dX10_lookAt_79 (by decide) (fun cq18 => ?_) (fun cq18 => ?_)
            · skip
              have hci : ¬ civP t cd cm pp cc i1 i2 = true := by unfold civP; intro q; rw [Bool.and_eq_true, decide_eq_true_eq] at q; exact cq18 q.2
              refine lv_iconst (v := 0) hx hb dX10_lookAt_86 (by decide) ?_
              refine lv_iadd hx hb dX10_lookAt_87 ?_
              refine lv_istore (lv' := [(7, .int ((cntU (civP t cd cm pp cc i1) i2) + 0)), (0, .ref (a 0)), (1, .int (nI pp)), (2, .int (nI cc)), (3, .int (lkW t cd cm pp cc i1)), (4, .int (lkF t cd cm pp cc i1)), (5, .int (lkA t cd cm pp cc)), (6, .int (nI i1)), (8, .int (nI i2))]) hx hb dX10_lookAt_88 hl (by decide) rfl (fun ls hl => ?_)
              refine lv_iinc (v := nI (i2 + 1)) (lv' := [(8, .int (nI (i2 + 1))), (7, .int ((cntU (civP t cd cm pp cc i1) i2) + 0)), (0, .ref (a 0)), (1, .int (nI pp)), (2, .int (nI cc)), (3, .int (lkW t cd cm pp cc i1)), (4, .int (lkF t cd cm pp cc i1)), (5, .int (lkA t cd cm pp cc)), (6, .int (nI i1))]) hx hb dX10_lookAt_90 hl (k := 8) rfl (by rw [show (nI i2 : Int32) = nI i2 from rfl]; exact nI_add _ 1) (by decide) rfl (fun ls hl => ?_)
              refine lv_goto (tgt := 50) hx hb dX10_lookAt_93 (by decide) ?_
              have e19 : (cntU (civP t cd cm pp cc i1) i2) + 0 = cntU (civP t cd cm pp cc i1) (i2 + 1) := by first | exact (if_pos hci).symm | (rw [Int32.add_zero]; exact (if_neg hci).symm)
              exact ih50 _ (by omega) ⟨lv_sub hl [2, 3, 4, 5, 6, 7, 8, 1, 0] (by rw [← e19]; rfl), trivial⟩
            · skip
              have hci : civP t cd cm pp cc i1 i2 = true := by unfold civP; rw [Bool.and_eq_true, decide_eq_true_eq]; exact ⟨h67, cq18⟩
              refine lv_iconst (v := 1) hx hb dX10_lookAt_82 (by decide) ?_
              refine lv_goto (tgt := 87) hx hb dX10_lookAt_83 (by decide) ?_
              refine lv_iadd hx hb dX10_lookAt_87 ?_
              refine lv_istore (lv' := [(7, .int ((cntU (civP t cd cm pp cc i1) i2) + 1)), (0, .ref (a 0)), (1, .int (nI pp)), (2, .int (nI cc)), (3, .int (lkW t cd cm pp cc i1)), (4, .int (lkF t cd cm pp cc i1)), (5, .int (lkA t cd cm pp cc)), (6, .int (nI i1)), (8, .int (nI i2))]) hx hb dX10_lookAt_88 hl (by decide) rfl (fun ls hl => ?_)
              refine lv_iinc (v := nI (i2 + 1)) (lv' := [(8, .int (nI (i2 + 1))), (7, .int ((cntU (civP t cd cm pp cc i1) i2) + 1)), (0, .ref (a 0)), (1, .int (nI pp)), (2, .int (nI cc)), (3, .int (lkW t cd cm pp cc i1)), (4, .int (lkF t cd cm pp cc i1)), (5, .int (lkA t cd cm pp cc)), (6, .int (nI i1))]) hx hb dX10_lookAt_90 hl (k := 8) rfl (by rw [show (nI i2 : Int32) = nI i2 from rfl]; exact nI_add _ 1) (by decide) rfl (fun ls hl => ?_)
              refine lv_goto (tgt := 50) hx hb dX10_lookAt_93 (by decide) ?_
              have e20 : (cntU (civP t cd cm pp cc i1) i2) + 1 = cntU (civP t cd cm pp cc i1) (i2 + 1) := by first | exact (if_pos hci).symm | (rw [Int32.add_zero]; exact (if_neg hci).symm)
              exact ih50 _ (by omega) ⟨lv_sub hl [2, 3, 4, 5, 6, 7, 8, 1, 0] (by rw [← e20]; rfl), trivial⟩
    · skip
      refine lv_ldc hx hb hown k0 dX10_lookAt_16 ?_
      exact mR_iret C dX10_lookAt_18 (by simp [loR, cq1, hcl_pp, cq2])
theorem hd_X10_write : yX10_write.cls = RX10 ∧ yX10_write.cls ≠ "java/lang/invoke/MethodHandle" ∧ yX10_write.cls ≠ "java/lang/invoke/VarHandle" ∧ (parseMethodDescriptor yX10_write.desc).map (fun d => d.parameters.length) = some 2 := by decide +kernel
set_option maxRecDepth 100000 in
set_option maxHeartbeats 4000000 in
theorem c_X10_write (l : Launch) (G : gG) (a : Nat → Nat) (i : Nat → Int32) (j : Nat → Int32) (t : Nat → Int32) (r : Nat → Int32) (n : Nat → Int32) (d : Nat → Int32) (ps : Nat → Int32) (im : Nat → Int32) (kp : Nat → Int32) (tx : Nat → Int32) (cd : Nat → Int32) (bk : Nat → Int32) (py : Nat → Int32) (pt : Nat → Int32) (mt : Nat → Int32) (nc : Nat) (np : Nat) (bm : Nat) (p : Int32) (s : Int32) (hT : tw t nc np) (hbm : i 15 = nI bm) (hbl : bm ≤ 20) : mX l yX10_write wsX10_write ({ frames := 2, cells := 0, slots := 0, locals := 46 }) G (mW G a i j t r n d ps im kp tx cd bk py pt mt) (mW G a (if okWr t bm p s then upd i 15 (nI (bm + 1)) else i) j t r n d ps im kp tx cd (if okWr t bm p s then upd (upd bk (2 * bm) p) (2 * bm + 1) s else bk) py pt mt) [.ref (a 0), .int p, .int s] (.returned (some (.int (wrR t bm p s)))) := by
  refine mX.of (cc := cX10_write) (maxL := 3) (ret := (some .int)) (by decide) rfl (Nat.le_of_ble_eq_true rfl) ?_
  intro zp ze zs zm zb zt zc ls A hAe C hP hK hD hS hl
  obtain ⟨hx, hb, hr, hml, hown, hts, hlk⟩ := id C
  have hl : lv_has ls 3 [(0, .ref (a 0)), (1, .int p), (2, .int s)] := hl
  have hT2 := hT.2.2
  have k0 := hts (.constantLong RX10 284 (-9)) (by decide +kernel)
  have k1 := hts (.constantLong RX10 286 (99)) (by decide +kernel)
  have k2 := hts (.fieldLink RX10 75 "DebtDowryModel" "bookMany" "I") (by decide +kernel)
  have k3 := (fun w h => by revert w; decide +kernel : ∀ w ∈ wsX100, w ∈ wsX10_write)
  have k4 := hts (.fieldLink RX10 42 "DebtDowryModel" "book" "[I") (by decide +kernel)
  have k5 := hts (.constant RX10 84 (-1000000004)) (by decide +kernel)
  have k6 := hts (.constant RX10 80 (-1000000002)) (by decide +kernel)
  have k7 := hts (.constant RX10 175 (-1000000001)) (by decide +kernel)
  refine lv_aload_n hx hb dX10_write_0 rfl (lv_at hl 0 rfl) ?_
  refine lv_iload_n hx hb dX10_write_1 rfl (lv_at hl 1 rfl) ?_
  refine cR_V (Cn := RX10) (n := 1) (As := [.int p]) (rest := []) C (c_X10_isPerson l G a i j t r n d ps im kp tx cd bk py pt mt  p ) gX10_write_X10_isPerson rfl ⟨rfl, rfl⟩ hd_X10_isPerson ⟨(Nat.le_of_ble_eq_true rfl), (Nat.le_of_ble_eq_true rfl)⟩ hK hP (va_recv hK hP (ci := 10) (q0 := 0) rfl rfl) rfl hl.1 rfl (Nat.le_of_ble_eq_true rfl) dX10_write_2 ⟨(Nat.le_of_ble_eq_true rfl), (Nat.le_of_ble_eq_true rfl)⟩ ?_
  refine b_if_ne (tgt := 11) hx hb dX10_write_5 (by decide) (fun cq1 => ?_) (fun cq1 => ?_)
  · skip
    refine lv_iload_n hx hb dX10_write_11 rfl (lv_at hl 2 rfl) ?_
    refine lv_i2l (v := s.toInt64) hx hb dX10_write_12 rfl ?_
    refine lv_ldc2 hx hb hown k0 dX10_write_13 ?_
    refine lv_ldc2 hx hb hown k1 dX10_write_16 ?_
    refine cR_S (n := 3) (As := [.long s.toInt64, .long (-9), .long 99]) (rest := []) C (c_X10_in l G    s s.toInt64 rfl (-9) (-9) rfl 99 99 rfl ) gX10_write_X10_in rfl ⟨rfl, rfl⟩ hd_X10_in ⟨(Nat.le_of_ble_eq_true rfl), (Nat.le_of_ble_eq_true rfl)⟩ hK (hP.sub [] rfl) rfl hl.1 rfl (Nat.le_of_ble_eq_true rfl) dX10_write_19 ⟨(Nat.le_of_ble_eq_true rfl), (Nat.le_of_ble_eq_true rfl)⟩ ?_
    refine b_if_ne (tgt := 28) hx hb dX10_write_22 (by decide) (fun cq2 => ?_) (fun cq2 => ?_)
    · skip
      refine lv_aload_n hx hb dX10_write_28 rfl (lv_at hl 0 rfl) ?_
      refine va_get (D := G.1) (ci := 10) (v := .int (i 15)) (C := RX10) (T := TX10) (N := 25) hx hb hts k3 hown hK hP 0 rfl rfl 15 (by decide) k2 (fun _ h9 => h9) rfl dX10_write_29 ?_
      refine lv_bipush (v := 20) hx hb dX10_write_32 (by decide) ?_
      refine n_icmp_ne (tgt := 40) hx hb dX10_write_34 (by decide) (u := bm) (v := 20) hbm rfl (by omega) (by omega) (fun cq3 => ?_) (fun cq3 => ?_)
      · skip
        have hne : ¬ bm = 20 := cq3
        refine lv_aload_n hx hb dX10_write_40 rfl (lv_at hl 0 rfl) ?_
        refine va_get (D := G.1) (ci := 10) (v := .ref (a 10)) (C := RX10) (T := TX10) (N := 25) hx hb hts k3 hown hK hP 0 rfl rfl 14 (by decide) k4 (fun _ h9 => h9) rfl dX10_write_41 ?_
        refine lv_iconst (v := 2) hx hb dX10_write_44 (by decide) ?_
        refine lv_aload_n hx hb dX10_write_45 rfl (lv_at hl 0 rfl) ?_
        refine va_get (D := G.1) (ci := 10) (v := .int (i 15)) (C := RX10) (T := TX10) (N := 25) hx hb hts k3 hown hK hP 0 rfl rfl 15 (by decide) k2 (fun _ h9 => h9) rfl dX10_write_46 ?_
        refine n_imul hx hb dX10_write_49 (u := 2) (v := bm) rfl hbm (j := 2 * bm) (by omega) ?_
        refine lv_iload_n hx hb dX10_write_50 rfl (lv_at hl 1 rfl) ?_
        refine n_iast hx hb hK hP hD hS 10 0 rfl rfl (x := p) (j := 2 * bm) rfl (by omega) (by decide) dX10_write_51 (wsn := mW G a i j t r n d ps im kp tx cd (upd bk (2 * bm) p) py pt mt) rfl (fun H locs hP hD hS => ?_)
        refine lv_aload_n hx hb dX10_write_52 rfl (lv_at hl 0 rfl) ?_
        refine va_get (D := G.1) (ci := 10) (v := .ref (a 10)) (C := RX10) (T := TX10) (N := 25) hx hb hts k3 hown hK hP 0 rfl rfl 14 (by decide) k4 (fun _ h9 => h9) rfl dX10_write_53 ?_
        refine lv_iconst (v := 2) hx hb dX10_write_56 (by decide) ?_
        refine lv_aload_n hx hb dX10_write_57 rfl (lv_at hl 0 rfl) ?_
        refine va_get (D := G.1) (ci := 10) (v := .int (i 15)) (C := RX10) (T := TX10) (N := 25) hx hb hts k3 hown hK hP 0 rfl rfl 15 (by decide) k2 (fun _ h9 => h9) rfl dX10_write_58 ?_
        refine n_imul hx hb dX10_write_61 (u := 2) (v := bm) rfl hbm (j := 2 * bm) (by omega) ?_
        refine lv_iconst (v := 1) hx hb dX10_write_62 (by decide) ?_
        refine n_iadd hx hb dX10_write_63 (u := 2 * bm) (v := 1) rfl rfl (j := (2 * bm) + 1) (by omega) ?_
        refine lv_iload_n hx hb dX10_write_64 rfl (lv_at hl 2 rfl) ?_
        refine n_iast hx hb hK hP hD hS 10 0 rfl rfl (x := s) (j := (2 * bm) + 1) rfl (by omega) (by decide) dX10_write_65 (wsn := mW G a i j t r n d ps im kp tx cd (upd (upd bk (2 * bm) p) ((2 * bm) + 1) s) py pt mt) rfl (fun H locs hP hD hS => ?_)
        refine lv_aload_n hx hb dX10_write_66 rfl (lv_at hl 0 rfl) ?_
        refine lv_dup hx hb dX10_write_67 rfl ?_
        refine va_get (D := G.1) (ci := 10) (v := .int (i 15)) (C := RX10) (T := TX10) (N := 25) hx hb hts k3 hown hK hP 0 rfl rfl 15 (by decide) k2 (fun _ h9 => h9) rfl dX10_write_68 ?_
        refine lv_iconst (v := 1) hx hb dX10_write_71 (by decide) ?_
        refine n_iadd hx hb dX10_write_72 (u := bm) (v := 1) hbm rfl (j := bm + 1) (by omega) ?_
        refine n_put (D := G.1) (wsn := mW G a (upd i 15 (nI (bm + 1))) j t r n d ps im kp tx cd (upd (upd bk (2 * bm) p) ((2 * bm) + 1) s) py pt mt) (ci := 10) (v := .int (nI (bm + 1))) (ty := .int) (C := RX10) (T := TX10) (N := 25) hx hb hts k3 tyX10 tyX10_ok nmX10 hown hK hP hD hS 0 rfl rfl 15 (by decide) k2 (fun _ h9 => h9) rfl (by decide +kernel) rfl rfl (Nat.le_of_ble_eq_true rfl) rfl dX10_write_73 (fun H locs hP hD hS => ?_)
        refine lv_aload_n hx hb dX10_write_76 rfl (lv_at hl 0 rfl) ?_
        refine va_get (D := G.1) (ci := 10) (v := .int (nI (bm + 1))) (C := RX10) (T := TX10) (N := 25) hx hb hts k3 hown hK hP 0 rfl rfl 15 (by decide) k2 (fun _ h9 => h9) rfl dX10_write_77 ?_
        have hP : va_P G.1 vwCl (mW G a (if okWr t bm p s then upd i 15 (nI (bm + 1)) else i) j t r n d ps im kp tx cd (if okWr t bm p s then upd (upd bk (2 * bm) p) (2 * bm + 1) s else bk) py pt mt) H := by rw [show (if okWr t bm p s then upd i 15 (nI (bm + 1)) else i) = (upd i 15 (nI (bm + 1))) from by first | rfl | simp [cq1, cq2, cq3, hne], show (if okWr t bm p s then upd (upd bk (2 * bm) p) (2 * bm + 1) s else bk) = (upd (upd bk (2 * bm) p) ((2 * bm) + 1) s) from by first | rfl | simp [cq1, cq2, cq3, hne]]; exact hP
        exact mX_iret hAe C hP hS dX10_write_80 (by simp [wrR, cq1, cq2, cq3, hne])
      · skip
        refine lv_ldc hx hb hown k5 dX10_write_37 ?_
        have hP : va_P G.1 vwCl (mW G a (if okWr t bm p s then upd i 15 (nI (bm + 1)) else i) j t r n d ps im kp tx cd (if okWr t bm p s then upd (upd bk (2 * bm) p) (2 * bm + 1) s else bk) py pt mt) zs.heap := by rw [show (if okWr t bm p s then upd i 15 (nI (bm + 1)) else i) = i from by first | rfl | simp [cq1, cq2, cq3], show (if okWr t bm p s then upd (upd bk (2 * bm) p) (2 * bm + 1) s else bk) = bk from by first | rfl | simp [cq1, cq2, cq3]]; exact hP
        exact mX_iret hAe C hP hS dX10_write_39 (by simp [wrR, cq1, cq2, cq3])
    · skip
      refine lv_ldc hx hb hown k6 dX10_write_25 ?_
      have hP : va_P G.1 vwCl (mW G a (if okWr t bm p s then upd i 15 (nI (bm + 1)) else i) j t r n d ps im kp tx cd (if okWr t bm p s then upd (upd bk (2 * bm) p) (2 * bm + 1) s else bk) py pt mt) zs.heap := by rw [show (if okWr t bm p s then upd i 15 (nI (bm + 1)) else i) = i from by first | rfl | simp [cq1, cq2], show (if okWr t bm p s then upd (upd bk (2 * bm) p) (2 * bm + 1) s else bk) = bk from by first | rfl | simp [cq1, cq2]]; exact hP
      exact mX_iret hAe C hP hS dX10_write_27 (by simp [wrR, cq1, cq2])
  · skip
    refine lv_ldc hx hb hown k7 dX10_write_8 ?_
    have hP : va_P G.1 vwCl (mW G a (if okWr t bm p s then upd i 15 (nI (bm + 1)) else i) j t r n d ps im kp tx cd (if okWr t bm p s then upd (upd bk (2 * bm) p) (2 * bm + 1) s else bk) py pt mt) zs.heap := by rw [show (if okWr t bm p s then upd i 15 (nI (bm + 1)) else i) = i from by first | rfl | simp [cq1], show (if okWr t bm p s then upd (upd bk (2 * bm) p) (2 * bm + 1) s else bk) = bk from by first | rfl | simp [cq1]]; exact hP
    exact mX_iret hAe C hP hS dX10_write_10 (by simp [wrR, cq1])
theorem hd_X10_judge : yX10_judge.cls = RX10 ∧ yX10_judge.cls ≠ "java/lang/invoke/MethodHandle" ∧ yX10_judge.cls ≠ "java/lang/invoke/VarHandle" ∧ (parseMethodDescriptor yX10_judge.desc).map (fun d => d.parameters.length) = some 0 := by decide +kernel
set_option maxRecDepth 100000 in
set_option maxHeartbeats 4000000 in
theorem c_X10_judge (l : Launch) (G : gG) (a : Nat → Nat) (i : Nat → Int32) (j : Nat → Int32) (t : Nat → Int32) (r : Nat → Int32) (n : Nat → Int32) (d : Nat → Int32) (ps : Nat → Int32) (im : Nat → Int32) (kp : Nat → Int32) (tx : Nat → Int32) (cd : Nat → Int32) (bk : Nat → Int32) (py : Nat → Int32) (pt : Nat → Int32) (mt : Nat → Int32) (nc : Nat) (np : Nat) (bm : Nat) (hT : tw t nc np) (hbm : i 15 = nI bm) (hbl : bm ≤ 20) (hbk : ∀ k, k < bm → ∃ p, p < 8 ∧ bk (2 * k) = nI p) : mR l yX10_judge wsX10_judge ({ frames := 3, cells := 0, slots := 0, locals := 70 }) G (mW G a i j t r n d ps im kp tx cd bk py pt mt) [.ref (a 0)] (juU t n bk nc bm 0) := by
  refine mR.of (cc := cX10_judge) (maxL := 2) (ret := (some .int)) (by decide) rfl (Nat.le_of_ble_eq_true rfl) ?_
  intro zp ze zs zm zb zt zc ls C hP hK hl
  obtain ⟨hx, hb, hr, hml, hown, hts, hlk⟩ := id C
  have hl : lv_has ls 2 [(0, .ref (a 0))] := hl
  have hT2 := hT.2.2
  have k0 := hts (.fieldLink RX10 75 "DebtDowryModel" "bookMany" "I") (by decide +kernel)
  have k1 := (fun w h => by revert w; decide +kernel : ∀ w ∈ wsX100, w ∈ wsX10_judge)
  have k2 := hts (.fieldLink RX10 16 "DebtDowryModel" "now" "[I") (by decide +kernel)
  have k3 := hts (.fieldLink RX10 42 "DebtDowryModel" "book" "[I") (by decide +kernel)
  refine lv_iconst (v := 0) hx hb dX10_judge_0 (by decide) ?_
  refine lv_istore_n (lv' := [(1, .int 0), (0, .ref (a 0))]) hx hb dX10_judge_1 rfl hl (by decide) rfl (fun ls hl => ?_)
  refine wl_R (B := bm) (i0 := 0) (Inv := fun i1 ls => lv_has ls 2 [(0, .ref (a 0)), (1, .int (nI i1))] ∧ juU t n bk nc bm 0 = juU t n bk nc (bm - i1) i1) (by omega) ⟨lv_sub hl [1, 0] (rfl), (rfl)⟩ ?_
  rintro i1 ls hle2 ⟨hl, hR⟩ ih2
  refine lv_iload_n hx hb dX10_judge_2 rfl (lv_at hl 1 rfl) ?_
  refine lv_aload_n hx hb dX10_judge_3 rfl (lv_at hl 0 rfl) ?_
  refine va_get (D := G.1) (ci := 10) (v := .int (i 15)) (C := RX10) (T := TX10) (N := 25) hx hb hts k1 hown hK hP 0 rfl rfl 15 (by decide) k0 (fun _ h9 => h9) rfl dX10_judge_4 ?_
  refine n_icmp_ge (tgt := 47) hx hb dX10_judge_7 (by decide) (u := i1) (v := bm) rfl hbm (by omega) (by omega) (fun cq1 => ?_) (fun cq1 => ?_)
  · skip
    refine lv_iconst (v := (-1)) hx hb dX10_judge_47 (by decide) ?_
    exact mR_iret C dX10_judge_48 (by rw [hR, show bm - i1 = 0 by omega]; rfl)
  · skip
    obtain ⟨pp, hp8, hpe⟩ := hbk i1 (by omega)
    have hst : juU t n bk nc (bm - i1) i1 = if stU t n pp nc = bk (2 * i1 + 1) then juU t n bk nc (bm - (i1 + 1)) (i1 + 1) else nI i1 := by rw [show bm - i1 = (bm - (i1 + 1)) + 1 by omega]; show ite _ _ _ = _; rw [hpe, cl_nI (by omega)]
    refine lv_aload_n hx hb dX10_judge_10 rfl (lv_at hl 0 rfl) ?_
    refine lv_aload_n hx hb dX10_judge_11 rfl (lv_at hl 0 rfl) ?_
    refine va_get (D := G.1) (ci := 10) (v := .ref (a 3)) (C := RX10) (T := TX10) (N := 25) hx hb hts k1 hown hK hP 0 rfl rfl 2 (by decide) k2 (fun _ h9 => h9) rfl dX10_judge_12 ?_
    refine lv_aload_n hx hb dX10_judge_15 rfl (lv_at hl 0 rfl) ?_
    refine va_get (D := G.1) (ci := 10) (v := .ref (a 10)) (C := RX10) (T := TX10) (N := 25) hx hb hts k1 hown hK hP 0 rfl rfl 14 (by decide) k3 (fun _ h9 => h9) rfl dX10_judge_16 ?_
    refine lv_iconst (v := 2) hx hb dX10_judge_19 (by decide) ?_
    refine lv_iload_n hx hb dX10_judge_20 rfl (lv_at hl 1 rfl) ?_
    refine n_imul hx hb dX10_judge_21 (u := 2) (v := i1) rfl rfl (j := 2 * i1) (by omega) ?_
    refine n_iald hx hb hK hP 10 0 rfl rfl (j := 2 * i1) rfl (by omega) (by decide) dX10_judge_22 ?_
    refine cR_V (Cn := RX10) (n := 2) (As := [.ref (a 3), .int (nI pp)]) (rest := []) C (c_X10_standing_n l G a i j t r n d ps im kp tx cd bk py pt mt nc np pp hT (by omega)) gX10_judge_X10_standing rfl ⟨rfl, rfl⟩ hd_X10_standing ⟨(Nat.le_of_ble_eq_true rfl), (Nat.le_of_ble_eq_true rfl)⟩ hK hP (va_recv hK hP (ci := 10) (q0 := 0) rfl rfl) rfl hl.1 (by rw [show (bk (2 * i1) : Int32) = nI pp from hpe]; rfl) (Nat.le_of_ble_eq_true rfl) dX10_judge_23 ⟨(Nat.le_of_ble_eq_true rfl), (Nat.le_of_ble_eq_true rfl)⟩ ?_
    refine lv_aload_n hx hb dX10_judge_26 rfl (lv_at hl 0 rfl) ?_
    refine va_get (D := G.1) (ci := 10) (v := .ref (a 10)) (C := RX10) (T := TX10) (N := 25) hx hb hts k1 hown hK hP 0 rfl rfl 14 (by decide) k3 (fun _ h9 => h9) rfl dX10_judge_27 ?_
    refine lv_iconst (v := 2) hx hb dX10_judge_30 (by decide) ?_
    refine lv_iload_n hx hb dX10_judge_31 rfl (lv_at hl 1 rfl) ?_
    refine n_imul hx hb dX10_judge_32 (u := 2) (v := i1) rfl rfl (j := 2 * i1) (by omega) ?_
    refine lv_iconst (v := 1) hx hb dX10_judge_33 (by decide) ?_
    refine n_iadd hx hb dX10_judge_34 (u := 2 * i1) (v := 1) rfl rfl (j := (2 * i1) + 1) (by omega) ?_
    refine n_iald hx hb hK hP 10 0 rfl rfl (j := (2 * i1) + 1) rfl (by omega) (by decide) dX10_judge_35 ?_
    refine lv_icmp_eq (tgt := 41) hx hb dX10_judge_36 (by decide) (fun cq2 => ?_) (fun cq2 => ?_)
    · skip
      have hq := cq2
      refine lv_iinc (v := nI (i1 + 1)) (lv' := [(1, .int (nI (i1 + 1))), (0, .ref (a 0))]) hx hb dX10_judge_41 hl (k := 1) rfl (by rw [show (nI i1 : Int32) = nI i1 from rfl]; exact nI_add _ 1) (by decide) rfl (fun ls hl => ?_)
      refine lv_goto (tgt := 2) hx hb dX10_judge_44 (by decide) ?_
      exact ih2 _ (by omega) ⟨lv_sub hl [1, 0] (rfl), (by rw [hR, hst, if_pos hq])⟩
    · skip
      have hq := cq2
      refine lv_iload_n hx hb dX10_judge_39 rfl (lv_at hl 1 rfl) ?_
      exact mR_iret C dX10_judge_40 (by rw [hR, hst, if_neg hq])
theorem hd_X10_tear : yX10_tear.cls = RX10 ∧ yX10_tear.cls ≠ "java/lang/invoke/MethodHandle" ∧ yX10_tear.cls ≠ "java/lang/invoke/VarHandle" ∧ (parseMethodDescriptor yX10_tear.desc).map (fun d => d.parameters.length) = some 0 := by decide +kernel
set_option maxRecDepth 100000 in
set_option maxHeartbeats 4000000 in
theorem c_X10_tear (l : Launch) (G : gG) (a : Nat → Nat) (i : Nat → Int32) (j : Nat → Int32) (t : Nat → Int32) (r : Nat → Int32) (n : Nat → Int32) (d : Nat → Int32) (ps : Nat → Int32) (im : Nat → Int32) (kp : Nat → Int32) (tx : Nat → Int32) (cd : Nat → Int32) (bk : Nat → Int32) (py : Nat → Int32) (pt : Nat → Int32) (mt : Nat → Int32) : mX l yX10_tear wsX10_tear ({ frames := 0, cells := 0, slots := 0, locals := 0 }) G (mW G a i j t r n d ps im kp tx cd bk py pt mt) (mW G a (upd (upd i 13 0) 15 0) j t r n d ps im kp tx cd bk py pt mt) [.ref (a 0)] (.returned (some (.int (i 13 + i 15)))) := by
  refine mX.of (cc := cX10_tear) (maxL := 2) (ret := (some .int)) (by decide) rfl (Nat.le_of_ble_eq_true rfl) ?_
  intro zp ze zs zm zb zt zc ls A hAe C hP hK hD hS hl
  obtain ⟨hx, hb, hr, hml, hown, hts, hlk⟩ := id C
  have hl : lv_has ls 2 [(0, .ref (a 0))] := hl
  have k0 := hts (.fieldLink RX10 72 "DebtDowryModel" "cardMany" "I") (by decide +kernel)
  have k1 := (fun w h => by revert w; decide +kernel : ∀ w ∈ wsX100, w ∈ wsX10_tear)
  have k2 := hts (.fieldLink RX10 75 "DebtDowryModel" "bookMany" "I") (by decide +kernel)
  refine lv_aload_n hx hb dX10_tear_0 rfl (lv_at hl 0 rfl) ?_
  refine va_get (D := G.1) (ci := 10) (v := .int (i 13)) (C := RX10) (T := TX10) (N := 25) hx hb hts k1 hown hK hP 0 rfl rfl 13 (by decide) k0 (fun _ h9 => h9) rfl dX10_tear_1 ?_
  refine lv_aload_n hx hb dX10_tear_4 rfl (lv_at hl 0 rfl) ?_
  refine va_get (D := G.1) (ci := 10) (v := .int (i 15)) (C := RX10) (T := TX10) (N := 25) hx hb hts k1 hown hK hP 0 rfl rfl 15 (by decide) k2 (fun _ h9 => h9) rfl dX10_tear_5 ?_
  refine lv_iadd hx hb dX10_tear_8 ?_
  refine lv_istore_n (lv' := [(1, .int ((i 13) + (i 15))), (0, .ref (a 0))]) hx hb dX10_tear_9 rfl hl (by decide) rfl (fun ls hl => ?_)
  refine lv_aload_n hx hb dX10_tear_10 rfl (lv_at hl 1 rfl) ?_
  refine lv_iconst (v := 0) hx hb dX10_tear_11 (by decide) ?_
  refine n_put (D := G.1) (wsn := mW G a (upd i 13 0) j t r n d ps im kp tx cd bk py pt mt) (ci := 10) (v := .int 0) (ty := .int) (C := RX10) (T := TX10) (N := 25) hx hb hts k1 tyX10 tyX10_ok nmX10 hown hK hP hD hS 0 rfl rfl 13 (by decide) k0 (fun _ h9 => h9) rfl (by decide +kernel) rfl rfl (Nat.le_of_ble_eq_true rfl) rfl dX10_tear_12 (fun H locs hP hD hS => ?_)
  refine lv_aload_n hx hb dX10_tear_15 rfl (lv_at hl 1 rfl) ?_
  refine lv_iconst (v := 0) hx hb dX10_tear_16 (by decide) ?_
  refine n_put (D := G.1) (wsn := mW G a (upd (upd i 13 0) 15 0) j t r n d ps im kp tx cd bk py pt mt) (ci := 10) (v := .int 0) (ty := .int) (C := RX10) (T := TX10) (N := 25) hx hb hts k1 tyX10 tyX10_ok nmX10 hown hK hP hD hS 0 rfl rfl 15 (by decide) k2 (fun _ h9 => h9) rfl (by decide +kernel) rfl rfl (Nat.le_of_ble_eq_true rfl) rfl dX10_tear_17 (fun H locs hP hD hS => ?_)
  refine lv_iload_n hx hb dX10_tear_20 rfl (lv_at hl 0 rfl) ?_
  exact mX_iret hAe C hP hS dX10_tear_21 (rfl)
theorem hd_X10_seed : yX10_seed.cls = RX10 ∧ yX10_seed.cls ≠ "java/lang/invoke/MethodHandle" ∧ yX10_seed.cls ≠ "java/lang/invoke/VarHandle" ∧ (parseMethodDescriptor yX10_seed.desc).map (fun d => d.parameters.length) = some 1 := by decide +kernel
set_option maxRecDepth 100000 in
set_option maxHeartbeats 4000000 in
theorem c_X10_seed (l : Launch) (G : gG) (a : Nat → Nat) (i : Nat → Int32) (j : Nat → Int32) (t : Nat → Int32) (r : Nat → Int32) (n : Nat → Int32) (d : Nat → Int32) (ps : Nat → Int32) (im : Nat → Int32) (kp : Nat → Int32) (tx : Nat → Int32) (cd : Nat → Int32) (bk : Nat → Int32) (py : Nat → Int32) (pt : Nat → Int32) (mt : Nat → Int32) (x : Int32) : mX l yX10_seed wsX10_seed ({ frames := 0, cells := 0, slots := 0, locals := 0 }) G (mW G a i j t r n d ps im kp tx cd bk py pt mt) (mW G a (if ¬ x < 0 then upd i 8 x else i) j t r n d ps im kp tx cd bk py pt mt) [.ref (a 0), .int x] (.returned (some (.int (sdR i x)))) := by
  refine mX.of (cc := cX10_seed) (maxL := 3) (ret := (some .int)) (by decide) rfl (Nat.le_of_ble_eq_true rfl) ?_
  intro zp ze zs zm zb zt zc ls A hAe C hP hK hD hS hl
  obtain ⟨hx, hb, hr, hml, hown, hts, hlk⟩ := id C
  have hl : lv_has ls 3 [(0, .ref (a 0)), (1, .int x)] := hl
  have k0 := hts (.fieldLink RX10 225 "DebtDowryModel" "seed" "J") (by decide +kernel)
  have k1 := (fun w h => by revert w; decide +kernel : ∀ w ∈ wsX100, w ∈ wsX10_seed)
  have k2 := hts (.constant RX10 80 (-1000000002)) (by decide +kernel)
  refine lv_iload_n hx hb dX10_seed_0 rfl (lv_at hl 1 rfl) ?_
  refine lv_if_ge (tgt := 7) hx hb dX10_seed_1 (by decide) (fun cq1 => ?_) (fun cq1 => ?_)
  · skip
    refine lv_aload_n hx hb dX10_seed_7 rfl (lv_at hl 0 rfl) ?_
    refine va_get (D := G.1) (ci := 10) (v := .long ((i 8).toInt64)) (C := RX10) (T := TX10) (N := 25) hx hb hts k1 hown hK hP 0 rfl rfl 8 (by decide) k0 (fun _ h9 => h9) rfl dX10_seed_8 ?_
    refine lv_l2i (v := ((i 8).toInt64).toInt32) hx hb dX10_seed_11 rfl ?_
    rw [i64_32]
    refine lv_istore_n (lv' := [(2, .int (i 8)), (0, .ref (a 0)), (1, .int x)]) hx hb dX10_seed_12 rfl hl (by decide) rfl (fun ls hl => ?_)
    refine lv_aload_n hx hb dX10_seed_13 rfl (lv_at hl 1 rfl) ?_
    refine lv_iload_n hx hb dX10_seed_14 rfl (lv_at hl 2 rfl) ?_
    refine lv_i2l (v := x.toInt64) hx hb dX10_seed_15 rfl ?_
    refine n_put (D := G.1) (wsn := mW G a (upd i 8 x) j t r n d ps im kp tx cd bk py pt mt) (ci := 10) (v := .long x.toInt64) (ty := .long) (C := RX10) (T := TX10) (N := 25) hx hb hts k1 tyX10 tyX10_ok nmX10 hown hK hP hD hS 0 rfl rfl 8 (by decide) k0 (fun _ h9 => h9) rfl (by decide +kernel) rfl rfl (Nat.le_of_ble_eq_true rfl) rfl dX10_seed_16 (fun H locs hP hD hS => ?_)
    refine lv_iload_n hx hb dX10_seed_19 rfl (lv_at hl 0 rfl) ?_
    have hP : va_P G.1 vwCl (mW G a (if ¬ x < 0 then upd i 8 x else i) j t r n d ps im kp tx cd bk py pt mt) H := by rw [show (if ¬ x < 0 then upd i 8 x else i) = (upd i 8 x) from by first | rfl | simp [cq1, (i32_nlt.mpr cq1)]]; exact hP
    exact mX_iret hAe C hP hS dX10_seed_20 (by simp [sdR, cq1, (i32_nlt.mpr cq1)])
  · skip
    refine lv_ldc hx hb hown k2 dX10_seed_4 ?_
    have hP : va_P G.1 vwCl (mW G a (if ¬ x < 0 then upd i 8 x else i) j t r n d ps im kp tx cd bk py pt mt) zs.heap := by rw [show (if ¬ x < 0 then upd i 8 x else i) = i from by first | rfl | simp [cq1, (i32_nle.mp cq1)]]; exact hP
    exact mX_iret hAe C hP hS dX10_seed_6 (by simp [sdR, cq1, (i32_nle.mp cq1)])
theorem hd_X10_keep : yX10_keep.cls = RX10 ∧ yX10_keep.cls ≠ "java/lang/invoke/MethodHandle" ∧ yX10_keep.cls ≠ "java/lang/invoke/VarHandle" ∧ (parseMethodDescriptor yX10_keep.desc).map (fun d => d.parameters.length) = some 1 := by decide +kernel
set_option maxRecDepth 100000 in
set_option maxHeartbeats 4000000 in
theorem c_X10_keep (l : Launch) (G : gG) (a : Nat → Nat) (i : Nat → Int32) (j : Nat → Int32) (t : Nat → Int32) (r : Nat → Int32) (n : Nat → Int32) (d : Nat → Int32) (ps : Nat → Int32) (im : Nat → Int32) (kp : Nat → Int32) (tx : Nat → Int32) (cd : Nat → Int32) (bk : Nat → Int32) (py : Nat → Int32) (pt : Nat → Int32) (mt : Nat → Int32) (x : Int32) : mX l yX10_keep wsX10_keep ({ frames := 1, cells := 0, slots := 0, locals := 25 }) G (mW G a i j t r n d ps im kp tx cd bk py pt mt) (mW G a (if inB x 0 1 then upd i 5 0 else i) j t r n d ps (if inB x 0 1 then kpF n im (i 8) (cl x) else im) (if inB x 0 1 then upd kp (cl x) 1 else kp) tx cd bk py pt mt) [.ref (a 0), .int x] (.returned (some (.int (kpR x)))) := by
  refine mX.of (cc := cX10_keep) (maxL := 2) (ret := (some .int)) (by decide) rfl (Nat.le_of_ble_eq_true rfl) ?_
  intro zp ze zs zm zb zt zc ls A hAe C hP hK hD hS hl
  obtain ⟨hx, hb, hr, hml, hown, hts, hlk⟩ := id C
  have hl : lv_has ls 2 [(0, .ref (a 0)), (1, .int x)] := hl
  have k0 := hts (.fieldLink RX10 16 "DebtDowryModel" "now" "[I") (by decide +kernel)
  have k1 := (fun w h => by revert w; decide +kernel : ∀ w ∈ wsX100, w ∈ wsX10_keep)
  have k2 := hts (.fieldLink RX10 25 "DebtDowryModel" "images" "[I") (by decide +kernel)
  have k3 := hts (.fieldLink RX10 225 "DebtDowryModel" "seed" "J") (by decide +kernel)
  have k4 := hts (.fieldLink RX10 28 "DebtDowryModel" "kept" "[Z") (by decide +kernel)
  have k5 := hts (.fieldLink RX10 69 "DebtDowryModel" "undos" "I") (by decide +kernel)
  have k6 := hts (.constant RX10 175 (-1000000001)) (by decide +kernel)
  refine lv_iload_n hx hb dX10_keep_0 rfl (lv_at hl 1 rfl) ?_
  refine lv_i2l (v := x.toInt64) hx hb dX10_keep_1 rfl ?_
  refine lv_lconst (v := 0) hx hb dX10_keep_2 (by decide) ?_
  refine lv_lconst (v := 1) hx hb dX10_keep_3 (by decide) ?_
  refine cR_S (n := 3) (As := [.long x.toInt64, .long 0, .long 1]) (rest := []) C (c_X10_in l G    x x.toInt64 rfl 0 0 rfl 1 1 rfl ) gX10_keep_X10_in rfl ⟨rfl, rfl⟩ hd_X10_in ⟨(Nat.le_of_ble_eq_true rfl), (Nat.le_of_ble_eq_true rfl)⟩ hK (hP.sub [] rfl) rfl hl.1 rfl (Nat.le_of_ble_eq_true rfl) dX10_keep_4 ⟨(Nat.le_of_ble_eq_true rfl), (Nat.le_of_ble_eq_true rfl)⟩ ?_
  refine b_if_ne (tgt := 13) hx hb dX10_keep_7 (by decide) (fun cq1 => ?_) (fun cq1 => ?_)
  · skip
    obtain ⟨kk, hkk1, hkk2, rfl⟩ := inB_rng (a := 0) (b := 1) rfl rfl (by decide) (by decide) (cq1)
    have hcl_kk := cl_nI (n := kk) (by omega)
    refine lv_aload_n hx hb dX10_keep_13 rfl (lv_at hl 0 rfl) ?_
    refine va_get (D := G.1) (ci := 10) (v := .ref (a 3)) (C := RX10) (T := TX10) (N := 25) hx hb hts k1 hown hK hP 0 rfl rfl 2 (by decide) k0 (fun _ h9 => h9) rfl dX10_keep_14 ?_
    refine lv_iconst (v := 0) hx hb dX10_keep_17 (by decide) ?_
    refine lv_aload_n hx hb dX10_keep_18 rfl (lv_at hl 0 rfl) ?_
    refine va_get (D := G.1) (ci := 10) (v := .ref (a 6)) (C := RX10) (T := TX10) (N := 25) hx hb hts k1 hown hK hP 0 rfl rfl 6 (by decide) k2 (fun _ h9 => h9) rfl dX10_keep_19 ?_
    refine lv_bipush (v := 55) hx hb dX10_keep_22 (by decide) ?_
    refine lv_iload_n hx hb dX10_keep_24 rfl (lv_at hl 1 rfl) ?_
    refine n_imul hx hb dX10_keep_25 (u := 55) (v := kk) rfl rfl (j := 55 * kk) (by omega) ?_
    refine lv_bipush (v := 54) hx hb dX10_keep_26 (by decide) ?_
    refine cX_S (n := 5) (As := [.ref (a 3), .int (nI 0), .ref (a 6), .int (nI (55 * kk)), .int (nI 54)]) (rest := []) (wsn := mW G a i j t r n d ps (va_cpy n im 0 (55 * kk) 54) kp tx cd bk py pt mt) C (c_X10_copies l G (a 3) (a 6) 54 110 n im  0 (55 * kk) 54 (by omega) (by omega) (by decide)) gX10_keep_X10_copies rfl ⟨rfl, rfl⟩ hd_X10_copies ⟨(Nat.le_of_ble_eq_true rfl), (Nat.le_of_ble_eq_true rfl)⟩ hK hP hD hS [3, 6] (by decide) rfl (cpW_f.trans cpW_f.symm) rfl (mW_f.trans mW_f.symm) rfl hl.1 rfl (Nat.le_of_ble_eq_true rfl) dX10_keep_28 ⟨(Nat.le_of_ble_eq_true rfl), (Nat.le_of_ble_eq_true rfl)⟩ (fun H locs hP hD hS => ?_)
    refine lv_aload_n hx hb dX10_keep_31 rfl (lv_at hl 0 rfl) ?_
    refine va_get (D := G.1) (ci := 10) (v := .ref (a 6)) (C := RX10) (T := TX10) (N := 25) hx hb hts k1 hown hK hP 0 rfl rfl 6 (by decide) k2 (fun _ h9 => h9) rfl dX10_keep_32 ?_
    refine lv_bipush (v := 55) hx hb dX10_keep_35 (by decide) ?_
    refine lv_iload_n hx hb dX10_keep_37 rfl (lv_at hl 1 rfl) ?_
    refine n_imul hx hb dX10_keep_38 (u := 55) (v := kk) rfl rfl (j := 55 * kk) (by omega) ?_
    refine lv_bipush (v := 54) hx hb dX10_keep_39 (by decide) ?_
    refine n_iadd hx hb dX10_keep_41 (u := 55 * kk) (v := 54) rfl rfl (j := (55 * kk) + 54) (by omega) ?_
    refine lv_aload_n hx hb dX10_keep_42 rfl (lv_at hl 0 rfl) ?_
    refine va_get (D := G.1) (ci := 10) (v := .long ((i 8).toInt64)) (C := RX10) (T := TX10) (N := 25) hx hb hts k1 hown hK hP 0 rfl rfl 8 (by decide) k3 (fun _ h9 => h9) rfl dX10_keep_43 ?_
    refine lv_l2i (v := ((i 8).toInt64).toInt32) hx hb dX10_keep_46 rfl ?_
    rw [i64_32]
    refine n_iast hx hb hK hP hD hS 6 0 rfl rfl (x := (i 8)) (j := (55 * kk) + 54) rfl (by omega) (by decide) dX10_keep_47 (wsn := mW G a i j t r n d ps (upd (va_cpy n im 0 (55 * kk) 54) ((55 * kk) + 54) (i 8)) kp tx cd bk py pt mt) rfl (fun H locs hP hD hS => ?_)
    refine lv_aload_n hx hb dX10_keep_48 rfl (lv_at hl 0 rfl) ?_
    refine va_get (D := G.1) (ci := 10) (v := .ref (a 7)) (C := RX10) (T := TX10) (N := 25) hx hb hts k1 hown hK hP 0 rfl rfl 7 (by decide) k4 (fun _ h9 => h9) rfl dX10_keep_49 ?_
    refine lv_iload_n hx hb dX10_keep_52 rfl (lv_at hl 1 rfl) ?_
    refine lv_iconst (v := 1) hx hb dX10_keep_53 (by decide) ?_
    refine n_zast hx hb hK hP hD hS 7 1 rfl rfl (x := 1) (j := kk) rfl (by omega) (by decide) (by decide) dX10_keep_54 (wsn := mW G a i j t r n d ps (upd (va_cpy n im 0 (55 * kk) 54) ((55 * kk) + 54) (i 8)) (upd kp kk 1) tx cd bk py pt mt) rfl (fun H locs hP hD hS => ?_)
    refine lv_aload_n hx hb dX10_keep_55 rfl (lv_at hl 0 rfl) ?_
    refine lv_iconst (v := 0) hx hb dX10_keep_56 (by decide) ?_
    refine n_put (D := G.1) (wsn := mW G a (upd i 5 0) j t r n d ps (upd (va_cpy n im 0 (55 * kk) 54) ((55 * kk) + 54) (i 8)) (upd kp kk 1) tx cd bk py pt mt) (ci := 10) (v := .int 0) (ty := .int) (C := RX10) (T := TX10) (N := 25) hx hb hts k1 tyX10 tyX10_ok nmX10 hown hK hP hD hS 0 rfl rfl 5 (by decide) k5 (fun _ h9 => h9) rfl (by decide +kernel) rfl rfl (Nat.le_of_ble_eq_true rfl) rfl dX10_keep_57 (fun H locs hP hD hS => ?_)
    refine lv_iconst (v := 1) hx hb dX10_keep_60 (by decide) ?_
    have hP : va_P G.1 vwCl (mW G a (if inB (nI kk) 0 1 then upd i 5 0 else i) j t r n d ps (if inB (nI kk) 0 1 then kpF n im (i 8) (cl (nI kk)) else im) (if inB (nI kk) 0 1 then upd kp (cl (nI kk)) 1 else kp) tx cd bk py pt mt) H := by rw [show (if inB (nI kk) 0 1 then upd i 5 0 else i) = (upd i 5 0) from by first | rfl | simp [kpF, cq1, hcl_kk], show (if inB (nI kk) 0 1 then kpF n im (i 8) (cl (nI kk)) else im) = (upd (va_cpy n im 0 (55 * kk) 54) ((55 * kk) + 54) (i 8)) from by first | rfl | simp [kpF, cq1, hcl_kk], show (if inB (nI kk) 0 1 then upd kp (cl (nI kk)) 1 else kp) = (upd kp kk 1) from by first | rfl | simp [kpF, cq1, hcl_kk]]; exact hP
    exact mX_iret hAe C hP hS dX10_keep_61 (by simp [kpR, cq1, hcl_kk])
  · skip
    refine lv_ldc hx hb hown k6 dX10_keep_10 ?_
    have hP : va_P G.1 vwCl (mW G a (if inB x 0 1 then upd i 5 0 else i) j t r n d ps (if inB x 0 1 then kpF n im (i 8) (cl x) else im) (if inB x 0 1 then upd kp (cl x) 1 else kp) tx cd bk py pt mt) zs.heap := by rw [show (if inB x 0 1 then upd i 5 0 else i) = i from by first | rfl | simp [kpF, cq1], show (if inB x 0 1 then kpF n im (i 8) (cl x) else im) = im from by first | rfl | simp [kpF, cq1], show (if inB x 0 1 then upd kp (cl x) 1 else kp) = kp from by first | rfl | simp [kpF, cq1]]; exact hP
    exact mX_iret hAe C hP hS dX10_keep_12 (by simp [kpR, cq1])
theorem hd_X10_goBack : yX10_goBack.cls = RX10 ∧ yX10_goBack.cls ≠ "java/lang/invoke/MethodHandle" ∧ yX10_goBack.cls ≠ "java/lang/invoke/VarHandle" ∧ (parseMethodDescriptor yX10_goBack.desc).map (fun d => d.parameters.length) = some 1 := by decide +kernel
set_option maxRecDepth 100000 in
set_option maxHeartbeats 4000000 in
theorem c_X10_goBack (l : Launch) (G : gG) (a : Nat → Nat) (i : Nat → Int32) (j : Nat → Int32) (t : Nat → Int32) (r : Nat → Int32) (n : Nat → Int32) (d : Nat → Int32) (ps : Nat → Int32) (im : Nat → Int32) (kp : Nat → Int32) (tx : Nat → Int32) (cd : Nat → Int32) (bk : Nat → Int32) (py : Nat → Int32) (pt : Nat → Int32) (mt : Nat → Int32) (x : Int32) : mX l yX10_goBack wsX10_goBack ({ frames := 1, cells := 0, slots := 0, locals := 25 }) G (mW G a i j t r n d ps im kp tx cd bk py pt mt) (mW G a (if okGb kp x then upd (upd i 8 (im (55 * cl x + 54))) 5 0 else i) j t r (if okGb kp x then va_cpy im n (55 * cl x) 0 54 else n) d ps im kp tx cd bk py pt mt) [.ref (a 0), .int x] (.returned (some (.int (gbR kp x)))) := by
  refine mX.of (cc := cX10_goBack) (maxL := 2) (ret := (some .int)) (by decide) rfl (Nat.le_of_ble_eq_true rfl) ?_
  intro zp ze zs zm zb zt zc ls A hAe C hP hK hD hS hl
  obtain ⟨hx, hb, hr, hml, hown, hts, hlk⟩ := id C
  have hl : lv_has ls 2 [(0, .ref (a 0)), (1, .int x)] := hl
  have k0 := hts (.fieldLink RX10 28 "DebtDowryModel" "kept" "[Z") (by decide +kernel)
  have k1 := (fun w h => by revert w; decide +kernel : ∀ w ∈ wsX100, w ∈ wsX10_goBack)
  have k2 := hts (.fieldLink RX10 25 "DebtDowryModel" "images" "[I") (by decide +kernel)
  have k3 := hts (.fieldLink RX10 16 "DebtDowryModel" "now" "[I") (by decide +kernel)
  have k4 := hts (.fieldLink RX10 225 "DebtDowryModel" "seed" "J") (by decide +kernel)
  have k5 := hts (.fieldLink RX10 69 "DebtDowryModel" "undos" "I") (by decide +kernel)
  have k6 := hts (.constant RX10 193 (-1000000003)) (by decide +kernel)
  have k7 := hts (.constant RX10 175 (-1000000001)) (by decide +kernel)
  refine lv_iload_n hx hb dX10_goBack_0 rfl (lv_at hl 1 rfl) ?_
  refine lv_i2l (v := x.toInt64) hx hb dX10_goBack_1 rfl ?_
  refine lv_lconst (v := 0) hx hb dX10_goBack_2 (by decide) ?_
  refine lv_lconst (v := 1) hx hb dX10_goBack_3 (by decide) ?_
  refine cR_S (n := 3) (As := [.long x.toInt64, .long 0, .long 1]) (rest := []) C (c_X10_in l G    x x.toInt64 rfl 0 0 rfl 1 1 rfl ) gX10_goBack_X10_in rfl ⟨rfl, rfl⟩ hd_X10_in ⟨(Nat.le_of_ble_eq_true rfl), (Nat.le_of_ble_eq_true rfl)⟩ hK (hP.sub [] rfl) rfl hl.1 rfl (Nat.le_of_ble_eq_true rfl) dX10_goBack_4 ⟨(Nat.le_of_ble_eq_true rfl), (Nat.le_of_ble_eq_true rfl)⟩ ?_
  refine b_if_ne (tgt := 13) hx hb dX10_goBack_7 (by decide) (fun cq1 => ?_) (fun cq1 => ?_)
  · skip
    obtain ⟨kk, hkk1, hkk2, rfl⟩ := inB_rng (a := 0) (b := 1) rfl rfl (by decide) (by decide) (cq1)
    have hcl_kk := cl_nI (n := kk) (by omega)
    refine lv_aload_n hx hb dX10_goBack_13 rfl (lv_at hl 0 rfl) ?_
    refine va_get (D := G.1) (ci := 10) (v := .ref (a 7)) (C := RX10) (T := TX10) (N := 25) hx hb hts k1 hown hK hP 0 rfl rfl 7 (by decide) k0 (fun _ h9 => h9) rfl dX10_goBack_14 ?_
    refine lv_iload_n hx hb dX10_goBack_17 rfl (lv_at hl 1 rfl) ?_
    refine n_zald hx hb hK hP 7 1 rfl rfl (j := kk) rfl (by omega) (by decide) dX10_goBack_18 ?_
    refine lv_if_ne (tgt := 25) hx hb dX10_goBack_19 (by decide) (fun cq2 => ?_) (fun cq2 => ?_)
    · skip
      refine lv_aload_n hx hb dX10_goBack_25 rfl (lv_at hl 0 rfl) ?_
      refine va_get (D := G.1) (ci := 10) (v := .ref (a 6)) (C := RX10) (T := TX10) (N := 25) hx hb hts k1 hown hK hP 0 rfl rfl 6 (by decide) k2 (fun _ h9 => h9) rfl dX10_goBack_26 ?_
      refine lv_bipush (v := 55) hx hb dX10_goBack_29 (by decide) ?_
      refine lv_iload_n hx hb dX10_goBack_31 rfl (lv_at hl 1 rfl) ?_
      refine n_imul hx hb dX10_goBack_32 (u := 55) (v := kk) rfl rfl (j := 55 * kk) (by omega) ?_
      refine lv_aload_n hx hb dX10_goBack_33 rfl (lv_at hl 0 rfl) ?_
      refine va_get (D := G.1) (ci := 10) (v := .ref (a 3)) (C := RX10) (T := TX10) (N := 25) hx hb hts k1 hown hK hP 0 rfl rfl 2 (by decide) k3 (fun _ h9 => h9) rfl dX10_goBack_34 ?_
      refine lv_iconst (v := 0) hx hb dX10_goBack_37 (by decide) ?_
      refine lv_bipush (v := 54) hx hb dX10_goBack_38 (by decide) ?_
      refine cX_S (n := 5) (As := [.ref (a 6), .int (nI (55 * kk)), .ref (a 3), .int (nI 0), .int (nI 54)]) (rest := []) (wsn := mW G a i j t r (va_cpy im n (55 * kk) 0 54) d ps im kp tx cd bk py pt mt) C (c_X10_copies l G (a 6) (a 3) 110 54 im n  (55 * kk) 0 54 (by omega) (by omega) (by decide)) gX10_goBack_X10_copies rfl ⟨rfl, rfl⟩ hd_X10_copies ⟨(Nat.le_of_ble_eq_true rfl), (Nat.le_of_ble_eq_true rfl)⟩ hK hP hD hS [6, 3] (by decide) rfl (cpW_f.trans cpW_f.symm) rfl (mW_f.trans mW_f.symm) rfl hl.1 rfl (Nat.le_of_ble_eq_true rfl) dX10_goBack_40 ⟨(Nat.le_of_ble_eq_true rfl), (Nat.le_of_ble_eq_true rfl)⟩ (fun H locs hP hD hS => ?_)
      refine lv_aload_n hx hb dX10_goBack_43 rfl (lv_at hl 0 rfl) ?_
      refine lv_aload_n hx hb dX10_goBack_44 rfl (lv_at hl 0 rfl) ?_
      refine va_get (D := G.1) (ci := 10) (v := .ref (a 6)) (C := RX10) (T := TX10) (N := 25) hx hb hts k1 hown hK hP 0 rfl rfl 6 (by decide) k2 (fun _ h9 => h9) rfl dX10_goBack_45 ?_
      refine lv_bipush (v := 55) hx hb dX10_goBack_48 (by decide) ?_
      refine lv_iload_n hx hb dX10_goBack_50 rfl (lv_at hl 1 rfl) ?_
      refine n_imul hx hb dX10_goBack_51 (u := 55) (v := kk) rfl rfl (j := 55 * kk) (by omega) ?_
      refine lv_bipush (v := 54) hx hb dX10_goBack_52 (by decide) ?_
      refine n_iadd hx hb dX10_goBack_54 (u := 55 * kk) (v := 54) rfl rfl (j := (55 * kk) + 54) (by omega) ?_
      refine n_iald hx hb hK hP 6 0 rfl rfl (j := (55 * kk) + 54) rfl (by omega) (by decide) dX10_goBack_55 ?_
      refine lv_i2l (v := (im ((55 * kk) + 54)).toInt64) hx hb dX10_goBack_56 rfl ?_
      refine n_put (D := G.1) (wsn := mW G a (upd i 8 (im ((55 * kk) + 54))) j t r (va_cpy im n (55 * kk) 0 54) d ps im kp tx cd bk py pt mt) (ci := 10) (v := .long ((im ((55 * kk) + 54)).toInt64)) (ty := .long) (C := RX10) (T := TX10) (N := 25) hx hb hts k1 tyX10 tyX10_ok nmX10 hown hK hP hD hS 0 rfl rfl 8 (by decide) k4 (fun _ h9 => h9) rfl (by decide +kernel) rfl rfl (Nat.le_of_ble_eq_true rfl) rfl dX10_goBack_57 (fun H locs hP hD hS => ?_)
      refine lv_aload_n hx hb dX10_goBack_60 rfl (lv_at hl 0 rfl) ?_
      refine lv_iconst (v := 0) hx hb dX10_goBack_61 (by decide) ?_
      refine n_put (D := G.1) (wsn := mW G a (upd (upd i 8 (im ((55 * kk) + 54))) 5 0) j t r (va_cpy im n (55 * kk) 0 54) d ps im kp tx cd bk py pt mt) (ci := 10) (v := .int 0) (ty := .int) (C := RX10) (T := TX10) (N := 25) hx hb hts k1 tyX10 tyX10_ok nmX10 hown hK hP hD hS 0 rfl rfl 5 (by decide) k5 (fun _ h9 => h9) rfl (by decide +kernel) rfl rfl (Nat.le_of_ble_eq_true rfl) rfl dX10_goBack_62 (fun H locs hP hD hS => ?_)
      refine lv_iconst (v := 1) hx hb dX10_goBack_65 (by decide) ?_
      have hP : va_P G.1 vwCl (mW G a (if okGb kp (nI kk) then upd (upd i 8 (im (55 * cl (nI kk) + 54))) 5 0 else i) j t r (if okGb kp (nI kk) then va_cpy im n (55 * cl (nI kk)) 0 54 else n) d ps im kp tx cd bk py pt mt) H := by rw [show (if okGb kp (nI kk) then upd (upd i 8 (im (55 * cl (nI kk) + 54))) 5 0 else i) = (upd (upd i 8 (im ((55 * kk) + 54))) 5 0) from by first | rfl | simp [cq1, hcl_kk, cq2], show (if okGb kp (nI kk) then va_cpy im n (55 * cl (nI kk)) 0 54 else n) = (va_cpy im n (55 * kk) 0 54) from by first | rfl | simp [cq1, hcl_kk, cq2]]; exact hP
      exact mX_iret hAe C hP hS dX10_goBack_66 (by simp [gbR, cq1, hcl_kk, cq2])
    · skip
      refine lv_ldc hx hb hown k6 dX10_goBack_22 ?_
      have hP : va_P G.1 vwCl (mW G a (if okGb kp (nI kk) then upd (upd i 8 (im (55 * cl (nI kk) + 54))) 5 0 else i) j t r (if okGb kp (nI kk) then va_cpy im n (55 * cl (nI kk)) 0 54 else n) d ps im kp tx cd bk py pt mt) zs.heap := by rw [show (if okGb kp (nI kk) then upd (upd i 8 (im (55 * cl (nI kk) + 54))) 5 0 else i) = i from by first | rfl | simp [cq1, hcl_kk, cq2], show (if okGb kp (nI kk) then va_cpy im n (55 * cl (nI kk)) 0 54 else n) = n from by first | rfl | simp [cq1, hcl_kk, cq2]]; exact hP
      exact mX_iret hAe C hP hS dX10_goBack_24 (by simp [gbR, cq1, hcl_kk, cq2])
  · skip
    refine lv_ldc hx hb hown k7 dX10_goBack_10 ?_
    have hP : va_P G.1 vwCl (mW G a (if okGb kp x then upd (upd i 8 (im (55 * cl x + 54))) 5 0 else i) j t r (if okGb kp x then va_cpy im n (55 * cl x) 0 54 else n) d ps im kp tx cd bk py pt mt) zs.heap := by rw [show (if okGb kp x then upd (upd i 8 (im (55 * cl x + 54))) 5 0 else i) = i from by first | rfl | simp [cq1], show (if okGb kp x then va_cpy im n (55 * cl x) 0 54 else n) = n from by first | rfl | simp [cq1]]; exact hP
    exact mX_iret hAe C hP hS dX10_goBack_12 (by simp [gbR, cq1])
