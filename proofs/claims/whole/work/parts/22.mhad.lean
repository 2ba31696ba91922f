theorem hd_X10_had : yX10_had.cls = RX10 ∧ yX10_had.cls ≠ "java/lang/invoke/MethodHandle" ∧ yX10_had.cls ≠ "java/lang/invoke/VarHandle" ∧ (parseMethodDescriptor yX10_had.desc).map (fun d => d.parameters.length) = some 3 := by decide +kernel
set_option maxRecDepth 100000 in
set_option maxHeartbeats 4000000 in
theorem c_X10_had (l : Launch) (G : gG) (a : Nat → Nat) (i : Nat → Int32) (j : Nat → Int32) (t : Nat → Int32) (r : Nat → Int32) (n : Nat → Int32) (d : Nat → Int32) (ps : Nat → Int32) (im : Nat → Int32) (kp : Nat → Int32) (tx : Nat → Int32) (cd : Nat → Int32) (bk : Nat → Int32) (py : Nat → Int32) (pt : Nat → Int32) (mt : Nat → Int32) (nc : Nat) (np : Nat) (cm : Nat) (p : Int32) (c : Int32) (w : Int32) (hT : tw t nc np) (hcm : i 13 = nI cm) (hcl : cm ≤ 6) (hQ : ∀ k, k < cm → ∃ q, q ≤ 12 ∧ cd (4 * k + 2) = nI q) : mR l yX10_had wsX10_had ({ frames := 4, cells := 0, slots := 0, locals := 92 }) G (mW G a i j t r n d ps im kp tx cd bk py pt mt) [.ref (a 0), .int p, .int c, .int w] (haR t cd cm p c w) := by
  refine mR.of (cc := cX10_had) (maxL := 8) (ret := (some .int)) (by decide) rfl (Nat.le_of_ble_eq_true rfl) ?_
  intro zp ze zs zm zb zt zc ls C hP hK hl
  obtain ⟨hx, hb, hr, hml, hown, hts, hlk⟩ := id C
  have hl : lv_has ls 8 [(0, .ref (a 0)), (1, .int p), (2, .int c), (3, .int w)] := hl
  have hT2 := hT.2.2
  have k0 := hts (.constant RX10 175 (-1000000001)) (by decide +kernel)
  have k1 := hts (.constantLong RX10 276 (2)) (by decide +kernel)
  have k2 := hts (.constant RX10 80 (-1000000002)) (by decide +kernel)
  refine lv_aload_n hx hb dX10_had_0 rfl (lv_at hl 0 rfl) ?_
  refine lv_iload_n hx hb dX10_had_1 rfl (lv_at hl 1 rfl) ?_
  refine cR_V (Cn := RX10) (n := 1) (As := [.int p]) (rest := []) C (c_X10_isPerson l G a i j t r n d ps im kp tx cd bk py pt mt  p ) gX10_had_X10_isPerson rfl ⟨rfl, rfl⟩ hd_X10_isPerson ⟨(Nat.le_of_ble_eq_true rfl), (Nat.le_of_ble_eq_true rfl)⟩ hK hP (va_recv hK hP (ci := 10) (q0 := 0) rfl rfl) rfl hl.1 rfl (Nat.le_of_ble_eq_true rfl) dX10_had_2 ⟨(Nat.le_of_ble_eq_true rfl), (Nat.le_of_ble_eq_true rfl)⟩ ?_
  refine b_if_eq (tgt := 16) hx hb dX10_had_5 (by decide) (fun cq1 => ?_) (fun cq1 => ?_)
  · skip
    refine lv_ldc hx hb hown k0 dX10_had_16 ?_
    exact mR_iret C dX10_had_18 (by simp [haR, cq1])
  · skip
    obtain ⟨pp, hpp, rfl⟩ := inB_nat hT.2.1 (by omega) cq1
    have hcl_pp := cl_nI (n := pp) (by omega)
    refine lv_aload_n hx hb dX10_had_8 rfl (lv_at hl 0 rfl) ?_
    refine lv_iload_n hx hb dX10_had_9 rfl (lv_at hl 2 rfl) ?_
    refine cR_V (Cn := RX10) (n := 1) (As := [.int c]) (rest := []) C (c_X10_isCreditor l G a i j t r n d ps im kp tx cd bk py pt mt  c ) gX10_had_X10_isCreditor rfl ⟨rfl, rfl⟩ hd_X10_isCreditor ⟨(Nat.le_of_ble_eq_true rfl), (Nat.le_of_ble_eq_true rfl)⟩ hK hP (va_recv hK hP (ci := 10) (q0 := 0) rfl rfl) rfl hl.1 rfl (Nat.le_of_ble_eq_true rfl) dX10_had_10 ⟨(Nat.le_of_ble_eq_true rfl), (Nat.le_of_ble_eq_true rfl)⟩ ?_
    refine b_if_ne (tgt := 19) hx hb dX10_had_13 (by decide) (fun cq2 => ?_) (fun cq2 => ?_)
    · skip
      obtain ⟨cc, hcc, rfl⟩ := inB_nat hT.1 (by omega) cq2
      have hcl_cc := cl_nI (n := cc) (by omega)
      refine lv_iload_n hx hb dX10_had_19 rfl (lv_at hl 3 rfl) ?_
      refine lv_i2l (v := w.toInt64) hx hb dX10_had_20 rfl ?_
      refine lv_lconst (v := 0) hx hb dX10_had_21 (by decide) ?_
      refine lv_ldc2 hx hb hown k1 dX10_had_22 ?_
      refine cR_S (n := 3) (As := [.long w.toInt64, .long 0, .long 2]) (rest := []) C (c_X10_in l G    w w.toInt64 rfl 0 0 rfl 2 2 rfl ) gX10_had_X10_in rfl ⟨rfl, rfl⟩ hd_X10_in ⟨(Nat.le_of_ble_eq_true rfl), (Nat.le_of_ble_eq_true rfl)⟩ hK (hP.sub [] rfl) rfl hl.1 rfl (Nat.le_of_ble_eq_true rfl) dX10_had_25 ⟨(Nat.le_of_ble_eq_true rfl), (Nat.le_of_ble_eq_true rfl)⟩ ?_
      refine b_if_ne (tgt := 34) hx hb dX10_had_28 (by decide) (fun cq3 => ?_) (fun cq3 => ?_)
      · skip
        refine lv_iconst (v := 0) hx hb dX10_had_34 (by decide) ?_
        refine lv_istore (lv' := [(4, .int 0), (0, .ref (a 0)), (1, .int (nI pp)), (2, .int (nI cc)), (3, .int w)]) hx hb dX10_had_35 hl (by decide) rfl (fun ls hl => ?_)
        refine lv_iconst (v := (-1)) hx hb dX10_had_37 (by decide) ?_
        refine lv_istore (lv' := [(5, .int (-1)), (4, .int 0), (0, .ref (a 0)), (1, .int (nI pp)), (2, .int (nI cc)), (3, .int w)]) hx hb dX10_had_38 hl (by decide) rfl (fun ls hl => ?_)
        refine lv_iconst (v := (-1)) hx hb dX10_had_40 (by decide) ?_
        refine lv_istore (lv' := [(6, .int (-1)), (5, .int (-1)), (4, .int 0), (0, .ref (a 0)), (1, .int (nI pp)), (2, .int (nI cc)), (3, .int w)]) hx hb dX10_had_41 hl (by decide) rfl (fun ls hl => ?_)
        refine lv_iconst (v := 0) hx hb dX10_had_43 (by decide) ?_
        refine lv_istore (lv' := [(7, .int 0), (6, .int (-1)), (5, .int (-1)), (4, .int 0), (0, .ref (a 0)), (1, .int (nI pp)), (2, .int (nI cc)), (3, .int w)]) hx hb dX10_had_44 hl (by decide) rfl (fun ls hl => ?_)
        refine wl_R (B := 100) (i0 := 0) (Inv := fun i1 ls => lv_has ls 8 [(0, .ref (a 0)), (1, .int (nI pp)), (2, .int (nI cc)), (3, .int w), (4, .int (cntU (fitP t cd cm pp cc) i1)), (5, .int (fstU (fitP t cd cm pp cc) i1)), (6, .int (lstU (fitP t cd cm pp cc) i1)), (7, .int (nI i1))] ∧ True) (by omega) ⟨lv_sub hl [4, 5, 6, 7, 3, 2, 1, 0] (rfl), trivial⟩ ?_
        rintro i1 ls hle46 ⟨hl, -⟩ ih46
        refine lv_iload hx hb dX10_had_46 (lv_at hl 7 rfl) ?_
        refine lv_bipush (v := 100) hx hb dX10_had_48 (by decide) ?_
        refine n_icmp_ge (tgt := 92) hx hb dX10_had_50 (by decide) (u := i1) (v := 100) rfl rfl (by omega) (by omega) (fun cq4 => ?_) (fun cq4 => ?_)
        · skip
          obtain rfl : i1 = 100 := by omega
          refine lv_iload_n hx hb dX10_had_92 rfl (lv_at hl 3 rfl) ?_
          refine lv_if_ne (tgt := 101) hx hb dX10_had_93 (by decide) (fun cq5 => ?_) (fun cq5 => ?_)
          · skip
            refine lv_iload_n hx hb dX10_had_101 rfl (lv_at hl 3 rfl) ?_
            refine lv_iconst (v := 1) hx hb dX10_had_102 (by decide) ?_
            refine lv_icmp_ne (tgt := 111) hx hb dX10_had_103 (by decide) (fun cq6 => ?_) (fun cq6 => ?_)
            · skip
              refine lv_iload hx hb dX10_had_111 (lv_at hl 6 rfl) ?_
              exact mR_iret C dX10_had_113 (by simp [haR, cq1, hcl_pp, cq2, hcl_cc, cq3, cq4, cq5, cq6])
            · skip
              refine lv_iload hx hb dX10_had_106 (lv_at hl 5 rfl) ?_
              refine lv_goto (tgt := 113) hx hb dX10_had_108 (by decide) ?_
              exact mR_iret C dX10_had_113 (by simp [haR, cq1, hcl_pp, cq2, hcl_cc, cq3, cq4, cq5, cq6])
          · skip
            refine lv_iload hx hb dX10_had_96 (lv_at hl 4 rfl) ?_
            refine lv_goto (tgt := 113) hx hb dX10_had_98 (by decide) ?_
            exact mR_iret C dX10_had_113 (by simp [haR, cq1, hcl_pp, cq2, hcl_cc, cq3, cq4, cq5])
        · skip
          refine lv_aload_n hx hb dX10_had_53 rfl (lv_at hl 0 rfl) ?_
          refine lv_iload_n hx hb dX10_had_54 rfl (lv_at hl 1 rfl) ?_
          refine lv_iload_n hx hb dX10_had_55 rfl (lv_at hl 2 rfl) ?_
          refine lv_iload hx hb dX10_had_56 (lv_at hl 7 rfl) ?_
          refine cR_V (Cn := RX10) (n := 3) (As := [.int (nI pp), .int (nI cc), .int (nI i1)]) (rest := []) C (c_X10_couldBe l G a i j t r n d ps im kp tx cd bk py pt mt cm pp cc (nI i1) hcm hcl hQ (by omega)) gX10_had_X10_couldBe rfl ⟨rfl, rfl⟩ hd_X10_couldBe ⟨(Nat.le_of_ble_eq_true rfl), (Nat.le_of_ble_eq_true rfl)⟩ hK hP (va_recv hK hP (ci := 10) (q0 := 0) rfl rfl) rfl hl.1 rfl (Nat.le_of_ble_eq_true rfl) dX10_had_58 ⟨(Nat.le_of_ble_eq_true rfl), (Nat.le_of_ble_eq_true rfl)⟩ ?_
          refine b_if_eq (tgt := 86) hx hb dX10_had_61 (by decide) (fun cq7 => ?_) (fun cq7 => ?_)
          · skip
            have hfi : ¬ fitP t cd cm pp cc i1 = true := cq7
            refine lv_iinc (v := nI (i1 + 1)) (lv' := [(7, .int (nI (i1 + 1))), (0, .ref (a 0)), (1, .int (nI pp)), (2, .int (nI cc)), (3, .int w), (4, .int (cntU (fitP t cd cm pp cc) i1)), (5, .int (fstU (fitP t cd cm pp cc) i1)), (6, .int (lstU (fitP t cd cm pp cc) i1))]) hx hb dX10_had_86 hl (k := 7) rfl (by rw [show (nI i1 : Int32) = nI i1 from rfl]; exact nI_add _ 1) (by decide) rfl (fun ls hl => ?_)
            refine lv_goto (tgt := 46) hx hb dX10_had_89 (by decide) ?_
            have e8 : cntU (fitP t cd cm pp cc) i1 = cntU (fitP t cd cm pp cc) (i1 + 1) := by first | exact (if_pos hfi).symm | exact (if_neg hfi).symm
            have e9 : fstU (fitP t cd cm pp cc) i1 = fstU (fitP t cd cm pp cc) (i1 + 1) := by first | exact (if_neg hfi).symm | (show _ = ite _ _ _; rw [if_pos hfi]; first | rw [if_pos hfst] | rw [if_neg hfst])
            have e10 : lstU (fitP t cd cm pp cc) i1 = lstU (fitP t cd cm pp cc) (i1 + 1) := by first | exact (if_pos hfi).symm | exact (if_neg hfi).symm
            exact ih46 _ (by omega) ⟨lv_sub hl [1, 2, 3, 4, 5, 6, 7, 0] (by rw [← e8, ← e9, ← e10]; rfl), trivial⟩
          · skip
            have hfi : fitP t cd cm pp cc i1 = true := cq7
            refine lv_iinc (v := (cntU (fitP t cd cm pp cc) i1) + 1) (lv' := [(4, .int ((cntU (fitP t cd cm pp cc) i1) + 1)), (0, .ref (a 0)), (1, .int (nI pp)), (2, .int (nI cc)), (3, .int w), (5, .int (fstU (fitP t cd cm pp cc) i1)), (6, .int (lstU (fitP t cd cm pp cc) i1)), (7, .int (nI i1))]) hx hb dX10_had_64 hl (k := 4) rfl rfl (by decide) rfl (fun ls hl => ?_)
            refine lv_iload hx hb dX10_had_67 (lv_at hl 5 rfl) ?_
            refine lv_iconst (v := (-1)) hx hb dX10_had_69 (by decide) ?_
            refine lv_icmp_ne (tgt := 78) hx hb dX10_had_70 (by decide) (fun cq11 => ?_) (fun cq11 => ?_)
            · skip
              have hfst : ¬ fstU (fitP t cd cm pp cc) i1 = -1 := cq11
              refine lv_iload hx hb dX10_had_78 (lv_at hl 5 rfl) ?_
              refine lv_istore (lv' := [(5, .int (fstU (fitP t cd cm pp cc) i1)), (4, .int ((cntU (fitP t cd cm pp cc) i1) + 1)), (0, .ref (a 0)), (1, .int (nI pp)), (2, .int (nI cc)), (3, .int w), (6, .int (lstU (fitP t cd cm pp cc) i1)), (7, .int (nI i1))]) hx hb dX10_had_80 hl (by decide) rfl (fun ls hl => ?_)
              refine lv_iload hx hb dX10_had_82 (lv_at hl 7 rfl) ?_
              refine lv_istore (lv' := [(6, .int (nI i1)), (5, .int (fstU (fitP t cd cm pp cc) i1)), (4, .int ((cntU (fitP t cd cm pp cc) i1) + 1)), (0, .ref (a 0)), (1, .int (nI pp)), (2, .int (nI cc)), (3, .int w), (7, .int (nI i1))]) hx hb dX10_had_84 hl (by decide) rfl (fun ls hl => ?_)
              refine lv_iinc (v := nI (i1 + 1)) (lv' := [(7, .int (nI (i1 + 1))), (6, .int (nI i1)), (5, .int (fstU (fitP t cd cm pp cc) i1)), (4, .int ((cntU (fitP t cd cm pp cc) i1) + 1)), (0, .ref (a 0)), (1, .int (nI pp)), (2, .int (nI cc)), (3, .int w)]) hx hb dX10_had_86 hl (k := 7) rfl (by rw [show (nI i1 : Int32) = nI i1 from rfl]; exact nI_add _ 1) (by decide) rfl (fun ls hl => ?_)
              refine lv_goto (tgt := 46) hx hb dX10_had_89 (by decide) ?_
              have e12 : (cntU (fitP t cd cm pp cc) i1) + 1 = cntU (fitP t cd cm pp cc) (i1 + 1) := by first | exact (if_pos hfi).symm | exact (if_neg hfi).symm
              have e13 : fstU (fitP t cd cm pp cc) i1 = fstU (fitP t cd cm pp cc) (i1 + 1) := by first | exact (if_neg hfi).symm | (show _ = ite _ _ _; rw [if_pos hfi]; first | rw [if_pos hfst] | rw [if_neg hfst])
              have e14 : nI i1 = lstU (fitP t cd cm pp cc) (i1 + 1) := by first | exact (if_pos hfi).symm | exact (if_neg hfi).symm
              exact ih46 _ (by omega) ⟨lv_sub hl [4, 5, 6, 7, 3, 2, 1, 0] (by rw [← e12, ← e13, ← e14]; rfl), trivial⟩
            · skip
              have hfst : fstU (fitP t cd cm pp cc) i1 = -1 := cq11
              refine lv_iload hx hb dX10_had_73 (lv_at hl 7 rfl) ?_
              refine lv_goto (tgt := 80) hx hb dX10_had_75 (by decide) ?_
              refine lv_istore (lv' := [(5, .int (nI i1)), (4, .int ((cntU (fitP t cd cm pp cc) i1) + 1)), (0, .ref (a 0)), (1, .int (nI pp)), (2, .int (nI cc)), (3, .int w), (6, .int (lstU (fitP t cd cm pp cc) i1)), (7, .int (nI i1))]) hx hb dX10_had_80 hl (by decide) rfl (fun ls hl => ?_)
              refine lv_iload hx hb dX10_had_82 (lv_at hl 7 rfl) ?_
              refine lv_istore (lv' := [(6, .int (nI i1)), (5, .int (nI i1)), (4, .int ((cntU (fitP t cd cm pp cc) i1) + 1)), (0, .ref (a 0)), (1, .int (nI pp)), (2, .int (nI cc)), (3, .int w), (7, .int (nI i1))]) hx hb dX10_had_84 hl (by decide) rfl (fun ls hl => ?_)
              refine lv_iinc (v := nI (i1 + 1)) (lv' := [(7, .int (nI (i1 + 1))), (6, .int (nI i1)), (5, .int (nI i1)), (4, .int ((cntU (fitP t cd cm pp cc) i1) + 1)), (0, .ref (a 0)), (1, .int (nI pp)), (2, .int (nI cc)), (3, .int w)]) hx hb dX10_had_86 hl (k := 7) rfl (by rw [show (nI i1 : Int32) = nI i1 from rfl]; exact nI_add _ 1) (by decide) rfl (fun ls hl => ?_)
              refine lv_goto (tgt := 46) hx hb dX10_had_89 (by decide) ?_
              have e15 : (cntU (fitP t cd cm pp cc) i1) + 1 = cntU (fitP t cd cm pp cc) (i1 + 1) := by first | exact (if_pos hfi).symm | exact (if_neg hfi).symm
              have e16 : nI i1 = fstU (fitP t cd cm pp cc) (i1 + 1) := by first | exact (if_neg hfi).symm | (show _ = ite _ _ _; rw [if_pos hfi]; first | rw [if_pos hfst] | rw [if_neg hfst])
              have e17 : nI i1 = lstU (fitP t cd cm pp cc) (i1 + 1) := by first | exact (if_pos hfi).symm | exact (if_neg hfi).symm
              exact ih46 _ (by omega) ⟨lv_sub hl [4, 5, 6, 7, 3, 2, 1, 0] (by rw [← e15, ← e16, ← e17]; rfl), trivial⟩
      · skip
        refine lv_ldc hx hb hown k2 dX10_had_31 ?_
        exact mR_iret C dX10_had_33 (by simp [haR, cq1, hcl_pp, cq2, hcl_cc, cq3])
    · skip
      refine lv_ldc hx hb hown k0 dX10_had_16 ?_
      exact mR_iret C dX10_had_18 (by simp [haR, cq1, hcl_pp, cq2])
