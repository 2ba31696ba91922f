theorem hd_X10_couldBe : yX10_couldBe.cls = RX10 ∧ yX10_couldBe.cls ≠ "java/lang/invoke/MethodHandle" ∧ yX10_couldBe.cls ≠ "java/lang/invoke/VarHandle" ∧ (parseMethodDescriptor yX10_couldBe.desc).map (fun d => d.parameters.length) = some 3 := by decide +kernel
set_option maxRecDepth 100000 in
set_option maxHeartbeats 4000000 in
theorem c_X10_couldBe (l : Launch) (G : gG) (a : Nat → Nat) (i : Nat → Int32) (j : Nat → Int32) (t : Nat → Int32) (r : Nat → Int32) (n : Nat → Int32) (d : Nat → Int32) (ps : Nat → Int32) (im : Nat → Int32) (kp : Nat → Int32) (tx : Nat → Int32) (cd : Nat → Int32) (bk : Nat → Int32) (py : Nat → Int32) (pt : Nat → Int32) (mt : Nat → Int32) (cm : Nat) (p : Nat) (c : Nat) (v : Int32) (hcm : i 13 = nI cm) (hcl : cm ≤ 6) (hQ : ∀ k, k < cm → ∃ q, q ≤ 12 ∧ cd (4 * k + 2) = nI q) (hc : c < 4) : mR l yX10_couldBe wsX10_couldBe ({ frames := 3, cells := 0, slots := 0, locals := 67 }) G (mW G a i j t r n d ps im kp tx cd bk py pt mt) [.ref (a 0), .int (nI p), .int (nI c), .int v] (bI (fitB t cd p c v cm = true)) := by
  refine mR.of (cc := cX10_couldBe) (maxL := 6) (ret := (some .boolean)) (by decide) rfl (Nat.le_of_ble_eq_true rfl) ?_
  intro zp ze zs zm zb zt zc ls C hP hK hl
  obtain ⟨hx, hb, hr, hml, hown, hts, hlk⟩ := id C
  have hl : lv_has ls 6 [(0, .ref (a 0)), (1, .int (nI p)), (2, .int (nI c)), (3, .int v)] := hl
  have k0 := hts (.fieldLink RX10 72 "DebtDowryModel" "cardMany" "I") (by decide +kernel)
  have k1 := (fun w h => by revert w; decide +kernel : ∀ w ∈ wsX100, w ∈ wsX10_couldBe)
  have k2 := hts (.fieldLink RX10 39 "DebtDowryModel" "cards" "[I") (by decide +kernel)
  refine lv_iconst (v := 0) hx hb dX10_couldBe_0 (by decide) ?_
  refine lv_istore (lv' := [(4, .int 0), (0, .ref (a 0)), (1, .int (nI p)), (2, .int (nI c)), (3, .int v)]) hx hb dX10_couldBe_1 hl (by decide) rfl (fun ls hl => ?_)
  refine wl_R (B := cm) (i0 := 0) (Inv := fun i1 ls => lv_has ls 6 [(0, .ref (a 0)), (1, .int (nI p)), (2, .int (nI c)), (3, .int v), (4, .int (nI (4 * i1)))] ∧ fitB t cd p c v i1 = true) (by omega) ⟨lv_sub hl [1, 2, 3, 4, 0] (rfl), (rfl)⟩ ?_
  rintro i1 ls hle3 ⟨hl, hfit⟩ ih3
  refine lv_iload hx hb dX10_couldBe_3 (lv_at hl 4 rfl) ?_
  refine lv_iconst (v := 4) hx hb dX10_couldBe_5 (by decide) ?_
  refine lv_aload_n hx hb dX10_couldBe_6 rfl (lv_at hl 0 rfl) ?_
  refine va_get (D := G.1) (ci := 10) (v := .int (i 13)) (C := RX10) (T := TX10) (N := 25) hx hb hts k1 hown hK hP 0 rfl rfl 13 (by decide) k0 (fun _ h9 => h9) rfl dX10_couldBe_7 ?_
  refine n_imul hx hb dX10_couldBe_10 (u := 4) (v := cm) rfl hcm (j := 4 * cm) (by omega) ?_
  refine n_icmp_ge (tgt := 94) hx hb dX10_couldBe_11 (by decide) (u := 4 * i1) (v := 4 * cm) rfl rfl (by omega) (by omega) (fun cq1 => ?_) (fun cq1 => ?_)
  · skip
    refine lv_iconst (v := 1) hx hb dX10_couldBe_94 (by decide) ?_
    exact mR_zret C dX10_couldBe_95 (by decide) (by rw [show cm = i1 by omega]; exact (bI_t hfit).symm)
  · skip
    refine lv_aload_n hx hb dX10_couldBe_14 rfl (lv_at hl 0 rfl) ?_
    refine va_get (D := G.1) (ci := 10) (v := .ref (a 9)) (C := RX10) (T := TX10) (N := 25) hx hb hts k1 hown hK hP 0 rfl rfl 12 (by decide) k2 (fun _ h9 => h9) rfl dX10_couldBe_15 ?_
    refine lv_iload hx hb dX10_couldBe_18 (lv_at hl 4 rfl) ?_
    refine n_iald hx hb hK hP 9 0 rfl rfl (j := 4 * i1) rfl (by omega) (by decide) dX10_couldBe_20 ?_
    refine lv_iload_n hx hb dX10_couldBe_21 rfl (lv_at hl 1 rfl) ?_
    refine lv_icmp_ne (tgt := 42) hx hb dX10_couldBe_22 (by decide) (fun cq2 => ?_) (fun cq2 => ?_)
    · skip
      have hok : okkB t cd p c v i1 := fun q => absurd q.1 cq2
      refine lv_iconst (v := 0) hx hb dX10_couldBe_42 (by decide) ?_
      refine lv_istore (lv' := [(5, .int 0), (0, .ref (a 0)), (1, .int (nI p)), (2, .int (nI c)), (3, .int v), (4, .int (nI (4 * i1)))]) hx hb dX10_couldBe_43 hl (by decide) rfl (fun ls hl => ?_)
      refine lv_iload hx hb dX10_couldBe_45 (lv_at hl 0 rfl) ?_
      refine lv_if_eq (tgt := 88) hx hb dX10_couldBe_47 (by decide) (fun cq3 => ?_) (fun cq3 => ?_)
      rotate_left
      · exact absurd cq3 (by decide)
      refine lv_iinc (v := nI (4 * (i1 + 1))) (lv' := [(4, .int (nI (4 * (i1 + 1)))), (5, .int 0), (0, .ref (a 0)), (1, .int (nI p)), (2, .int (nI c)), (3, .int v)]) hx hb dX10_couldBe_88 hl (k := 5) rfl (by exact (nI_add (4 * i1) 4)) (by decide) rfl (fun ls hl => ?_)
      refine lv_goto (tgt := 3) hx hb dX10_couldBe_91 (by decide) ?_
      exact ih3 _ (by omega) ⟨lv_sub hl [2, 3, 4, 5, 0] (rfl), (by show (fitB t cd p c v i1 && decide (okkB t cd p c v i1)) = true; rw [hfit, Bool.true_and]; exact decide_eq_true hok)⟩
    · skip
      have h22 := cq2
      refine lv_aload_n hx hb dX10_couldBe_25 rfl (lv_at hl 0 rfl) ?_
      refine va_get (D := G.1) (ci := 10) (v := .ref (a 9)) (C := RX10) (T := TX10) (N := 25) hx hb hts k1 hown hK hP 0 rfl rfl 12 (by decide) k2 (fun _ h9 => h9) rfl dX10_couldBe_26 ?_
      refine lv_iload hx hb dX10_couldBe_29 (lv_at hl 4 rfl) ?_
      refine lv_iconst (v := 1) hx hb dX10_couldBe_31 (by decide) ?_
      refine n_iadd hx hb dX10_couldBe_32 (u := 4 * i1) (v := 1) rfl rfl (j := (4 * i1) + 1) (by omega) ?_
      refine n_iald hx hb hK hP 9 0 rfl rfl (j := (4 * i1) + 1) rfl (by omega) (by decide) dX10_couldBe_33 ?_
      refine lv_iload_n hx hb dX10_couldBe_34 rfl (lv_at hl 2 rfl) ?_
      refine lv_icmp_ne (tgt := 42) hx hb dX10_couldBe_35 (by decide) (fun cq4 => ?_) (fun cq4 => ?_)
      · skip
        have hok : okkB t cd p c v i1 := fun q => absurd q.2 cq4
        refine lv_iconst (v := 0) hx hb dX10_couldBe_42 (by decide) ?_
        refine lv_istore (lv' := [(5, .int 0), (0, .ref (a 0)), (1, .int (nI p)), (2, .int (nI c)), (3, .int v), (4, .int (nI (4 * i1)))]) hx hb dX10_couldBe_43 hl (by decide) rfl (fun ls hl => ?_)
        refine lv_iload hx hb dX10_couldBe_45 (lv_at hl 0 rfl) ?_
        refine lv_if_eq (tgt := 88) hx hb dX10_couldBe_47 (by decide) (fun cq5 => ?_) (fun cq5 => ?_)
        rotate_left
        · exact absurd cq5 (by decide)
        refine lv_iinc (v := nI (4 * (i1 + 1))) (lv' := [(4, .int (nI (4 * (i1 + 1)))), (5, .int 0), (0, .ref (a 0)), (1, .int (nI p)), (2, .int (nI c)), (3, .int v)]) hx hb dX10_couldBe_88 hl (k := 5) rfl (by exact (nI_add (4 * i1) 4)) (by decide) rfl (fun ls hl => ?_)
        refine lv_goto (tgt := 3) hx hb dX10_couldBe_91 (by decide) ?_
        exact ih3 _ (by omega) ⟨lv_sub hl [2, 3, 4, 5, 0] (rfl), (by show (fitB t cd p c v i1 && decide (okkB t cd p c v i1)) = true; rw [hfit, Bool.true_and]; exact decide_eq_true hok)⟩
      · skip
        have h35 := cq4
        refine lv_iconst (v := 1) hx hb dX10_couldBe_38 (by decide) ?_
        refine lv_goto (tgt := 43) hx hb dX10_couldBe_39 (by decide) ?_
        refine lv_istore (lv' := [(5, .int 1), (0, .ref (a 0)), (1, .int (nI p)), (2, .int (nI c)), (3, .int v), (4, .int (nI (4 * i1)))]) hx hb dX10_couldBe_43 hl (by decide) rfl (fun ls hl => ?_)
        refine lv_iload hx hb dX10_couldBe_45 (lv_at hl 0 rfl) ?_
        refine lv_if_eq (tgt := 88) hx hb dX10_couldBe_47 (by decide) (fun cq6 => ?_) (fun cq6 => ?_)
        · exact absurd cq6 (by decide)
        obtain ⟨qq, hq1, hqe⟩ := hQ i1 (by omega)
        have hcq : cl (cd (4 * i1 + 2)) = qq := by rw [hqe]; exact cl_nI (by omega)
        refine lv_aload_n hx hb dX10_couldBe_50 rfl (lv_at hl 1 rfl) ?_
        refine lv_iload_n hx hb dX10_couldBe_51 rfl (lv_at hl 3 rfl) ?_
        refine lv_iload_n hx hb dX10_couldBe_52 rfl (lv_at hl 4 rfl) ?_
        refine lv_aload_n hx hb dX10_couldBe_53 rfl (lv_at hl 1 rfl) ?_
        refine va_get (D := G.1) (ci := 10) (v := .ref (a 9)) (C := RX10) (T := TX10) (N := 25) hx hb hts k1 hown hK hP 0 rfl rfl 12 (by decide) k2 (fun _ h9 => h9) rfl dX10_couldBe_54 ?_
        refine lv_iload hx hb dX10_couldBe_57 (lv_at hl 5 rfl) ?_
        refine lv_iconst (v := 2) hx hb dX10_couldBe_59 (by decide) ?_
        refine n_iadd hx hb dX10_couldBe_60 (u := 4 * i1) (v := 2) rfl rfl (j := (4 * i1) + 2) (by omega) ?_
        refine n_iald hx hb hK hP 9 0 rfl rfl (j := (4 * i1) + 2) rfl (by omega) (by decide) dX10_couldBe_61 ?_
        refine cR_V (Cn := RX10) (n := 3) (As := [.int (nI c), .int v, .int (nI qq)]) (rest := []) C (c_X10_isCivil l G a i j t r n d ps im kp tx cd bk py pt mt  c v qq (by omega) (by omega)) gX10_couldBe_X10_isCivil rfl ⟨rfl, rfl⟩ hd_X10_isCivil ⟨(Nat.le_of_ble_eq_true rfl), (Nat.le_of_ble_eq_true rfl)⟩ hK hP (va_recv hK hP (ci := 10) (q0 := 0) rfl rfl) rfl hl.1 (by rw [show (cd ((4 * i1) + 2) : Int32) = nI qq from hqe]; rfl) (Nat.le_of_ble_eq_true rfl) dX10_couldBe_62 ⟨(Nat.le_of_ble_eq_true rfl), (Nat.le_of_ble_eq_true rfl)⟩ ?_
        refine lv_aload_n hx hb dX10_couldBe_65 rfl (lv_at hl 1 rfl) ?_
        refine va_get (D := G.1) (ci := 10) (v := .ref (a 9)) (C := RX10) (T := TX10) (N := 25) hx hb hts k1 hown hK hP 0 rfl rfl 12 (by decide) k2 (fun _ h9 => h9) rfl dX10_couldBe_66 ?_
        refine lv_iload hx hb dX10_couldBe_69 (lv_at hl 5 rfl) ?_
        refine lv_iconst (v := 3) hx hb dX10_couldBe_71 (by decide) ?_
        refine n_iadd hx hb dX10_couldBe_72 (u := 4 * i1) (v := 3) rfl rfl (j := (4 * i1) + 3) (by omega) ?_
        refine n_iald hx hb hK hP 9 0 rfl rfl (j := (4 * i1) + 3) rfl (by omega) (by decide) dX10_couldBe_73 ?_
        refine lv_iconst (v := 1) hx hb dX10_couldBe_74 (by decide) ?_
        refine lv_icmp_ne (tgt := 82) hx hb dX10_couldBe_75 (by decide) (fun cq7 => ?_) (fun cq7 => ?_)
        · skip
          have h75 := cq7
          refine lv_iconst (v := 0) hx hb dX10_couldBe_82 (by decide) ?_
          refine lv_icmp_eq (tgt := 88) hx hb dX10_couldBe_83 (by decide) (fun cq8 => ?_) (fun cq8 => ?_)
          · skip
            simp only [bI_1, bI_0, Decidable.not_not] at cq8
            have hok : okkB t cd p c v i1 := fun _ => by rw [hcq]; first | exact ⟨fun _ => h75, fun _ => cq8⟩ | exact ⟨fun q => absurd q cq8, fun q => absurd q h75⟩
            refine lv_iinc (v := nI (4 * (i1 + 1))) (lv' := [(4, .int (nI (4 * (i1 + 1)))), (5, .int 1), (0, .ref (a 0)), (1, .int (nI p)), (2, .int (nI c)), (3, .int v)]) hx hb dX10_couldBe_88 hl (k := 5) rfl (by exact (nI_add (4 * i1) 4)) (by decide) rfl (fun ls hl => ?_)
            refine lv_goto (tgt := 3) hx hb dX10_couldBe_91 (by decide) ?_
            exact ih3 _ (by omega) ⟨lv_sub hl [2, 3, 4, 5, 0] (rfl), (by show (fitB t cd p c v i1 && decide (okkB t cd p c v i1)) = true; rw [hfit, Bool.true_and]; exact decide_eq_true hok)⟩
          · skip
            simp only [bI_1, bI_0, Decidable.not_not] at cq8
            have hno : ¬ okkB t cd p c v i1 := fun q => by have q2 := q ⟨h22, h35⟩; rw [hcq] at q2; first | exact cq8 (q2.mpr h75) | exact h75 (q2.mp cq8)
            refine lv_iconst (v := 0) hx hb dX10_couldBe_86 (by decide) ?_
            exact mR_zret C dX10_couldBe_87 (by decide) ((bI_f (fun h => absurd (h.symm.trans (fitB_f hno cm (by omega))) (by decide))).symm)
        · skip
          have h75 := cq7
          refine lv_iconst (v := 1) hx hb dX10_couldBe_78 (by decide) ?_
          refine lv_goto (tgt := 83) hx hb dX10_couldBe_79 (by decide) ?_
          refine lv_icmp_eq (tgt := 88) hx hb dX10_couldBe_83 (by decide) (fun cq9 => ?_) (fun cq9 => ?_)
          · skip
            simp only [bI_1, bI_0, Decidable.not_not] at cq9
            have hok : okkB t cd p c v i1 := fun _ => by rw [hcq]; first | exact ⟨fun _ => h75, fun _ => cq9⟩ | exact ⟨fun q => absurd q cq9, fun q => absurd q h75⟩
            refine lv_iinc (v := nI (4 * (i1 + 1))) (lv' := [(4, .int (nI (4 * (i1 + 1)))), (5, .int 1), (0, .ref (a 0)), (1, .int (nI p)), (2, .int (nI c)), (3, .int v)]) hx hb dX10_couldBe_88 hl (k := 5) rfl (by exact (nI_add (4 * i1) 4)) (by decide) rfl (fun ls hl => ?_)
            refine lv_goto (tgt := 3) hx hb dX10_couldBe_91 (by decide) ?_
            exact ih3 _ (by omega) ⟨lv_sub hl [2, 3, 4, 5, 0] (rfl), (by show (fitB t cd p c v i1 && decide (okkB t cd p c v i1)) = true; rw [hfit, Bool.true_and]; exact decide_eq_true hok)⟩
          · skip
            simp only [bI_1, bI_0, Decidable.not_not] at cq9
            have hno : ¬ okkB t cd p c v i1 := fun q => by have q2 := q ⟨h22, h35⟩; rw [hcq] at q2; first | exact cq9 (q2.mpr h75) | exact h75 (q2.mp cq9)
            refine lv_iconst (v := 0) hx hb dX10_couldBe_86 (by decide) ?_
            exact mR_zret C dX10_couldBe_87 (by decide) ((bI_f (fun h => absurd (h.symm.trans (fitB_f hno cm (by omega))) (by decide))).symm)
