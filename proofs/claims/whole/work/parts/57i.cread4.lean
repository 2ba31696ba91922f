theorem cc_c {tx : Nat → Int32} {sz cn : Nat} {s : RSt} {rt rn : Nat → Int32} {em x : Int32} (h : x = 99) (hc : cl (rt 3) = cn) : ccX tx sz ((s, rt, rn, em) : CSt) x = (rcS tx sz s cn rt, rcT tx sz s cn rt, rcN tx sz s cn rt rn, rcM tx sz s cn rt em) := by
  subst hc; exact if_pos h
theorem cc_p {tx : Nat → Int32} {sz cn pn : Nat} {s : RSt} {rt rn : Nat → Int32} {em x : Int32} (h : ¬ x = 99) (h2 : x = 103 ∨ x = 109) (hc : cl (rt 3) = cn) (hp : cl (rt 4) = pn) : ccX tx sz ((s, rt, rn, em) : CSt) x = (rpS tx sz s cn pn, rpT (x = 103) cn pn rt, rpN tx sz s cn pn rn, rpM tx sz s cn pn em) := by
  subst hc hp; unfold ccX; rw [if_neg h, if_pos h2]
theorem cc_i {tx : Nat → Int32} {sz : Nat} {s : RSt} {rt rn : Nat → Int32} {em x : Int32} (h : ¬ x = 99) (h2 : ¬ (x = 103 ∨ x = 109)) (h3 : x = 105) : ccX tx sz ((s, rt, rn, em) : CSt) x = (opB 3 (nI s.1) s, rt, rn, em) := by
  unfold ccX; rw [if_neg h, if_neg h2, if_pos h3]
theorem cc_o {tx : Nat → Int32} {sz : Nat} {s : RSt} {rt rn : Nat → Int32} {em x : Int32} (h : ¬ x = 99) (h2 : ¬ (x = 103 ∨ x = 109)) (h3 : ¬ x = 105) : ccX tx sz ((s, rt, rn, em) : CSt) x = (opB 1 (nI s.1) s, rt, rn, em) := by
  unfold ccX; rw [if_neg h, if_neg h2, if_neg h3]
theorem rpT_c {g h : Prop} [Decidable g] [Decidable h] (e : g ↔ h) {cn pn : Nat} {rt : Nat → Int32} : rpT g cn pn rt = rpT h cn pn rt := by
  unfold rpT
  by_cases q : g
  · rw [if_pos q, if_pos (e.mp q)]
  · rw [if_neg q, if_neg (fun z => q (e.mpr z))]
theorem hd_X6_readClause : yX6_readClause.cls = RX6 ∧ yX6_readClause.cls ≠ "java/lang/invoke/MethodHandle" ∧ yX6_readClause.cls ≠ "java/lang/invoke/VarHandle" ∧ (parseMethodDescriptor yX6_readClause.desc).map (fun d => d.parameters.length) = some 1 := by decide +kernel
set_option maxRecDepth 100000 in
set_option maxHeartbeats 4000000 in
theorem c_X6_readClause (l : Launch) (G : gG) (l0 : Nat) (l1 : Nat) (b0 : Nat) (b1 : Nat) (b2 : Nat) (b3 : Nat) (s0 : Nat) (s1 : Nat) (s2 : Nat) (s3 : Nat) (s4 : Nat) (s : RSt) (em : Int32) (i : Nat → Int32) (tx : Nat → Int32) (rt : Nat → Int32) (rn : Nat → Int32) (sz : Nat) (cn : Nat) (pn : Nat) (x : Int32) (hsz : i 10 = nI sz) (hs240 : sz ≤ 240) (hlt : s.1 < sz) (hcn : rt 3 = nI cn) (hcn4 : cn ≤ 4) (hpn : rt 4 = nI pn) (hpn8 : pn ≤ 8) : mX l yX6_readClause wsX6_readClause ({ frames := 3, cells := 0, slots := 0, locals := 69 }) G (rdW G l0 l1 b0 b1 b2 b3 s0 s1 s2 s3 s4 s em i tx rt rn) (rdW G l0 l1 b0 b1 b2 b3 s0 s1 s2 s3 s4 ((ccX tx sz ((s, rt, rn, em) : CSt) x).1) ((ccX tx sz ((s, rt, rn, em) : CSt) x).2.2.2) i tx ((ccX tx sz ((s, rt, rn, em) : CSt) x).2.1) ((ccX tx sz ((s, rt, rn, em) : CSt) x).2.2.1)) [.ref l0, .int x] (.returned none) := by
  refine mX.of (cc := cX6_readClause) (maxL := 2) (ret := none) (by decide) rfl (Nat.le_of_ble_eq_true rfl) ?_
  intro zp ze zs zm zb zt zc ls A hAe C hP hK hD hS hl
  obtain ⟨hx, hb, hr, hml, hown, hts, hlk⟩ := id C
  have hl : lv_has ls 2 [(0, .ref l0), (1, .int x)] := hl
  have hcnc : cl (rt 3) = cn := by rw [hcn]; exact cl_nI (by omega)
  have hpnc : cl (rt 4) = pn := by rw [hpn]; exact cl_nI (by omega)
  have k0 := hts (.fieldLink RX6 45 "DebtDowry$Reader" "at" "I") (by decide +kernel)
  have k1 := (fun w h => by revert w; decide +kernel : ∀ w ∈ wsX60, w ∈ wsX6_readClause)
  refine lv_iload_n hx hb dX6_readClause_0 rfl (lv_at hl 1 rfl) ?_
  refine lv_bipush (v := 99) hx hb dX6_readClause_1 (by decide) ?_
  refine lv_icmp_ne (tgt := 13) hx hb dX6_readClause_3 (by decide) (fun cq1 => ?_) (fun cq1 => ?_)
  · skip
    have h99 := cq1
    refine lv_iload_n hx hb dX6_readClause_13 rfl (lv_at hl 1 rfl) ?_
    refine lv_bipush (v := 103) hx hb dX6_readClause_14 (by decide) ?_
    refine lv_icmp_eq (tgt := 25) hx hb dX6_readClause_16 (by decide) (fun cq2 => ?_) (fun cq2 => ?_)
    · skip
      have hgm : x = 103 ∨ x = 109 := Or.inl cq2
      refine lv_aload_n hx hb dX6_readClause_25 rfl (lv_at hl 0 rfl) ?_
      refine lv_iload_n hx hb dX6_readClause_26 rfl (lv_at hl 1 rfl) ?_
      refine lv_bipush (v := 103) hx hb dX6_readClause_27 (by decide) ?_
      refine lv_icmp_ne (tgt := 36) hx hb dX6_readClause_29 (by decide) (fun cq3 => ?_) (fun cq3 => ?_)
      · skip
        have hg3 : False ↔ x = 103 := iff_of_false id cq3
        have hX : ccX tx sz ((s, rt, rn, em) : CSt) x = (rpS tx sz s cn pn, rpT (x = 103) cn pn rt, rpN tx sz s cn pn rn, rpM tx sz s cn pn em) := cc_p h99 hgm hcnc hpnc
        refine lv_iconst (v := 0) hx hb dX6_readClause_36 (by decide) ?_
        refine cX_V (Cn := RX6) (n := 1) (As := [.int (bI False)]) (rest := []) (wsn := rdW G l0 l1 b0 b1 b2 b3 s0 s1 s2 s3 s4 (rpS tx sz s cn pn) (rpM tx sz s cn pn em) i tx (rpT False cn pn rt) (rpN tx sz s cn pn rn)) C (c_X6_readPerson l G l0 l1 b0 b1 b2 b3 s0 s1 s2 s3 s4 s em i tx rt rn sz cn pn False hsz hs240 hlt hcn hcn4 hpn hpn8) gX6_readClause_X6_readPerson rfl ⟨rfl, rfl⟩ hd_X6_readPerson ⟨(Nat.le_of_ble_eq_true rfl), (Nat.le_of_ble_eq_true rfl)⟩ hK hP hD hS [0, 1, 2, 3, 4, 5, 6, 7, 8, 9, 10] (by decide) rfl (rdW_f.trans rdW_f.symm) rfl (rdW_f.trans rdW_f.symm) (va_recv hK hP (ci := 6) (q0 := 0) rfl rfl) rfl hl.1 rfl (Nat.le_of_ble_eq_true rfl) dX6_readClause_37 ⟨(Nat.le_of_ble_eq_true rfl), (Nat.le_of_ble_eq_true rfl)⟩ (fun H locs hP hD hS => ?_)
        refine lv_goto (tgt := 62) hx hb dX6_readClause_40 (by decide) ?_
        have hP : va_P G.1 vwCl (rdW G l0 l1 b0 b1 b2 b3 s0 s1 s2 s3 s4 ((ccX tx sz ((s, rt, rn, em) : CSt) x).1) ((ccX tx sz ((s, rt, rn, em) : CSt) x).2.2.2) i tx ((ccX tx sz ((s, rt, rn, em) : CSt) x).2.1) ((ccX tx sz ((s, rt, rn, em) : CSt) x).2.2.1)) H := by rw [show ((ccX tx sz ((s, rt, rn, em) : CSt) x).1) = (rpS tx sz s cn pn) from by rw [hX], show ((ccX tx sz ((s, rt, rn, em) : CSt) x).2.2.2) = (rpM tx sz s cn pn em) from by rw [hX], show ((ccX tx sz ((s, rt, rn, em) : CSt) x).2.1) = (rpT False cn pn rt) from by rw [hX]; exact (rpT_c hg3).symm, show ((ccX tx sz ((s, rt, rn, em) : CSt) x).2.2.1) = (rpN tx sz s cn pn rn) from by rw [hX]]; exact hP
        exact mX_vret hAe C hP hS dX6_readClause_62
      · skip
        have hg3 : True ↔ x = 103 := iff_of_true trivial cq3
        have hX : ccX tx sz ((s, rt, rn, em) : CSt) x = (rpS tx sz s cn pn, rpT (x = 103) cn pn rt, rpN tx sz s cn pn rn, rpM tx sz s cn pn em) := cc_p h99 hgm hcnc hpnc
        refine lv_iconst (v := 1) hx hb dX6_readClause_32 (by decide) ?_
        refine lv_goto (tgt := 37) hx hb dX6_readClause_33 (by decide) ?_
        refine cX_V (Cn := RX6) (n := 1) (As := [.int (bI True)]) (rest := []) (wsn := rdW G l0 l1 b0 b1 b2 b3 s0 s1 s2 s3 s4 (rpS tx sz s cn pn) (rpM tx sz s cn pn em) i tx (rpT True cn pn rt) (rpN tx sz s cn pn rn)) C (c_X6_readPerson l G l0 l1 b0 b1 b2 b3 s0 s1 s2 s3 s4 s em i tx rt rn sz cn pn True hsz hs240 hlt hcn hcn4 hpn hpn8) gX6_readClause_X6_readPerson rfl ⟨rfl, rfl⟩ hd_X6_readPerson ⟨(Nat.le_of_ble_eq_true rfl), (Nat.le_of_ble_eq_true rfl)⟩ hK hP hD hS [0, 1, 2, 3, 4, 5, 6, 7, 8, 9, 10] (by decide) rfl (rdW_f.trans rdW_f.symm) rfl (rdW_f.trans rdW_f.symm) (va_recv hK hP (ci := 6) (q0 := 0) rfl rfl) rfl hl.1 rfl (Nat.le_of_ble_eq_true rfl) dX6_readClause_37 ⟨(Nat.le_of_ble_eq_true rfl), (Nat.le_of_ble_eq_true rfl)⟩ (fun H locs hP hD hS => ?_)
        refine lv_goto (tgt := 62) hx hb dX6_readClause_40 (by decide) ?_
        have hP : va_P G.1 vwCl (rdW G l0 l1 b0 b1 b2 b3 s0 s1 s2 s3 s4 ((ccX tx sz ((s, rt, rn, em) : CSt) x).1) ((ccX tx sz ((s, rt, rn, em) : CSt) x).2.2.2) i tx ((ccX tx sz ((s, rt, rn, em) : CSt) x).2.1) ((ccX tx sz ((s, rt, rn, em) : CSt) x).2.2.1)) H := by rw [show ((ccX tx sz ((s, rt, rn, em) : CSt) x).1) = (rpS tx sz s cn pn) from by rw [hX], show ((ccX tx sz ((s, rt, rn, em) : CSt) x).2.2.2) = (rpM tx sz s cn pn em) from by rw [hX], show ((ccX tx sz ((s, rt, rn, em) : CSt) x).2.1) = (rpT True cn pn rt) from by rw [hX]; exact (rpT_c hg3).symm, show ((ccX tx sz ((s, rt, rn, em) : CSt) x).2.2.1) = (rpN tx sz s cn pn rn) from by rw [hX]]; exact hP
        exact mX_vret hAe C hP hS dX6_readClause_62
    · skip
      have h103 := cq2
      refine lv_iload_n hx hb dX6_readClause_19 rfl (lv_at hl 1 rfl) ?_
      refine lv_bipush (v := 109) hx hb dX6_readClause_20 (by decide) ?_
      refine lv_icmp_ne (tgt := 43) hx hb dX6_readClause_22 (by decide) (fun cq4 => ?_) (fun cq4 => ?_)
      · skip
        have hgm : ¬ (x = 103 ∨ x = 109) := fun q => q.elim h103 cq4
        refine lv_aload_n hx hb dX6_readClause_43 rfl (lv_at hl 0 rfl) ?_
        refine lv_iload_n hx hb dX6_readClause_44 rfl (lv_at hl 1 rfl) ?_
        refine lv_bipush (v := 105) hx hb dX6_readClause_45 (by decide) ?_
        refine lv_icmp_ne (tgt := 54) hx hb dX6_readClause_47 (by decide) (fun cq5 => ?_) (fun cq5 => ?_)
        · skip
          have hX : ccX tx sz ((s, rt, rn, em) : CSt) x = (opB 1 (nI s.1) s, rt, rn, em) := cc_o h99 hgm cq5
          refine lv_iconst (v := 1) hx hb dX6_readClause_54 (by decide) ?_
          refine lv_aload_n hx hb dX6_readClause_55 rfl (lv_at hl 0 rfl) ?_
          refine va_get (D := G.1) (ci := 6) (v := .int (nI s.1)) (C := RX6) (T := TX6) (N := 8) hx hb hts k1 hown hK hP 0 rfl rfl 6 (by decide) k0 (fun _ h9 => h9) rfl dX6_readClause_56 ?_
          refine cX_V (Cn := RX6) (n := 2) (As := [.int 1, .int (nI s.1)]) (rest := []) (wsn := rdW G l0 l1 b0 b1 b2 b3 s0 s1 s2 s3 s4 (opB 1 (nI s.1) s) em i tx rt rn) C (c_X6_blame l G l0 l1 b0 b1 b2 b3 s0 s1 s2 s3 s4 s em i tx rt rn  1 (nI s.1) (by decide)) gX6_readClause_X6_blame rfl ⟨rfl, rfl⟩ hd_X6_blame ⟨(Nat.le_of_ble_eq_true rfl), (Nat.le_of_ble_eq_true rfl)⟩ hK hP hD hS [0, 1, 2, 3, 4, 5, 6, 7, 8, 9, 10] (by decide) rfl (rdW_f.trans rdW_f.symm) rfl (rdW_f.trans rdW_f.symm) (va_recv hK hP (ci := 6) (q0 := 0) rfl rfl) rfl hl.1 rfl (Nat.le_of_ble_eq_true rfl) dX6_readClause_59 ⟨(Nat.le_of_ble_eq_true rfl), (Nat.le_of_ble_eq_true rfl)⟩ (fun H locs hP hD hS => ?_)
          have hP : va_P G.1 vwCl (rdW G l0 l1 b0 b1 b2 b3 s0 s1 s2 s3 s4 ((ccX tx sz ((s, rt, rn, em) : CSt) x).1) ((ccX tx sz ((s, rt, rn, em) : CSt) x).2.2.2) i tx ((ccX tx sz ((s, rt, rn, em) : CSt) x).2.1) ((ccX tx sz ((s, rt, rn, em) : CSt) x).2.2.1)) H := by rw [show ((ccX tx sz ((s, rt, rn, em) : CSt) x).1) = (opB 1 (nI s.1) s) from by rw [hX], show ((ccX tx sz ((s, rt, rn, em) : CSt) x).2.2.2) = em from by rw [hX], show ((ccX tx sz ((s, rt, rn, em) : CSt) x).2.1) = rt from by rw [hX], show ((ccX tx sz ((s, rt, rn, em) : CSt) x).2.2.1) = rn from by rw [hX]]; exact hP
          exact mX_vret hAe C hP hS dX6_readClause_62
        · skip
          have hX : ccX tx sz ((s, rt, rn, em) : CSt) x = (opB 3 (nI s.1) s, rt, rn, em) := cc_i h99 hgm cq5
          refine lv_iconst (v := 3) hx hb dX6_readClause_50 (by decide) ?_
          refine lv_goto (tgt := 55) hx hb dX6_readClause_51 (by decide) ?_
          refine lv_aload_n hx hb dX6_readClause_55 rfl (lv_at hl 0 rfl) ?_
          refine va_get (D := G.1) (ci := 6) (v := .int (nI s.1)) (C := RX6) (T := TX6) (N := 8) hx hb hts k1 hown hK hP 0 rfl rfl 6 (by decide) k0 (fun _ h9 => h9) rfl dX6_readClause_56 ?_
          refine cX_V (Cn := RX6) (n := 2) (As := [.int 3, .int (nI s.1)]) (rest := []) (wsn := rdW G l0 l1 b0 b1 b2 b3 s0 s1 s2 s3 s4 (opB 3 (nI s.1) s) em i tx rt rn) C (c_X6_blame l G l0 l1 b0 b1 b2 b3 s0 s1 s2 s3 s4 s em i tx rt rn  3 (nI s.1) (by decide)) gX6_readClause_X6_blame rfl ⟨rfl, rfl⟩ hd_X6_blame ⟨(Nat.le_of_ble_eq_true rfl), (Nat.le_of_ble_eq_true rfl)⟩ hK hP hD hS [0, 1, 2, 3, 4, 5, 6, 7, 8, 9, 10] (by decide) rfl (rdW_f.trans rdW_f.symm) rfl (rdW_f.trans rdW_f.symm) (va_recv hK hP (ci := 6) (q0 := 0) rfl rfl) rfl hl.1 rfl (Nat.le_of_ble_eq_true rfl) dX6_readClause_59 ⟨(Nat.le_of_ble_eq_true rfl), (Nat.le_of_ble_eq_true rfl)⟩ (fun H locs hP hD hS => ?_)
          have hP : va_P G.1 vwCl (rdW G l0 l1 b0 b1 b2 b3 s0 s1 s2 s3 s4 ((ccX tx sz ((s, rt, rn, em) : CSt) x).1) ((ccX tx sz ((s, rt, rn, em) : CSt) x).2.2.2) i tx ((ccX tx sz ((s, rt, rn, em) : CSt) x).2.1) ((ccX tx sz ((s, rt, rn, em) : CSt) x).2.2.1)) H := by rw [show ((ccX tx sz ((s, rt, rn, em) : CSt) x).1) = (opB 3 (nI s.1) s) from by rw [hX], show ((ccX tx sz ((s, rt, rn, em) : CSt) x).2.2.2) = em from by rw [hX], show ((ccX tx sz ((s, rt, rn, em) : CSt) x).2.1) = rt from by rw [hX], show ((ccX tx sz ((s, rt, rn, em) : CSt) x).2.2.1) = rn from by rw [hX]]; exact hP
          exact mX_vret hAe C hP hS dX6_readClause_62
      · skip
        have hgm : x = 103 ∨ x = 109 := Or.inr cq4
        refine lv_aload_n hx hb dX6_readClause_25 rfl (lv_at hl 0 rfl) ?_
        refine lv_iload_n hx hb dX6_readClause_26 rfl (lv_at hl 1 rfl) ?_
        refine lv_bipush (v := 103) hx hb dX6_readClause_27 (by decide) ?_
        refine lv_icmp_ne (tgt := 36) hx hb dX6_readClause_29 (by decide) (fun cq6 => ?_) (fun cq6 => ?_)
        · skip
          have hg3 : False ↔ x = 103 := iff_of_false id cq6
          have hX : ccX tx sz ((s, rt, rn, em) : CSt) x = (rpS tx sz s cn pn, rpT (x = 103) cn pn rt, rpN tx sz s cn pn rn, rpM tx sz s cn pn em) := cc_p h99 hgm hcnc hpnc
          refine lv_iconst (v := 0) hx hb dX6_readClause_36 (by decide) ?_
          refine cX_V (Cn := RX6) (n := 1) (As := [.int (bI False)]) (rest := []) (wsn := rdW G l0 l1 b0 b1 b2 b3 s0 s1 s2 s3 s4 (rpS tx sz s cn pn) (rpM tx sz s cn pn em) i tx (rpT False cn pn rt) (rpN tx sz s cn pn rn)) C (c_X6_readPerson l G l0 l1 b0 b1 b2 b3 s0 s1 s2 s3 s4 s em i tx rt rn sz cn pn False hsz hs240 hlt hcn hcn4 hpn hpn8) gX6_readClause_X6_readPerson rfl ⟨rfl, rfl⟩ hd_X6_readPerson ⟨(Nat.le_of_ble_eq_true rfl), (Nat.le_of_ble_eq_true rfl)⟩ hK hP hD hS [0, 1, 2, 3, 4, 5, 6, 7, 8, 9, 10] (by decide) rfl (rdW_f.trans rdW_f.symm) rfl (rdW_f.trans rdW_f.symm) (va_recv hK hP (ci := 6) (q0 := 0) rfl rfl) rfl hl.1 rfl (Nat.le_of_ble_eq_true rfl) dX6_readClause_37 ⟨(Nat.le_of_ble_eq_true rfl), (Nat.le_of_ble_eq_true rfl)⟩ (fun H locs hP hD hS => ?_)
          refine lv_goto (tgt := 62) hx hb dX6_readClause_40 (by decide) ?_
          have hP : va_P G.1 vwCl (rdW G l0 l1 b0 b1 b2 b3 s0 s1 s2 s3 s4 ((ccX tx sz ((s, rt, rn, em) : CSt) x).1) ((ccX tx sz ((s, rt, rn, em) : CSt) x).2.2.2) i tx ((ccX tx sz ((s, rt, rn, em) : CSt) x).2.1) ((ccX tx sz ((s, rt, rn, em) : CSt) x).2.2.1)) H := by rw [show ((ccX tx sz ((s, rt, rn, em) : CSt) x).1) = (rpS tx sz s cn pn) from by rw [hX], show ((ccX tx sz ((s, rt, rn, em) : CSt) x).2.2.2) = (rpM tx sz s cn pn em) from by rw [hX], show ((ccX tx sz ((s, rt, rn, em) : CSt) x).2.1) = (rpT False cn pn rt) from by rw [hX]; exact (rpT_c hg3).symm, show ((ccX tx sz ((s, rt, rn, em) : CSt) x).2.2.1) = (rpN tx sz s cn pn rn) from by rw [hX]]; exact hP
          exact mX_vret hAe C hP hS dX6_readClause_62
        · skip
          have hg3 : True ↔ x = 103 := iff_of_true trivial cq6
          have hX : ccX tx sz ((s, rt, rn, em) : CSt) x = (rpS tx sz s cn pn, rpT (x = 103) cn pn rt, rpN tx sz s cn pn rn, rpM tx sz s cn pn em) := cc_p h99 hgm hcnc hpnc
          refine lv_iconst (v := 1) hx hb dX6_readClause_32 (by decide) ?_
          refine lv_goto (tgt := 37) hx hb dX6_readClause_33 (by decide) ?_
          refine cX_V (Cn := RX6) (n := 1) (As := [.int (bI True)]) (rest := []) (wsn := rdW G l0 l1 b0 b1 b2 b3 s0 s1 s2 s3 s4 (rpS tx sz s cn pn) (rpM tx sz s cn pn em) i tx (rpT True cn pn rt) (rpN tx sz s cn pn rn)) C (c_X6_readPerson l G l0 l1 b0 b1 b2 b3 s0 s1 s2 s3 s4 s em i tx rt rn sz cn pn True hsz hs240 hlt hcn hcn4 hpn hpn8) gX6_readClause_X6_readPerson rfl ⟨rfl, rfl⟩ hd_X6_readPerson ⟨(Nat.le_of_ble_eq_true rfl), (Nat.le_of_ble_eq_true rfl)⟩ hK hP hD hS [0, 1, 2, 3, 4, 5, 6, 7, 8, 9, 10] (by decide) rfl (rdW_f.trans rdW_f.symm) rfl (rdW_f.trans rdW_f.symm) (va_recv hK hP (ci := 6) (q0 := 0) rfl rfl) rfl hl.1 rfl (Nat.le_of_ble_eq_true rfl) dX6_readClause_37 ⟨(Nat.le_of_ble_eq_true rfl), (Nat.le_of_ble_eq_true rfl)⟩ (fun H locs hP hD hS => ?_)
          refine lv_goto (tgt := 62) hx hb dX6_readClause_40 (by decide) ?_
          have hP : va_P G.1 vwCl (rdW G l0 l1 b0 b1 b2 b3 s0 s1 s2 s3 s4 ((ccX tx sz ((s, rt, rn, em) : CSt) x).1) ((ccX tx sz ((s, rt, rn, em) : CSt) x).2.2.2) i tx ((ccX tx sz ((s, rt, rn, em) : CSt) x).2.1) ((ccX tx sz ((s, rt, rn, em) : CSt) x).2.2.1)) H := by rw [show ((ccX tx sz ((s, rt, rn, em) : CSt) x).1) = (rpS tx sz s cn pn) from by rw [hX], show ((ccX tx sz ((s, rt, rn, em) : CSt) x).2.2.2) = (rpM tx sz s cn pn em) from by rw [hX], show ((ccX tx sz ((s, rt, rn, em) : CSt) x).2.1) = (rpT True cn pn rt) from by rw [hX]; exact (rpT_c hg3).symm, show ((ccX tx sz ((s, rt, rn, em) : CSt) x).2.2.1) = (rpN tx sz s cn pn rn) from by rw [hX]]; exact hP
          exact mX_vret hAe C hP hS dX6_readClause_62
  · skip
    have h99 := cq1
    have hX : ccX tx sz ((s, rt, rn, em) : CSt) x = (rcS tx sz s cn rt, rcT tx sz s cn rt, rcN tx sz s cn rt rn, rcM tx sz s cn rt em) := cc_c h99 hcnc
    refine lv_aload_n hx hb dX6_readClause_6 rfl (lv_at hl 0 rfl) ?_
    refine cX_V (Cn := RX6) (n := 0) (As := []) (rest := []) (wsn := rdW G l0 l1 b0 b1 b2 b3 s0 s1 s2 s3 s4 (rcS tx sz s cn rt) (rcM tx sz s cn rt em) i tx (rcT tx sz s cn rt) (rcN tx sz s cn rt rn)) C (c_X6_readCreditor l G l0 l1 b0 b1 b2 b3 s0 s1 s2 s3 s4 s em i tx rt rn sz cn pn  hsz hs240 hlt hcn hcn4 hpn hpn8) gX6_readClause_X6_readCreditor rfl ⟨rfl, rfl⟩ hd_X6_readCreditor ⟨(Nat.le_of_ble_eq_true rfl), (Nat.le_of_ble_eq_true rfl)⟩ hK hP hD hS [0, 1, 2, 3, 4, 5, 6, 7, 8, 9, 10] (by decide) rfl (rdW_f.trans rdW_f.symm) rfl (rdW_f.trans rdW_f.symm) (va_recv hK hP (ci := 6) (q0 := 0) rfl rfl) rfl hl.1 rfl (Nat.le_of_ble_eq_true rfl) dX6_readClause_7 ⟨(Nat.le_of_ble_eq_true rfl), (Nat.le_of_ble_eq_true rfl)⟩ (fun H locs hP hD hS => ?_)
    refine lv_goto (tgt := 62) hx hb dX6_readClause_10 (by decide) ?_
    have hP : va_P G.1 vwCl (rdW G l0 l1 b0 b1 b2 b3 s0 s1 s2 s3 s4 ((ccX tx sz ((s, rt, rn, em) : CSt) x).1) ((ccX tx sz ((s, rt, rn, em) : CSt) x).2.2.2) i tx ((ccX tx sz ((s, rt, rn, em) : CSt) x).2.1) ((ccX tx sz ((s, rt, rn, em) : CSt) x).2.2.1)) H := by rw [show ((ccX tx sz ((s, rt, rn, em) : CSt) x).1) = (rcS tx sz s cn rt) from by rw [hX], show ((ccX tx sz ((s, rt, rn, em) : CSt) x).2.2.2) = (rcM tx sz s cn rt em) from by rw [hX], show ((ccX tx sz ((s, rt, rn, em) : CSt) x).2.1) = (rcT tx sz s cn rt) from by rw [hX], show ((ccX tx sz ((s, rt, rn, em) : CSt) x).2.2.1) = (rcN tx sz s cn rt rn) from by rw [hX]]; exact hP
    exact mX_vret hAe C hP hS dX6_readClause_62
