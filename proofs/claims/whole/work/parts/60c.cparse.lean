/-! class and reference read alike -/
theorem opN_ok {tx : Nat → Int32} {sz : Nat} {lo hi : Int32} {s : RSt} (h : nuOK tx sz s.1 lo hi) : opN tx sz lo hi s = (stN tx sz s.1, s.2.1, s.2.2) := by
  have hd : isD tx sz s.1 := isD_48.mp h.1
  have e1 : rnA tx sz s.1 = stN tx sz s.1 := by unfold rnA stN; rw [if_pos hd, if_pos hd]
  have e2 : nuW tx sz s.1 lo hi 0 = 0 := by unfold nuW; rw [if_neg (not_not_intro h.1), if_neg (not_not_intro h)]
  unfold opN; rw [e2, opB_0, e1]
theorem nuW_no {tx : Nat → Int32} {sz a : Nat} {lo hi w : Int32} (h : ¬ nuOK tx sz a lo hi) : nuW tx sz a lo hi w = nuW tx sz a lo hi 0 ∧ ¬ nuW tx sz a lo hi 0 = 0 := by
  unfold nuW
  by_cases e : stS tx sz a = 48
  · rw [if_neg (not_not_intro e), if_pos h, if_neg (not_not_intro e), if_pos h]; exact ⟨rfl, by decide⟩
  · rw [if_pos e, if_pos e]; exact ⟨rfl, by decide⟩
theorem opN_no {tx : Nat → Int32} {sz : Nat} {lo hi : Int32} {s : RSt} (hK : s.2.1 = 0) (h : ¬ nuOK tx sz s.1 lo hi) : (opN tx sz lo hi s).2 = (nuW tx sz s.1 lo hi 0, nI (sk tx sz s.1)) ∧ ¬ (opN tx sz lo hi s).2.1 = 0 := by
  have h2 := (nuW_no (w := 0) h).2
  have e : opN tx sz lo hi s = (rnA tx sz s.1, nuW tx sz s.1 lo hi 0, nI (sk tx sz s.1)) := opB_z (s := (rnA tx sz s.1, s.2.1, s.2.2)) hK h2
  rw [e]; exact ⟨rfl, h2⟩
theorem opN_K {tx : Nat → Int32} {sz : Nat} {lo hi : Int32} {s : RSt} (hK : ¬ s.2.1 = 0) : (opN tx sz lo hi s).2 = s.2 := by
  have e : opN tx sz lo hi s = (rnA tx sz s.1, s.2.1, s.2.2) := opB_n (s := (rnA tx sz s.1, s.2.1, s.2.2)) hK
  rw [e]
theorem opS_K {tx : Nat → Int32} {sz : Nat} {due : Int32} {s : RSt} (hK : ¬ s.2.1 = 0) : (opS tx sz due s).2 = s.2 := by
  unfold opS
  by_cases e : hv tx sz (sk tx sz s.1) = due
  · rw [if_pos e]; rfl
  · rw [if_neg e, opB_n (s := opW tx sz s) hK]; rfl
/-- a sign that is no figure -/
theorem st_sign {tx : Nat → Int32} {sz a : Nat} {d : Int32} (h : hv tx sz (sk tx sz a) = d) (hd : ¬ inB d 48 57) (h0 : ¬ d < 0) : stS tx sz a = d ∧ stN tx sz a = sk tx sz a + 1 := by
  have hn : ¬ isD tx sz a := by show ¬ inB (hv tx sz (sk tx sz a)) 48 57; rw [h]; exact hd
  unfold stS stN
  rw [if_neg hn, if_neg hn, h, if_neg h0]; exact ⟨rfl, rfl⟩
theorem st_due {tx : Nat → Int32} {sz a : Nat} {d : Int32} (hd : ¬ inB d 48 57) (hd2 : ¬ d = 48) : stS tx sz a = d ↔ hv tx sz (sk tx sz a) = d := by
  unfold stS
  by_cases e : isD tx sz a
  · rw [if_pos e]
    refine ⟨fun q => absurd q.symm hd2, fun q => absurd ?_ hd⟩
    have e2 : inB (hv tx sz (sk tx sz a)) 48 57 := e
    rwa [q] at e2
  · rw [if_neg e]
theorem opS_ok {tx : Nat → Int32} {sz : Nat} {d : Int32} {s : RSt} (hd : ¬ inB d 48 57) (h0 : ¬ d < 0) (h : hv tx sz (sk tx sz s.1) = d) : opS tx sz d s = (stN tx sz s.1, s.2.1, s.2.2) := by
  unfold opS; rw [if_pos h, (st_sign h hd h0).2]; rfl
theorem opS_no {tx : Nat → Int32} {sz : Nat} {d : Int32} {s : RSt} (hK : s.2.1 = 0) (h : ¬ hv tx sz (sk tx sz s.1) = d) : (opS tx sz d s).2 = (1, nI (sk tx sz s.1)) := by
  unfold opS; rw [if_neg h, opB_z (s := opW tx sz s) hK (by decide)]
/-- what was read: class's terms and state, and the reference's row -/
def pInv (rt rn r : Nat → Int32) (cn pn : Nat) : Prop :=
  (cn ≤ 4 ∧ pn ≤ 8 ∧ r 3 = nI cn ∧ r 4 = nI pn ∧ (0 < pn → 0 < cn)) ∧
  ((∀ k, k < 5 → rt k = r k) ∧ rt 21 = r 21 ∧ ∃ ir : Nat, ir ≤ 30 ∧ r 1 = nI ir) ∧
  (∀ c, c < cn → (rt (9 + c) = r (9 + c) ∧ rt (13 + c) = r (13 + c) ∧ rt (17 + c) = r (17 + c)) ∧ ∃ lo hi g : Nat, r (9 + c) = nI lo ∧ r (13 + c) = nI hi ∧ r (17 + c) = nI g ∧ 1 ≤ lo ∧ lo ≤ hi ∧ hi ≤ 999 ∧ 1 ≤ g ∧ g ≤ 9) ∧
  (∀ c, c < 4 → rn (32 + c) = r (5 + c) ∧ ∃ j : Nat, j ≤ 999 ∧ r (5 + c) = nI j) ∧
  (∀ p c, p < 8 → c < 4 → rn (4 * p + c) = r (22 + 4 * p + c) ∧ (∃ j : Nat, j ≤ 999 ∧ r (22 + 4 * p + c) = nI j) ∧ (pn ≤ p ∨ cn ≤ c → r (22 + 4 * p + c) = 0)) ∧
  (∀ k, 36 ≤ k → k < 54 → rn k = if 44 ≤ k ∧ k < 52 then -1 else 0)
/-- behind a clause: well in both, or the same fault in both -/
def pOut (tx : Nat → Int32) (sz : Nat) (C : CSt) (Q : PR) : Prop :=
  (Q.1 = true ∧ C.1.1 = stN tx sz Q.2.1 ∧ C.1.2 = (0, -1) ∧ Q.2.2.1 0 = 1 ∧ ∃ cn pn : Nat, pInv C.2.1 C.2.2.1 Q.2.2.1 cn pn) ∨
  (Q.1 = false ∧ ¬ C.1.2.1 = 0 ∧ C.1.2 = (Q.2.2.2, nI (sk tx sz Q.2.1)))
theorem nu_rng {tx : Nat → Int32} {sz a x y : Nat} (hx : x < 2147483648) (hy : y < 2147483648) (h : nuOK tx sz a (nI x) (nI y)) : ∃ j : Nat, x ≤ j ∧ j ≤ y ∧ stV tx sz a = nI j := inB_rng rfl rfl hx hy h.2.2
theorem nuR_ok {tx : Nat → Int32} {sz a pl : Nat} {lo hi : Int32} {r : Nat → Int32} (h : nuOK tx sz a lo hi) : nuR tx sz a lo hi pl r = upd r pl (stV tx sz a) := if_pos h
/-! interest, first -/
theorem p_intI {rt rn r : Nat → Int32} {x y : Int32} {j : Nat} (hr0 : rt 0 = 1) (hI : pInv (upd rt 0 0) rn r 0 0) (hj : j ≤ 30) (ej : x = nI j) : pInv (upd (upd rt 1 x) 2 y) rn (upd (upd (upd r 0 1) 1 x) 2 y) 0 0 := by
  obtain ⟨i1, i2, i3, i4, i5, i6⟩ := hI
  refine ⟨⟨by omega, by omega, ?_, ?_, fun h => absurd h (by omega)⟩, ⟨fun k hk => ?_, ?_, j, hj, ?_⟩, fun c hc => absurd hc (by omega), fun c hc => ?_, fun p c hp hc => ?_, i6⟩
  · rw [upd_ne (by decide), upd_ne (by decide), upd_ne (by decide)]; exact i1.2.2.1
  · rw [upd_ne (by decide), upd_ne (by decide), upd_ne (by decide)]; exact i1.2.2.2.1
  · have ik := i2.1 k hk
    simp only [upd] at ik ⊢
    by_cases k2 : k = 2
    · rw [if_pos k2, if_pos k2]
    · rw [if_neg k2, if_neg k2]
      by_cases k1 : k = 1
      · rw [if_pos k1, if_pos k1]
      · rw [if_neg k1, if_neg k1]
        by_cases k0 : k = 0
        · rw [if_pos k0, k0]; exact hr0
        · rw [if_neg k0]; rw [if_neg k0] at ik; exact ik
  · have i21 : upd rt 0 0 21 = r 21 := i2.2.1
    rw [upd_ne (by decide)] at i21
    rw [upd_ne (by decide), upd_ne (by decide), upd_ne (by decide), upd_ne (by decide), upd_ne (by decide)]; exact i21
  · rw [upd_ne (by decide), upd_at]; exact ej
  · rw [upd_ne (by omega), upd_ne (by omega), upd_ne (by omega)]; exact i4 c hc
  · rw [upd_ne (by omega), upd_ne (by omega), upd_ne (by omega)]; exact i5 p c hp hc
theorem p_int {tx rt rn r : Nat → Int32} {sz al : Nat} {em w : Int32} (hx : hv tx sz (sk tx sz al) = 105) (h0 : r 0 = 0) (hr0 : rt 0 = 1)
    (hI : pInv (upd rt 0 0) rn r 0 0) : pOut tx sz ((riS tx sz (sk tx sz al, 0, -1), riT tx sz (sk tx sz al, 0, -1) rt, rn, em) : CSt) (riX tx sz al r w) := by
  have hskk : sk tx sz (sk tx sz al) = sk tx sz al := by
    show skN tx sz _ (sk tx sz al) = _
    exact skN_x (by rw [hx]; decide) _
  obtain ⟨hs1, hs2⟩ := st_sign hx (by decide) (by decide)
  have e0 : opI (opW tx sz (sk tx sz al, 0, -1)) = (stN tx sz al, 0, -1) := by
    show (sk tx sz (sk tx sz al) + 1, (0 : Int32), (-1 : Int32)) = _
    rw [hskk, hs2]
  have eS : riS tx sz (sk tx sz al, 0, -1) = opS tx sz 59 (opN tx sz 0 100 (opN tx sz 0 30 (stN tx sz al, 0, -1))) := by
    unfold riS; rw [if_pos (by show hv tx sz (sk tx sz (sk tx sz al)) = 105; rw [hskk, hx]), e0]
  have eT : riT tx sz (sk tx sz al, 0, -1) rt = upd (upd rt 1 (stV tx sz (stN tx sz al))) 2 (stV tx sz (opN tx sz 0 30 (stN tx sz al, 0, -1)).1) := by
    unfold riT; rw [if_pos (by show hv tx sz (sk tx sz (sk tx sz al)) = 105; rw [hskk, hx]), e0]
  rw [eS, eT]
  unfold riX
  rw [if_neg (by rw [h0]; decide)]
  by_cases h1 : nuOK tx sz (stN tx sz al) 0 30
  · rw [if_pos h1, opN_ok (s := (stN tx sz al, 0, -1)) h1]
    by_cases h2 : nuOK tx sz (stN tx sz (stN tx sz al)) 0 100
    · rw [if_pos h2, opN_ok (s := (stN tx sz (stN tx sz al), 0, -1)) h2]
      by_cases h3 : stS tx sz (stN tx sz (stN tx sz (stN tx sz al))) = 59
      · rw [if_pos h3]
        have h4 := (st_due (by decide) (by decide)).mp h3
        rw [opS_ok (s := (stN tx sz (stN tx sz (stN tx sz al)), 0, -1)) (by decide) (by decide) h4, nuR_ok h1, nuR_ok h2]
        obtain ⟨j, -, hj, ej⟩ := nu_rng (x := 0) (y := 30) (by decide) (by decide) h1
        have p0 : upd (upd (upd r 0 1) 1 (stV tx sz (stN tx sz al))) 2 (stV tx sz (stN tx sz (stN tx sz al))) 0 = 1 := by rw [upd_ne (by decide), upd_ne (by decide), upd_at]
        have p1 := p_intI (x := stV tx sz (stN tx sz al)) (y := stV tx sz (stN tx sz (stN tx sz al))) hr0 hI hj ej
        exact Or.inl ⟨rfl, rfl, rfl, p0, 0, 0, p1⟩
      · rw [if_neg h3]
        have h4 : ¬ hv tx sz (sk tx sz (stN tx sz (stN tx sz (stN tx sz al)))) = 59 := fun q => h3 ((st_due (by decide) (by decide)).mpr q)
        have h5 := opS_no (s := (stN tx sz (stN tx sz (stN tx sz al)), 0, -1)) rfl h4
        have e : enW tx sz (stN tx sz (stN tx sz (stN tx sz al))) (nuW tx sz (stN tx sz (stN tx sz al)) 0 100 (nuW tx sz (stN tx sz al) 0 30 w)) = 1 := if_neg h3
        refine Or.inr ⟨rfl, ?_, ?_⟩
        · show ¬ (opS tx sz 59 _).2.1 = 0
          rw [h5]; exact (by decide : ¬ (1 : Int32) = 0)
        · show (opS tx sz 59 _).2 = _
          rw [h5, e]
    · rw [if_neg h2]
      obtain ⟨g1, g2⟩ := opN_no (s := (stN tx sz (stN tx sz al), 0, -1)) rfl h2
      have g3 := opS_K (tx := tx) (sz := sz) (due := 59) g2
      obtain ⟨w1, w2⟩ := nuW_no (w := nuW tx sz (stN tx sz al) 0 30 w) h2
      refine Or.inr ⟨rfl, ?_, ?_⟩
      · show ¬ (opS tx sz 59 _).2.1 = 0
        rw [g3]; exact g2
      · show (opS tx sz 59 _).2 = _
        rw [g3, g1, w1]
  · rw [if_neg h1]
    obtain ⟨g1, g2⟩ := opN_no (s := (stN tx sz al, 0, -1)) rfl h1
    have g3 := opN_K (tx := tx) (sz := sz) (lo := 0) (hi := 100) g2
    have g4 : ¬ (opN tx sz 0 100 (opN tx sz 0 30 (stN tx sz al, 0, -1))).2.1 = 0 := by rw [g3]; exact g2
    have g5 := opS_K (tx := tx) (sz := sz) (due := 59) g4
    obtain ⟨w1, w2⟩ := nuW_no (w := w) h1
    refine Or.inr ⟨rfl, ?_, ?_⟩
    · show ¬ (opS tx sz 59 _).2.1 = 0
      rw [g5]; exact g4
    · show (opS tx sz 59 _).2 = _
      rw [g5, g3, g1, w1]
