/-! what a clause that is well leaves: where it stands, how many creditors and persons -/
theorem stN_ge {tx : Nat → Int32} {sz a : Nat} (h : a ≤ sz) : a ≤ stN tx sz a := by
  have h1 := sk_le (tx := tx) h
  have h2 := dg_le (tx := tx) h1.2
  unfold stN
  by_cases e : isD tx sz a
  · rw [if_pos e]; omega
  · rw [if_neg e]
    by_cases e2 : hv tx sz (sk tx sz a) < 0
    · rw [if_pos e2]; exact h1.1
    · rw [if_neg e2]; omega
theorem stN_gt {tx : Nat → Int32} {sz a : Nat} (h : a ≤ sz) (hs : ¬ stS tx sz a < 0) : a + 1 ≤ stN tx sz a := by
  have h1 := sk_le (tx := tx) h
  unfold stN
  by_cases e : isD tx sz a
  · rw [if_pos e]
    have h3 : dg tx sz (sk tx sz a) = dgN tx sz (sz - (sk tx sz a + 1)) (sk tx sz a + 1) := dgN_s e
    have h4 := dgN_le (tx := tx) (sz := sz) (sz - (sk tx sz a + 1)) (sk tx sz a + 1) (hv_dg e)
    omega
  · rw [if_neg e]
    have h5 : ¬ hv tx sz (sk tx sz a) < 0 := by
      have h6 : stS tx sz a = hv tx sz (sk tx sz a) := if_neg e
      rw [← h6]; exact hs
    rw [if_neg h5]; omega
theorem ri_ok {tx : Nat → Int32} {sz al : Nat} {r : Nat → Int32} {w : Int32} (h : (riX tx sz al r w).1 = true) : (riX tx sz al r w).2.1 = sN3 tx sz al ∧ (riX tx sz al r w).2.2.1 3 = r 3 ∧ (riX tx sz al r w).2.2.1 4 = r 4 := by
  unfold riX at h ⊢
  by_cases h1 : r 0 = 1
  · rw [if_pos h1] at h; cases h
  rw [if_neg h1] at h ⊢
  by_cases h2 : nuOK tx sz (stN tx sz al) 0 30
  · rw [if_pos h2] at h ⊢
    by_cases h3 : nuOK tx sz (stN tx sz (stN tx sz al)) 0 100
    · rw [if_pos h3] at h ⊢
      by_cases h4 : stS tx sz (stN tx sz (stN tx sz (stN tx sz al))) = 59
      · rw [if_pos h4]
        refine ⟨rfl, ?_, ?_⟩
        · show nuR _ _ _ _ _ _ _ 3 = r 3
          rw [nuR_lo (by decide), nuR_lo (by decide), upd_ne (by decide)]
        · show nuR _ _ _ _ _ _ _ 4 = r 4
          rw [nuR_lo (by decide), nuR_lo (by decide), upd_ne (by decide)]
      · rw [if_neg h4] at h; cases h
    · rw [if_neg h3] at h; cases h
  · rw [if_neg h2] at h; cases h
theorem rc_ok {tx : Nat → Int32} {sz al : Nat} {r : Nat → Int32} {w : Int32} {cn : Nat} (hc : cn ≤ 4) (h : (rcX tx sz al r w cn).1 = true) : (rcX tx sz al r w cn).2.1 = sN5 tx sz al ∧ (rcX tx sz al r w cn).2.2.1 3 = nI (cn + 1) ∧ cn + 1 ≤ 4 ∧ (rcX tx sz al r w cn).2.2.1 4 = r 4 := by
  unfold rcX at h ⊢
  by_cases h1 : cn = 4
  · rw [if_pos h1] at h; cases h
  rw [if_neg h1] at h ⊢
  by_cases h2 : r 4 ≤ 0
  · rw [if_pos h2] at h ⊢
    by_cases h3 : nuOK tx sz (sN1 tx sz al) 0 999
    · rw [if_pos h3] at h ⊢
      by_cases h4 : nuOK tx sz (sN2 tx sz al) 1 999
      · rw [if_pos h4] at h ⊢
        by_cases h5 : nuOK tx sz (sN3 tx sz al) 1 999
        · rw [if_pos h5] at h ⊢
          by_cases h6 : rcR3 tx sz al cn r (9 + cn) ≤ rcR3 tx sz al cn r (13 + cn)
          · rw [if_pos h6] at h ⊢
            by_cases h7 : nuOK tx sz (sN4 tx sz al) 1 9
            · rw [if_pos h7] at h ⊢
              by_cases h8 : stS tx sz (sN5 tx sz al) = 59
              · rw [if_pos h8]
                refine ⟨rfl, ?_, by omega, ?_⟩
                · exact (nuR_lo (by omega)).trans ((nuR_lo (by omega)).trans ((nuR_lo (by omega)).trans ((nuR_lo (by omega)).trans (upd_at _ _ _))))
                · exact (nuR_lo (by omega)).trans ((nuR_lo (by omega)).trans ((nuR_lo (by omega)).trans ((nuR_lo (by omega)).trans (upd_ne (by decide)))))
              · rw [if_neg h8] at h; cases h
            · rw [if_neg h7] at h; cases h
          · rw [if_neg h6] at h; cases h
        · rw [if_neg h5] at h; cases h
      · rw [if_neg h4] at h; cases h
    · rw [if_neg h3] at h; cases h
  · rw [if_neg h2] at h; cases h
theorem rpA_ge {tx : Nat → Int32} {sz al : Nat} (h : al ≤ sz) : ∀ k, stN tx sz al ≤ rpA tx sz al (k + 1)
  | 0 => stN_ge (stN_le h)
  | k + 1 => by
    have h1 := rpA_ge (tx := tx) h k
    have h2 := rpA_le (tx := tx) h (k + 1)
    have h3 := stN_ge (tx := tx) h2
    have h4 := stN_ge (tx := tx) (stN_le (tx := tx) h2)
    show _ ≤ stN tx sz (stN tx sz (rpA tx sz al (k + 1)))
    omega
theorem rpZ_ok {tx : Nat → Int32} {sz al pn cn : Nat} {r : Nat → Int32} {w : Int32} : ∀ f k, (rpZ tx sz al pn cn r w f k).1 = true → (rpZ tx sz al pn cn r w f k).2.1 = rpA tx sz al (k + f) ∧ (rpZ tx sz al pn cn r w f k).2.2.1 = rpR tx sz al pn r (k + f)
  | 0, k, _ => ⟨rfl, rfl⟩
  | f + 1, k, h => by
    unfold rpZ at h ⊢
    by_cases h1 : nuOK tx sz (stN tx sz (rpA tx sz al k)) 0 999
    · rw [if_pos h1] at h ⊢
      by_cases h2 : stS tx sz (stN tx sz (stN tx sz (rpA tx sz al k))) = (if k + 1 < cn then 44 else 59)
      · rw [if_pos h2] at h ⊢
        rw [show k + (f + 1) = (k + 1) + f by omega]
        exact rpZ_ok f (k + 1) h
      · rw [if_neg h2] at h; cases h
    · rw [if_neg h1] at h; cases h
theorem rp_ok {tx : Nat → Int32} {sz al : Nat} {r : Nat → Int32} {w : Int32} {cn pn : Nat} {g : Prop} [Decidable g] (ha : al ≤ sz) (hc : r 3 = nI cn) (hp : pn ≤ 8) (h : (rpX tx sz al r w cn pn g).1 = true) : stN tx sz al ≤ (rpX tx sz al r w cn pn g).2.1 ∧ (rpX tx sz al r w cn pn g).2.1 ≤ sz ∧ (rpX tx sz al r w cn pn g).2.2.1 3 = r 3 ∧ (rpX tx sz al r w cn pn g).2.2.1 4 = nI (pn + 1) ∧ pn + 1 ≤ 8 := by
  unfold rpX at h ⊢
  by_cases h1 : pn = 8
  · rw [if_pos h1] at h; cases h
  rw [if_neg h1] at h ⊢
  by_cases h2 : r 3 = 0
  · rw [if_pos h2] at h; cases h
  rw [if_neg h2] at h ⊢
  obtain ⟨e1, e2⟩ := rpZ_ok cn 0 h
  rw [e1, e2, Nat.zero_add]
  have hc0 : cn ≠ 0 := fun q => h2 (by rw [hc, q]; rfl)
  refine ⟨?_, rpA_le ha cn, ?_, ?_, by omega⟩
  · have := rpA_ge (tx := tx) ha (cn - 1)
    rw [show cn - 1 + 1 = cn by omega] at this; exact this
  · rw [rpR_lo (by decide)]; show upd (upd r 4 _) 21 _ 3 = r 3
    rw [upd_ne (by decide), upd_ne (by decide)]
  · rw [rpR_lo (by decide)]; show upd (upd r 4 _) 21 _ 4 = _
    rw [upd_ne (by decide), upd_at]
/-- a clause that is well -/
theorem cl_ok {tx : Nat → Int32} {sz al : Nat} {r : Nat → Int32} {w : Int32} {cn pn : Nat} (ha : al ≤ sz) (hc : r 3 = nI cn) (hc4 : cn ≤ 4) (hp : r 4 = nI pn) (hp8 : pn ≤ 8) (h : (clX tx sz al r w cn pn).1 = true) :
    stN tx sz al ≤ (clX tx sz al r w cn pn).2.1 ∧ (clX tx sz al r w cn pn).2.1 ≤ sz ∧ ∃ cn' pn' : Nat, cn' ≤ 4 ∧ pn' ≤ 8 ∧ (clX tx sz al r w cn pn).2.2.1 3 = nI cn' ∧ (clX tx sz al r w cn pn).2.2.1 4 = nI pn' := by
  have n1 := stN_le (tx := tx) ha
  have n2 := stN_le (tx := tx) n1
  have n3 := stN_le (tx := tx) n2
  have n4 := stN_le (tx := tx) n3
  have n5 := stN_le (tx := tx) n4
  have g1 := stN_ge (tx := tx) n1
  have g2 := stN_ge (tx := tx) n2
  have g3 := stN_ge (tx := tx) n3
  have g4 := stN_ge (tx := tx) n4
  unfold clX at h ⊢
  by_cases h1 : stS tx sz al = 105
  · rw [if_pos h1] at h ⊢
    obtain ⟨e1, e2, e3⟩ := ri_ok h
    rw [e1, e2, e3]
    exact ⟨by show stN tx sz al ≤ stN tx sz (stN tx sz (stN tx sz al)); omega, n3, cn, pn, hc4, hp8, hc, hp⟩
  rw [if_neg h1] at h ⊢
  by_cases h2 : r 0 = 0
  · rw [if_pos h2] at h; cases h
  rw [if_neg h2] at h ⊢
  by_cases h3 : stS tx sz al = 99
  · rw [if_pos h3] at h ⊢
    obtain ⟨e1, e2, e4, e3⟩ := rc_ok hc4 h
    rw [e1, e2, e3]
    exact ⟨by show stN tx sz al ≤ stN tx sz (stN tx sz (stN tx sz (stN tx sz (stN tx sz al)))); omega, n5, cn + 1, pn, e4, hp8, rfl, hp⟩
  rw [if_neg h3] at h ⊢
  by_cases h4 : stS tx sz al = 103
  · rw [if_pos h4] at h ⊢
    obtain ⟨e1, e2, e3, e4, e5⟩ := rp_ok ha hc hp8 h
    exact ⟨e1, e2, cn, pn + 1, hc4, e5, e3.trans hc, e4⟩
  rw [if_neg h4] at h ⊢
  by_cases h5 : stS tx sz al = 109
  · rw [if_pos h5] at h ⊢
    obtain ⟨e1, e2, e3, e4, e5⟩ := rp_ok ha hc hp8 h
    exact ⟨e1, e2, cn, pn + 1, hc4, e5, e3.trans hc, e4⟩
  rw [if_neg h5] at h; cases h
