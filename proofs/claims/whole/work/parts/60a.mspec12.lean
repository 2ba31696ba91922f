/-! all clauses: the reference -/
abbrev TSt : Type := Nat × (Nat → Int32) × Int32
def tnC (tx : Nat → Int32) (sz : Nat) (c : TSt) : PR := clX tx sz c.1 c.2.1 c.2.2 (cl (c.2.1 3)) (cl (c.2.1 4))
def tnS (tx : Nat → Int32) (sz : Nat) (c : TSt) : TSt := (stN tx sz (tnC tx sz c).2.1, (tnC tx sz c).2.2.1, (tnC tx sz c).2.2.2)
def tnN (tx : Nat → Int32) (sz : Nat) (c : TSt) : Nat → TSt
  | 0 => c
  | k + 1 => tnS tx sz (tnN tx sz c k)
def tnX (tx : Nat → Int32) (sz : Nat) : Nat → TSt → PR
  | 0, c => (true, c.1, c.2.1, c.2.2)
  | f + 1, c => if stS tx sz c.1 < 0 then (true, c.1, c.2.1, c.2.2) else if (tnC tx sz c).1 = true then tnX tx sz f (tnS tx sz c) else tnC tx sz c
def tnOK (sz : Nat) (c : TSt) : Prop := c.1 ≤ sz ∧ ∃ cn pn : Nat, cn ≤ 4 ∧ pn ≤ 8 ∧ c.2.1 3 = nI cn ∧ c.2.1 4 = nI pn
theorem tnX_e {tx : Nat → Int32} {sz f : Nat} {c : TSt} (h : stS tx sz c.1 < 0) : tnX tx sz f c = (true, c.1, c.2.1, c.2.2) := by
  cases f
  · rfl
  · exact if_pos h
theorem tnX_s {tx : Nat → Int32} {sz f : Nat} {c : TSt} (hf : 0 < f) (h : ¬ stS tx sz c.1 < 0) (h2 : (tnC tx sz c).1 = true) : tnX tx sz f c = tnX tx sz (f - 1) (tnS tx sz c) := by
  obtain ⟨f', rfl⟩ : ∃ z, f = z + 1 := ⟨f - 1, by omega⟩
  show (if stS tx sz c.1 < 0 then _ else if (tnC tx sz c).1 = true then tnX tx sz f' (tnS tx sz c) else _) = _
  rw [if_neg h, if_pos h2]; rfl
theorem tnX_f {tx : Nat → Int32} {sz f : Nat} {c : TSt} (hf : 0 < f) (h : ¬ stS tx sz c.1 < 0) (h2 : ¬ (tnC tx sz c).1 = true) : tnX tx sz f c = tnC tx sz c := by
  obtain ⟨f', rfl⟩ : ∃ z, f = z + 1 := ⟨f - 1, by omega⟩
  show (if stS tx sz c.1 < 0 then _ else if (tnC tx sz c).1 = true then tnX tx sz f' (tnS tx sz c) else tnC tx sz c) = _
  rw [if_neg h, if_neg h2]
theorem tnS_ok {tx : Nat → Int32} {sz : Nat} {c : TSt} (h : tnOK sz c) (hs : ¬ stS tx sz c.1 < 0) (h2 : (tnC tx sz c).1 = true) : tnOK sz (tnS tx sz c) ∧ c.1 + 1 ≤ (tnS tx sz c).1 ∧ (tnC tx sz c).2.1 ≤ sz := by
  obtain ⟨h1, cn, pn, q1, q2, q3, q4⟩ := h
  have hcn : cl (c.2.1 3) = cn := by rw [q3]; exact cl_nI (by omega)
  have hpn : cl (c.2.1 4) = pn := by rw [q4]; exact cl_nI (by omega)
  unfold tnS
  unfold tnC at h2 ⊢
  rw [hcn, hpn] at h2 ⊢
  obtain ⟨a1, a2, cn', pn', a3, a4, a5, a6⟩ := cl_ok h1 q3 q1 q4 q2 h2
  have b1 := stN_gt h1 hs
  have b2 := stN_ge (tx := tx) a2
  refine ⟨⟨stN_le a2, cn', pn', a3, a4, a5, a6⟩, ?_, a2⟩
  show c.1 + 1 ≤ stN tx sz _
  omega
