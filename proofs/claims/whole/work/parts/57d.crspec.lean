/-! a reader's state: where it is, the kind of its fault, the fault's place; what its methods make of it -/
abbrev RSt : Type := Nat × Int32 × Int32
def blK (K k : Int32) : Int32 := if K = 0 then k else K
def blP (K P k p : Int32) : Int32 := if K = 0 ∧ ¬ k = 0 then p else P
def opB (k p : Int32) (s : RSt) : RSt := (s.1, blK s.2.1 k, blP s.2.1 s.2.2 k p)
def opW (tx : Nat → Int32) (sz : Nat) (s : RSt) : RSt := (sk tx sz s.1, s.2.1, s.2.2)
def opI (s : RSt) : RSt := (s.1 + 1, s.2.1, s.2.2)
def opS (tx : Nat → Int32) (sz : Nat) (due : Int32) (s : RSt) : RSt := if hv tx sz (sk tx sz s.1) = due then opI (opW tx sz s) else opB 1 (nI (sk tx sz s.1)) (opW tx sz s)
def rnA (tx : Nat → Int32) (sz a : Nat) : Nat := if isD tx sz a then dg tx sz (sk tx sz a) else sk tx sz a
def opN (tx : Nat → Int32) (sz : Nat) (lo hi : Int32) (s : RSt) : RSt := opB (nuW tx sz s.1 lo hi 0) (nI (sk tx sz s.1)) (rnA tx sz s.1, s.2.1, s.2.2)
theorem blK_0 (K : Int32) : blK K 0 = K := by
  unfold blK
  by_cases h : K = 0
  · rw [if_pos h, h]
  · rw [if_neg h]
theorem blP_0 (K P p : Int32) : blP K P 0 p = P := if_neg (fun q => q.2 rfl)
theorem opB_1 (k p : Int32) (s : RSt) : (opB k p s).1 = s.1 := rfl
theorem opN_1 (tx : Nat → Int32) (sz : Nat) (lo hi : Int32) (s : RSt) : (opN tx sz lo hi s).1 = rnA tx sz s.1 := rfl
theorem opB_0 (p : Int32) (s : RSt) : opB 0 p s = s := by unfold opB; rw [blK_0, blP_0]
theorem opB_z {k p : Int32} {s : RSt} (h : s.2.1 = 0) (hk : ¬ k = 0) : opB k p s = (s.1, k, p) := by
  unfold opB blK blP; rw [if_pos h, if_pos ⟨h, hk⟩]
theorem opB_n {k p : Int32} {s : RSt} (h : ¬ s.2.1 = 0) : opB k p s = s := by
  unfold opB blK blP; rw [if_neg h, if_neg (fun q => h q.1)]
theorem opS_le {tx : Nat → Int32} {sz : Nat} {due : Int32} {s : RSt} (hd : ¬ due = -1) (h : s.1 ≤ sz) : (opS tx sz due s).1 ≤ sz := by
  have h1 := sk_le (tx := tx) h
  unfold opS
  by_cases e : hv tx sz (sk tx sz s.1) = due
  · rw [if_pos e]
    have h2 : sk tx sz s.1 < sz := hv_in (fun q => hd (by rw [← e, q]))
    show sk tx sz s.1 + 1 ≤ sz; omega
  · rw [if_neg e, opB_1]; exact h1.2
theorem rnA_le {tx : Nat → Int32} {sz a : Nat} (h : a ≤ sz) : rnA tx sz a ≤ sz := by
  have h1 := sk_le (tx := tx) h
  unfold rnA
  by_cases e : isD tx sz a
  · rw [if_pos e]; exact (dg_le h1.2).2
  · rw [if_neg e]; exact h1.2
theorem opN_le {tx : Nat → Int32} {sz : Nat} {lo hi : Int32} {s : RSt} (h : s.1 ≤ sz) : (opN tx sz lo hi s).1 ≤ sz := by rw [opN_1]; exact rnA_le h
theorem isD_48 {tx : Nat → Int32} {sz a : Nat} : stS tx sz a = 48 ↔ isD tx sz a := by
  unfold stS
  by_cases e : isD tx sz a
  · rw [if_pos e]; exact ⟨fun _ => e, fun _ => rfl⟩
  · rw [if_neg e]; exact ⟨fun q => by show inB _ 48 57; rw [q]; decide, fun q => absurd q e⟩
/-! interest -/
def riS (tx : Nat → Int32) (sz : Nat) (s : RSt) : RSt := if hv tx sz (sk tx sz s.1) = 105 then opS tx sz 59 (opN tx sz 0 100 (opN tx sz 0 30 (opI (opW tx sz s)))) else opB 1 (nI (sk tx sz s.1)) (opW tx sz s)
def riT (tx : Nat → Int32) (sz : Nat) (s : RSt) (rt : Nat → Int32) : Nat → Int32 := if hv tx sz (sk tx sz s.1) = 105 then upd (upd rt 1 (stV tx sz (opI (opW tx sz s)).1)) 2 (stV tx sz (opN tx sz 0 30 (opI (opW tx sz s))).1) else rt
def riM (tx : Nat → Int32) (sz : Nat) (s : RSt) (em : Int32) : Int32 := if hv tx sz (sk tx sz s.1) = 105 then nI (sk tx sz (opN tx sz 0 30 (opI (opW tx sz s))).1) else em
/-! a creditor -/
abbrev cdOK (cn : Nat) (rt : Nat → Int32) : Prop := cn < 4 ∧ rt 4 ≤ 0
def rc1 (s : RSt) : RSt := opI s
def rc2 (tx : Nat → Int32) (sz : Nat) (s : RSt) : RSt := opN tx sz 0 999 (rc1 s)
def rc3 (tx : Nat → Int32) (sz : Nat) (s : RSt) : RSt := opN tx sz 1 999 (rc2 tx sz s)
def rc4 (tx : Nat → Int32) (sz : Nat) (s : RSt) : RSt := opN tx sz 1 999 (rc3 tx sz s)
def rc5 (tx : Nat → Int32) (sz : Nat) (s : RSt) : RSt := if stV tx sz (rc3 tx sz s).1 < stV tx sz (rc2 tx sz s).1 then opB 4 (nI (sk tx sz (rc3 tx sz s).1)) (rc4 tx sz s) else rc4 tx sz s
def rc6 (tx : Nat → Int32) (sz : Nat) (s : RSt) : RSt := opN tx sz 1 9 (rc5 tx sz s)
def rcS (tx : Nat → Int32) (sz : Nat) (s : RSt) (cn : Nat) (rt : Nat → Int32) : RSt := if cdOK cn rt then opS tx sz 59 (rc6 tx sz s) else opB 3 (nI s.1) s
def rcT (tx : Nat → Int32) (sz : Nat) (s : RSt) (cn : Nat) (rt : Nat → Int32) : Nat → Int32 := if cdOK cn rt then upd (upd (upd (upd rt (9 + cn) (stV tx sz (rc2 tx sz s).1)) (13 + cn) (stV tx sz (rc3 tx sz s).1)) (17 + cn) (stV tx sz (rc5 tx sz s).1)) 3 (nI (cn + 1)) else rt
def rcN (tx : Nat → Int32) (sz : Nat) (s : RSt) (cn : Nat) (rt rn : Nat → Int32) : Nat → Int32 := if cdOK cn rt then upd rn (32 + cn) (stV tx sz (rc1 s).1) else rn
def rcM (tx : Nat → Int32) (sz : Nat) (s : RSt) (cn : Nat) (rt : Nat → Int32) (em : Int32) : Int32 := if cdOK cn rt then nI (sk tx sz (rc5 tx sz s).1) else em
/-! a person -/
abbrev psOK (cn pn : Nat) : Prop := pn < 8 ∧ ¬ cn = 0
def psQ0 (tx : Nat → Int32) (sz : Nat) (k : Nat) (s : RSt) : RSt := if k = 0 then s else opS tx sz 44 s
def psS (tx : Nat → Int32) (sz : Nat) (s : RSt) : Nat → RSt
  | 0 => opI s
  | k + 1 => opN tx sz 0 999 (psQ0 tx sz k (psS tx sz s k))
def psN (tx : Nat → Int32) (sz : Nat) (s : RSt) (pn : Nat) (rn : Nat → Int32) : Nat → Nat → Int32
  | 0 => rn
  | k + 1 => upd (psN tx sz s pn rn k) (4 * pn + k) (lessI (stV tx sz (psQ0 tx sz k (psS tx sz s k)).1) 9999)
def psM (tx : Nat → Int32) (sz : Nat) (s : RSt) (em : Int32) : Nat → Int32
  | 0 => em
  | k + 1 => nI (sk tx sz (psQ0 tx sz k (psS tx sz s k)).1)
def rpS (tx : Nat → Int32) (sz : Nat) (s : RSt) (cn pn : Nat) : RSt := if psOK cn pn then opS tx sz 59 (psS tx sz s cn) else opB 3 (nI s.1) s
def rpT (g : Prop) [Decidable g] (cn pn : Nat) (rt : Nat → Int32) : Nat → Int32 := if psOK cn pn then upd (if g then upd rt 21 (rt 21 ||| 1 <<< (nI pn &&& 31)) else rt) 4 (nI (pn + 1)) else rt
def rpN (tx : Nat → Int32) (sz : Nat) (s : RSt) (cn pn : Nat) (rn : Nat → Int32) : Nat → Int32 := if psOK cn pn then psN tx sz s pn rn cn else rn
def rpM (tx : Nat → Int32) (sz : Nat) (s : RSt) (cn pn : Nat) (em : Int32) : Int32 := if psOK cn pn then psM tx sz s em cn else em
theorem psQ0_le {tx : Nat → Int32} {sz k : Nat} {s : RSt} (h : s.1 ≤ sz) : (psQ0 tx sz k s).1 ≤ sz := by
  unfold psQ0
  by_cases e : k = 0
  · rw [if_pos e]; exact h
  · rw [if_neg e]; exact opS_le (by decide) h
theorem psS_le {tx : Nat → Int32} {sz : Nat} {s : RSt} (h : s.1 + 1 ≤ sz) : ∀ k, (psS tx sz s k).1 ≤ sz
  | 0 => h
  | k + 1 => opN_le (psQ0_le (psS_le h k))
/-! a clause, all that is read: state, terms, state's row, the last number's place -/
abbrev CSt : Type := RSt × (Nat → Int32) × (Nat → Int32) × Int32
def ccX (tx : Nat → Int32) (sz : Nat) (c : CSt) (x : Int32) : CSt :=
  if x = 99 then (rcS tx sz c.1 (cl (c.2.1 3)) c.2.1, rcT tx sz c.1 (cl (c.2.1 3)) c.2.1, rcN tx sz c.1 (cl (c.2.1 3)) c.2.1 c.2.2.1, rcM tx sz c.1 (cl (c.2.1 3)) c.2.1 c.2.2.2)
  else if x = 103 ∨ x = 109 then (rpS tx sz c.1 (cl (c.2.1 3)) (cl (c.2.1 4)), rpT (x = 103) (cl (c.2.1 3)) (cl (c.2.1 4)) c.2.1, rpN tx sz c.1 (cl (c.2.1 3)) (cl (c.2.1 4)) c.2.2.1, rpM tx sz c.1 (cl (c.2.1 3)) (cl (c.2.1 4)) c.2.2.2)
  else (opB (if x = 105 then 3 else 1) (nI c.1.1) c.1, c.2.1, c.2.2.1, c.2.2.2)
def ccW (tx : Nat → Int32) (sz : Nat) (c : CSt) : CSt := (opW tx sz c.1, c.2.1, c.2.2.1, c.2.2.2)
def ccN (tx : Nat → Int32) (sz : Nat) (c : CSt) : Nat → CSt
  | 0 => c
  | k + 1 => ccX tx sz (ccW tx sz (ccN tx sz c k)) (hv tx sz (sk tx sz (ccN tx sz c k).1.1))
def ccR (tx : Nat → Int32) (sz : Nat) : Nat → CSt → CSt
  | 0, c => c
  | f + 1, c => if ¬ c.1.2.1 = 0 then c else if hv tx sz (sk tx sz c.1.1) = -1 then ccW tx sz c else ccR tx sz f (ccX tx sz (ccW tx sz c) (hv tx sz (sk tx sz c.1.1)))
/-- well: the place lies in the text; so many creditors and persons -/
def ccOK (sz : Nat) (c : CSt) : Prop := c.1.1 ≤ sz ∧ ∃ cn pn : Nat, cn ≤ 4 ∧ pn ≤ 8 ∧ c.2.1 3 = nI cn ∧ c.2.1 4 = nI pn
theorem rc_le {tx : Nat → Int32} {sz : Nat} {s : RSt} (h : s.1 + 1 ≤ sz) : (rc1 s).1 ≤ sz ∧ (rc2 tx sz s).1 ≤ sz ∧ (rc3 tx sz s).1 ≤ sz ∧ (rc4 tx sz s).1 ≤ sz ∧ (rc5 tx sz s).1 ≤ sz ∧ (rc6 tx sz s).1 ≤ sz := by
  have h1 : (rc1 s).1 ≤ sz := h
  have h2 : (rc2 tx sz s).1 ≤ sz := opN_le h1
  have h3 : (rc3 tx sz s).1 ≤ sz := opN_le h2
  have h4 : (rc4 tx sz s).1 ≤ sz := opN_le h3
  have h5 : (rc5 tx sz s).1 ≤ sz := by
    unfold rc5
    by_cases e : stV tx sz (rc3 tx sz s).1 < stV tx sz (rc2 tx sz s).1
    · rw [if_pos e, opB_1]; exact h4
    · rw [if_neg e]; exact h4
  exact ⟨h1, h2, h3, h4, h5, opN_le h5⟩
theorem rcT_3 {tx : Nat → Int32} {sz cn : Nat} {s : RSt} {rt : Nat → Int32} (h : cdOK cn rt) : rcT tx sz s cn rt 3 = nI (cn + 1) := by
  unfold rcT; rw [if_pos h, upd_at]
theorem rcT_4 {tx : Nat → Int32} {sz cn : Nat} {s : RSt} {rt : Nat → Int32} : rcT tx sz s cn rt 4 = rt 4 := by
  unfold rcT
  by_cases h : cdOK cn rt
  · rw [if_pos h, upd_ne (by decide), upd_ne (by omega), upd_ne (by omega), upd_ne (by omega)]
  · rw [if_neg h]
theorem rpT_3 {g : Prop} [Decidable g] {cn pn : Nat} {rt : Nat → Int32} : rpT g cn pn rt 3 = rt 3 := by
  unfold rpT
  by_cases h : psOK cn pn
  · rw [if_pos h, upd_ne (by decide)]
    by_cases e : g
    · rw [if_pos e, upd_ne (by decide)]
    · rw [if_neg e]
  · rw [if_neg h]
theorem rpT_4 {g : Prop} [Decidable g] {cn pn : Nat} {rt : Nat → Int32} (h : psOK cn pn) : rpT g cn pn rt 4 = nI (pn + 1) := by
  unfold rpT; rw [if_pos h, upd_at]
theorem ccX_ok {tx : Nat → Int32} {sz : Nat} {c : CSt} {x : Int32} (h : ccOK sz c) (hlt : c.1.1 < sz) : ccOK sz (ccX tx sz c x) := by
  obtain ⟨h1, cn, pn, h2, h3, h4, h5⟩ := h
  have hcn : cl (c.2.1 3) = cn := by rw [h4]; exact cl_nI (by omega)
  have hpn : cl (c.2.1 4) = pn := by rw [h5]; exact cl_nI (by omega)
  unfold ccX
  rw [hcn, hpn]
  by_cases e1 : x = 99
  · rw [if_pos e1]
    by_cases e2 : cdOK cn c.2.1
    · refine ⟨?_, cn + 1, pn, by have := e2.1; omega, h3, rcT_3 e2, rcT_4.trans h5⟩
      show (rcS tx sz c.1 cn c.2.1).1 ≤ sz
      unfold rcS; rw [if_pos e2]; exact opS_le (by decide) (rc_le (by omega)).2.2.2.2.2
    · refine ⟨?_, cn, pn, h2, h3, ?_, rcT_4.trans h5⟩
      · show (rcS tx sz c.1 cn c.2.1).1 ≤ sz
        unfold rcS; rw [if_neg e2, opB_1]; exact h1
      · show rcT tx sz c.1 cn c.2.1 3 = _
        unfold rcT; rw [if_neg e2]; exact h4
  rw [if_neg e1]
  by_cases e3 : x = 103 ∨ x = 109
  · rw [if_pos e3]
    by_cases e2 : psOK cn pn
    · refine ⟨?_, cn, pn + 1, h2, by have := e2.1; omega, rpT_3.trans h4, rpT_4 e2⟩
      show (rpS tx sz c.1 cn pn).1 ≤ sz
      unfold rpS; rw [if_pos e2]; exact opS_le (by decide) (psS_le (by omega) cn)
    · refine ⟨?_, cn, pn, h2, h3, rpT_3.trans h4, ?_⟩
      · show (rpS tx sz c.1 cn pn).1 ≤ sz
        unfold rpS; rw [if_neg e2, opB_1]; exact h1
      · show rpT (x = 103) cn pn c.2.1 4 = _
        unfold rpT; rw [if_neg e2]; exact h5
  · rw [if_neg e3]; exact ⟨h1, cn, pn, h2, h3, h4, h5⟩
theorem ccW_ok {tx : Nat → Int32} {sz : Nat} {c : CSt} (h : ccOK sz c) : ccOK sz (ccW tx sz c) := ⟨(sk_le h.1).2, h.2⟩
