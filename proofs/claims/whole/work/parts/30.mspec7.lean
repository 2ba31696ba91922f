/-! reading a text: letters, blanks, figures; what a step leaves -/
def jF (a b s f v w : Int32) : Nat → Int32 := fun k => if k = 16 then a else if k = 17 then b else if k = 18 then s else if k = 19 then f else if k = 20 then v else w
def hv (tx : Nat → Int32) (sz a : Nat) : Int32 := if a < sz then tx a else -1
def skN (tx : Nat → Int32) (sz : Nat) : Nat → Nat → Nat
  | 0, a => a
  | f + 1, a => if hv tx sz a = 32 then skN tx sz f (a + 1) else a
def sk (tx : Nat → Int32) (sz a : Nat) : Nat := skN tx sz (sz - a) a
def dgN (tx : Nat → Int32) (sz : Nat) : Nat → Nat → Nat
  | 0, a => a
  | f + 1, a => if inB (hv tx sz a) 48 57 then dgN tx sz f (a + 1) else a
def dg (tx : Nat → Int32) (sz a : Nat) : Nat := dgN tx sz (sz - a) a
def vlU (tx : Nat → Int32) (sz b : Nat) : Nat → Int32
  | 0 => 0
  | k + 1 => if k < 3 then 10 * vlU tx sz b k + hv tx sz (b + k) - 48 else vlU tx sz b k
theorem hv_in {tx : Nat → Int32} {sz a : Nat} (h : ¬ hv tx sz a = -1) : a < sz := Nat.lt_of_not_le (fun q => h (if_neg (by omega)))
theorem hv_32 {tx : Nat → Int32} {sz a : Nat} (h : hv tx sz a = 32) : a < sz := hv_in (by rw [h]; decide)
theorem hv_dg {tx : Nat → Int32} {sz a : Nat} (h : inB (hv tx sz a) 48 57) : a < sz := hv_in (fun q => by rw [q] at h; exact absurd h.1 (by decide))
theorem skN_x {tx : Nat → Int32} {sz a : Nat} (h : ¬ hv tx sz a = 32) : ∀ f, skN tx sz f a = a
  | 0 => rfl
  | _ + 1 => if_neg h
theorem skN_s {tx : Nat → Int32} {sz a : Nat} (h : hv tx sz a = 32) : skN tx sz (sz - a) a = skN tx sz (sz - (a + 1)) (a + 1) := by
  have := hv_32 h
  rw [show sz - a = (sz - (a + 1)) + 1 by omega]; exact if_pos h
theorem dgN_x {tx : Nat → Int32} {sz a : Nat} (h : ¬ inB (hv tx sz a) 48 57) : ∀ f, dgN tx sz f a = a
  | 0 => rfl
  | _ + 1 => if_neg h
theorem dgN_s {tx : Nat → Int32} {sz a : Nat} (h : inB (hv tx sz a) 48 57) : dgN tx sz (sz - a) a = dgN tx sz (sz - (a + 1)) (a + 1) := by
  have := hv_dg h
  rw [show sz - a = (sz - (a + 1)) + 1 by omega]; exact if_pos h
theorem skN_le {tx : Nat → Int32} {sz : Nat} : ∀ f a, a ≤ sz → a ≤ skN tx sz f a ∧ skN tx sz f a ≤ sz
  | 0, a, h => ⟨Nat.le_refl _, h⟩
  | f + 1, a, h => by
    show a ≤ (if _ then _ else _) ∧ (if _ then _ else _) ≤ sz
    by_cases e : hv tx sz a = 32
    · rw [if_pos e]; have h32 := hv_32 e; have q := skN_le (tx := tx) (sz := sz) f (a + 1) (by omega); omega
    · rw [if_neg e]; exact ⟨Nat.le_refl _, h⟩
theorem dgN_le {tx : Nat → Int32} {sz : Nat} : ∀ f a, a ≤ sz → a ≤ dgN tx sz f a ∧ dgN tx sz f a ≤ sz
  | 0, a, h => ⟨Nat.le_refl _, h⟩
  | f + 1, a, h => by
    show a ≤ (if _ then _ else _) ∧ (if _ then _ else _) ≤ sz
    by_cases e : inB (hv tx sz a) 48 57
    · rw [if_pos e]; have h32 := hv_dg e; have q := dgN_le (tx := tx) (sz := sz) f (a + 1) (by omega); omega
    · rw [if_neg e]; exact ⟨Nat.le_refl _, h⟩
theorem sk_le {tx : Nat → Int32} {sz a : Nat} (h : a ≤ sz) : a ≤ sk tx sz a ∧ sk tx sz a ≤ sz := skN_le _ _ h
theorem dg_le {tx : Nat → Int32} {sz a : Nat} (h : a ≤ sz) : a ≤ dg tx sz a ∧ dg tx sz a ≤ sz := dgN_le _ _ h
abbrev isD (tx : Nat → Int32) (sz a : Nat) : Prop := inB (hv tx sz (sk tx sz a)) 48 57
def stN (tx : Nat → Int32) (sz a : Nat) : Nat := if isD tx sz a then dg tx sz (sk tx sz a) else if hv tx sz (sk tx sz a) < 0 then sk tx sz a else sk tx sz a + 1
def stS (tx : Nat → Int32) (sz a : Nat) : Int32 := if isD tx sz a then 48 else hv tx sz (sk tx sz a)
def stF (tx : Nat → Int32) (sz a : Nat) : Int32 := if isD tx sz a then nI (dg tx sz (sk tx sz a) - sk tx sz a) else 0
def stV (tx : Nat → Int32) (sz a : Nat) : Int32 := if isD tx sz a then vlU tx sz (sk tx sz a) (dg tx sz (sk tx sz a) - sk tx sz a) else 0
theorem stN_le {tx : Nat → Int32} {sz a : Nat} (h : a ≤ sz) : stN tx sz a ≤ sz := by
  have h1 := sk_le (tx := tx) h
  unfold stN
  by_cases e : isD tx sz a
  · rw [if_pos e]; exact (dg_le h1.2).2
  · rw [if_neg e]
    by_cases e2 : hv tx sz (sk tx sz a) < 0
    · rw [if_pos e2]; exact h1.2
    · rw [if_neg e2]
      have : sk tx sz a < sz := hv_in (fun q => e2 (by rw [q]; decide))
      omega
/-! a number, an end -/
abbrev nuOK (tx : Nat → Int32) (sz a : Nat) (lo hi : Int32) : Prop := stS tx sz a = 48 ∧ ¬ 3 < stF tx sz a ∧ inB (stV tx sz a) lo hi
def nuW (tx : Nat → Int32) (sz a : Nat) (lo hi w : Int32) : Int32 := if ¬ stS tx sz a = 48 then 1 else if ¬ nuOK tx sz a lo hi then 2 else w
def enW (tx : Nat → Int32) (sz a : Nat) (w : Int32) : Int32 := if stS tx sz a = 59 then w else 1
def nuR (tx : Nat → Int32) (sz a : Nat) (lo hi : Int32) (pl : Nat) (r : Nat → Int32) : Nat → Int32 := if nuOK tx sz a lo hi then upd r pl (stV tx sz a) else r
