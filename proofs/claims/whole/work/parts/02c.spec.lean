/-! what the methods answer, as functions: shared by the class and by the reference -/
abbrev hasB (s : Int32) (c : Nat) : Prop := ((s >>> (nI c &&& 31)) &&& 1) = 1
abbrev inB (x lo hi : Int32) : Prop := lo ≤ x ∧ x ≤ hi
def bitI (c : Nat) : Int32 := 1 <<< (nI c &&& 31)
def lessI (v w : Int32) : Int32 := if v < w then v else w
theorem i64_lt (a b : Int32) : a.toInt64 < b.toInt64 ↔ a < b := by
  rw [Int64.lt_iff_toInt_lt, Int32.lt_iff_toInt_lt, Int32.toInt_toInt64, Int32.toInt_toInt64]
theorem i32_nle {a b : Int32} : ¬ a ≤ b ↔ b < a := by
  rw [Int32.le_iff_toInt_le, Int32.lt_iff_toInt_lt]; omega
theorem i32_nlt {a b : Int32} : ¬ a < b ↔ b ≤ a := by
  rw [Int32.le_iff_toInt_le, Int32.lt_iff_toInt_lt]; omega
/-- sums and sets over the first so many -/
def sumU (w : Nat → Int32) : Nat → Int32
  | 0 => 0
  | k + 1 => sumU w k + w k
def setU (P : Nat → Bool) : Nat → Int32
  | 0 => 0
  | k + 1 => if P k = true then setU P k ||| bitI k else setU P k
theorem sumU_c {w w' : Nat → Int32} : ∀ {n : Nat}, (∀ k, k < n → w k = w' k) → sumU w n = sumU w' n
  | 0, _ => rfl
  | n + 1, h => by
    show sumU w n + w n = sumU w' n + w' n
    rw [sumU_c (fun k hk => h k (by omega)), h n (by omega)]
theorem setU_c {P P' : Nat → Bool} : ∀ {n : Nat}, (∀ k, k < n → P k = P' k) → setU P n = setU P' n
  | 0, _ => rfl
  | n + 1, h => by
    show (if P n = true then setU P n ||| bitI n else setU P n) = (if P' n = true then setU P' n ||| bitI n else setU P' n)
    rw [setU_c (fun k hk => h k (by omega)), h n (by omega)]
theorem or_z (x : Int32) : x ||| 0 = x := by
  apply Int32.toBitVec_inj.mp; simp
theorem setU_t {P : Nat → Bool} {n : Nat} (h : P n = true) : setU P n ||| bitI n = setU P (n + 1) := (if_pos h).symm
theorem setU_f {P : Nat → Bool} {n : Nat} (h : ¬ P n = true) : setU P n ||| 0 = setU P (n + 1) := (or_z _).trans (if_neg h).symm
theorem setU_f' {P : Nat → Bool} {n : Nat} (h : ¬ P n = true) : setU P n = setU P (n + 1) := (if_neg h).symm
/-- a row written up to i -/
def upto (f g : Nat → Int32) (i : Nat) : Nat → Int32 := fun k => if k < i then g k else f k
theorem upto_0 (f g : Nat → Int32) : upto f g 0 = f := by funext k; exact if_neg (by omega)
theorem upto_s (f g : Nat → Int32) (i : Nat) : upd (upto f g i) i (g i) = upto f g (i + 1) := by
  funext k; unfold upd upto
  by_cases h : k = i
  · subst h; rw [if_pos rfl, if_pos (by omega)]
  · rw [if_neg h]
    by_cases h2 : k < i
    · rw [if_pos h2, if_pos (by omega)]
    · rw [if_neg h2, if_neg (by omega)]
theorem upto_at (f g : Nat → Int32) {i k : Nat} (h : i ≤ k) : upto f g i k = f k := if_neg (by omega)
/-- the temper of one to one, and what it is worth -/
def tmG (fl ins o lo hi : Int32) (c : Nat) : Int32 := if hasB fl c then 3 else if hasB ins c ∨ o < lo then 0 else if o ≤ hi then 1 else 2
def wrG (tm g : Int32) : Int32 := if tm = 1 then g else if tm = 2 then -1 else 0
def growI (o r : Int32) : Int32 := lessI (o + o * r / 100) 9999
/-! the reference's rows: t the town, f a state -/
def tm (t f : Nat → Int32) (p c : Nat) : Int32 := tmG (f 52) (f (36 + p)) (f (4 * p + c)) (t (9 + c)) (t (13 + c)) c
def stU (t f : Nat → Int32) (p : Nat) : Nat → Int32 := sumU (fun c => wrG (tm t f p c) (t (17 + c)))
def owU (f : Nat → Int32) (p : Nat) : Nat → Int32 := sumU (fun c => f (4 * p + c))
def sourU (t f : Nat → Int32) (c : Nat) : Nat → Int32 := sumU (fun p => if tm t f p c = 2 then f (4 * p + c) else 0)
def failP (t f : Nat → Int32) (np c : Nat) : Bool := decide (¬ hasB (f 52) c ∧ f (32 + c) < sourU t f c np)
def soursU (t f : Nat → Int32) (np : Nat) : Nat → Int32 := setU (failP t f np)
def growF (t f : Nat → Int32) : Nat → Int32 := upto f (fun k => growI (f k) (t 1)) 32
def zeroF (f : Nat → Int32) : Nat → Int32 := fun k => if 36 ≤ k ∧ k < 44 then 0 else f k
abbrev hasR (s x : Int32) : Prop := ((s >>> (x &&& 31)) &&& 1) = 1
theorem inB_nat {x t : Int32} {k : Nat} (ht : t = nI k) (hk : k < 1073741824) (h : inB x 0 (t - 1)) : ∃ j : Nat, j < k ∧ x = nI j := by
  obtain ⟨h1, h2⟩ := h
  have h3 : ¬ x < 0 := i32_nlt.mpr h1
  obtain ⟨j, hj, rfl⟩ := nI_of h3
  refine ⟨j, ?_, rfl⟩
  rw [ht, Int32.le_iff_toInt_le, show (1 : Int32) = nI 1 from rfl, pk_sub_toInt (by omega) (by omega), nI_toInt hj] at h2
  omega
theorem inB_of {t : Int32} {k j : Nat} (ht : t = nI k) (hk : k < 1073741824) (h : j < k) : inB (nI j) 0 (t - 1) := by
  refine ⟨nI_pos' (by omega), ?_⟩
  rw [ht, Int32.le_iff_toInt_le, show (1 : Int32) = nI 1 from rfl, pk_sub_toInt (by omega) (by omega), nI_toInt (by omega)]
  omega
/-- an int between two small numbers is one of them -/
theorem inB_rng {x lo hi : Int32} {a b : Nat} (hlo : lo = nI a) (hhi : hi = nI b) (ha : a < 2147483648) (hb : b < 2147483648) (h : inB x lo hi) : ∃ j : Nat, a ≤ j ∧ j ≤ b ∧ x = nI j := by
  obtain ⟨h1, h2⟩ := h
  subst hlo hhi
  have h3 : ¬ x < 0 := i32_nlt.mpr (by
    have := nI_pos' ha
    rw [Int32.le_iff_toInt_le] at *; omega)
  obtain ⟨j, hj, rfl⟩ := nI_of h3
  exact ⟨j, (nI_leI ha hj).mp h1, (nI_leI hj hb).mp h2, rfl⟩
/-- a row written from lo up to i -/
def rng (f g : Nat → Int32) (lo i : Nat) : Nat → Int32 := fun k => if lo ≤ k ∧ k < i then g k else f k
theorem rng_0 (f g : Nat → Int32) (lo : Nat) : rng f g lo lo = f := by funext k; exact if_neg (by omega)
theorem rng_v {f g : Nat → Int32} {lo i : Nat} {v : Int32} (h : lo ≤ i) (hv : v = g i) : upd (rng f g lo i) i v = rng f g lo (i + 1) := by
  subst hv
  funext k; unfold upd rng
  by_cases h1 : k = i
  · subst h1; rw [if_pos rfl, if_pos (by omega)]
  · rw [if_neg h1]
    by_cases h2 : lo ≤ k ∧ k < i
    · rw [if_pos h2, if_pos (by omega)]
    · rw [if_neg h2, if_neg (by omega)]
theorem rng_in {f g : Nat → Int32} {lo i k : Nat} (h1 : lo ≤ k) (h2 : k < i) : rng f g lo i k = g k := if_pos ⟨h1, h2⟩
theorem rng_out {f g : Nat → Int32} {lo i k : Nat} (h : k < lo ∨ i ≤ k) : rng f g lo i k = f k := if_neg (by omega)
theorem cpy_0 (f g : Nat → Int32) (sp dp : Nat) : va_cpy f g sp dp 0 = g := by funext k; exact if_neg (by omega)
theorem cpy_s (f g : Nat → Int32) (sp dp i : Nat) : upd (va_cpy f g sp dp i) (dp + i) (f (sp + i)) = va_cpy f g sp dp (i + 1) := by
  funext k; unfold upd va_cpy
  by_cases h : k = dp + i
  · subst h; rw [if_pos rfl, if_pos (by omega)]; congr 1; omega
  · rw [if_neg h]
    by_cases h2 : dp ≤ k ∧ k < dp + i
    · rw [if_pos h2, if_pos (by omega)]
    · rw [if_neg h2, if_neg (by omega)]
