/-! cards, as the class counts them -/
theorem nar_bI (P : Prop) [Decidable P] : vp_nar .boolean (bI P) = bI P := by
  unfold bI; by_cases h : P
  · rw [if_pos h]; decide
  · rw [if_neg h]; decide
theorem bI_01 {P : Prop} [Decidable P] {x : Int32} (hx : x = 0 ∨ x = 1) : bI P = x ↔ (P ↔ x = 1) := by
  rcases hx with rfl | rfl
  · rw [bI_0]; exact ⟨fun h => ⟨fun q => absurd q h, fun q => absurd q (by decide)⟩, fun h q => absurd (h.mp q) (by decide)⟩
  · rw [bI_1]; exact ⟨fun h => ⟨fun _ => rfl, fun _ => h⟩, fun h => h.mpr rfl⟩
def siN (P : Nat → Bool) : Nat → Nat
  | 0 => 0
  | k + 1 => if P k = true then siN P k + 1 else siN P k
def siS (P : Nat → Bool) (f : Nat → Int32) : Nat → Nat → Int32
  | 0 => f
  | k + 1 => if P k = true then upd (siS P f k) (siN P k) (nI k) else siS P f k
theorem siN_le (P : Nat → Bool) : ∀ k, siN P k ≤ k
  | 0 => Nat.le_refl _
  | k + 1 => by
    show (if P k = true then siN P k + 1 else siN P k) ≤ k + 1
    have := siN_le P k
    split <;> omega
theorem siN_t {P : Nat → Bool} {k : Nat} (h : P k = true) : siN P (k + 1) = siN P k + 1 := if_pos h
theorem siN_f {P : Nat → Bool} {k : Nat} (h : ¬ P k = true) : siN P (k + 1) = siN P k := if_neg h
theorem siS_t {P : Nat → Bool} {f : Nat → Int32} {k : Nat} (h : P k = true) : upd (siS P f k) (siN P k) (nI k) = siS P f (k + 1) := (if_pos h).symm
theorem siS_f {P : Nat → Bool} {f : Nat → Int32} {k : Nat} (h : ¬ P k = true) : siS P f k = siS P f (k + 1) := (if_neg h).symm
theorem cntU_si (P : Nat → Bool) : ∀ k, cntU P k = nI (siN P k)
  | 0 => rfl
  | k + 1 => by
    show (if P k = true then cntU P k + 1 else cntU P k) = nI (if P k = true then siN P k + 1 else siN P k)
    rw [cntU_si P k]
    by_cases h : P k = true
    · rw [if_pos h, if_pos h]; exact nI_add (siN P k) 1
    · rw [if_neg h, if_neg h]
/-- the least and the most of those sifted -/
theorem siS_fst {P : Nat → Bool} {f : Nat → Int32} : ∀ k, k < 2147483648 → (if siN P k = 0 then -1 else siS P f k 0) = fstU P k
  | 0, _ => rfl
  | k + 1, hk => by
    have ih := siS_fst (P := P) (f := f) k (by omega)
    by_cases h : P k = true
    · rw [siN_t h, if_neg (by omega), ← siS_t h]
      show _ = if P k = true then (if fstU P k = -1 then nI k else fstU P k) else fstU P k
      rw [if_pos h, ← ih]
      by_cases h0 : siN P k = 0
      · rw [if_pos h0, if_pos rfl, h0, upd_at]
      · rw [if_neg h0, upd_ne (by omega)]
        have key : ¬ siS P f k 0 = -1 := by
          have aux : ∀ j, j ≤ k → ¬ siN P j = 0 → ¬ siS P f j 0 = -1 := by
            intro j
            induction j with
            | zero => intro _ q; exact absurd rfl q
            | succ j ihj =>
              intro hj q
              by_cases hp : P j = true
              · rw [← siS_t hp]
                by_cases hz : siN P j = 0
                · rw [hz, upd_at]; exact nI_m1 (by omega)
                · rw [upd_ne (by omega)]; exact ihj (by omega) hz
              · rw [← siS_f hp]; rw [siN_f hp] at q; exact ihj (by omega) q
          exact aux k (Nat.le_refl _) h0
        rw [if_neg key]
    · rw [siN_f h, ← siS_f h, ih]
      exact (if_neg h).symm
theorem siS_lst {P : Nat → Bool} {f : Nat → Int32} : ∀ k, (if siN P k = 0 then -1 else siS P f k (siN P k - 1)) = lstU P k
  | 0 => rfl
  | k + 1 => by
    have ih := siS_lst (P := P) (f := f) k
    by_cases h : P k = true
    · rw [siN_t h, if_neg (by omega), ← siS_t h, show siN P k + 1 - 1 = siN P k by omega, upd_at]
      exact (if_pos h).symm
    · rw [siN_f h, ← siS_f h, ih]
      exact (if_neg h).symm
/-! which quarter to look at, as the class counts it -/
def grM (t s : Nat → Int32) (m q : Nat) : Nat → Int32 := fun k => if k < m then grU (t 1) (s k) q else s k
theorem grM_x (t s : Nat → Int32) (m q : Nat) : upto (grM t s m q) (grM t s m (q + 1)) m = grM t s m (q + 1) := by
  funext k; unfold upto
  by_cases h : k < m
  · rw [if_pos h]
  · rw [if_neg h]; unfold grM; rw [if_neg h, if_neg h]
theorem grM_0 (t s : Nat → Int32) (m : Nat) : grM t s m 0 = s := by
  funext k; unfold grM
  by_cases h : k < m
  · rw [if_pos h]; rfl
  · rw [if_neg h]
theorem grM_at {t s : Nat → Int32} {m q i : Nat} (h : i < m) : upto (grM t s m q) (grM t s m (q + 1)) i i = grU (t 1) (s i) q := by
  rw [upto_at _ _ (Nat.le_refl _)]; exact if_pos h
theorem grM_s {t s : Nat → Int32} {m q i : Nat} (h : i < m) {v : Int32} (hv : v = growI (grU (t 1) (s i) q) (t 1)) : upd (upto (grM t s m q) (grM t s m (q + 1)) i) i v = upto (grM t s m q) (grM t s m (q + 1)) (i + 1) :=
  upto_v (by rw [hv]; exact (if_pos h).symm)
def bkQ (t s : Nat → Int32) (c q : Nat) (i : Nat) : Bool := decide (civB t c (s i) q)
def bkG (t s : Nat → Int32) (c m : Nat) (F : Int32) (q : Nat) : Int32 := if cntU (bkQ t s c q) m < F - cntU (bkQ t s c q) m then F - cntU (bkQ t s c q) m else cntU (bkQ t s c q) m
def bkF (t s : Nat → Int32) (c m : Nat) (F : Int32) : Nat → Int32
  | 0 => F
  | q + 1 => if bkG t s c m F q < bkF t s c m F q then bkG t s c m F q else bkF t s c m F q
def bkW (t s : Nat → Int32) (c m : Nat) (F : Int32) : Nat → Int32
  | 0 => -1
  | q + 1 => if bkG t s c m F q < bkF t s c m F q then nI q else bkW t s c m F q
theorem cntU_s (P : Nat → Bool) (k : Nat) : cntU P (k + 1) = if P k = true then cntU P k + 1 else cntU P k := rfl
theorem cntU_c {P Q : Nat → Bool} {n : Nat} (h : ∀ k, k < n → P k = Q k) : cntU P n = cntU Q n := by
  induction n with
  | zero => rfl
  | succ n ih => rw [cntU_s, cntU_s, h n (by omega), ih (fun k hk => h k (by omega))]
theorem bk_cnt {t s : Nat → Int32} {P Q : Nat → Bool} {c q : Nat} (hQ : ∀ v, Q v = (P v && decide (civB t c (nI v) q))) (k : Nat) : cntU (bkQ t (siS P s k) c q) (siN P k) = cntU Q k := by
  induction k with
  | zero => rfl
  | succ k ih =>
    rw [cntU_s Q, hQ k]
    by_cases h : P k = true
    · have e1 : cntU (bkQ t (siS P s (k + 1)) c q) (siN P k) = cntU (bkQ t (siS P s k) c q) (siN P k) := by
        refine cntU_c (fun j hj => ?_)
        unfold bkQ; rw [← siS_t h, upd_ne (by omega)]
      have e3 : bkQ t (siS P s (k + 1)) c q (siN P k) = decide (civB t c (nI k) q) := by
        unfold bkQ; rw [← siS_t h, upd_at]
      rw [siN_t h, cntU_s, e1, e3, ih, h, Bool.true_and]
    · have hf : P k = false := by simpa using h
      rw [siN_f h, ← siS_f h, ih, hf, Bool.false_and, if_neg (by decide)]
theorem max_sym (x y : Int32) : (if x < y then y else x) = (if y < x then x else y) := by
  by_cases h : x < y
  · rw [if_pos h, if_neg (fun q => by rw [Int32.lt_iff_toInt_lt] at h q; omega)]
  · rw [if_neg h]
    by_cases h2 : y < x
    · rw [if_pos h2]
    · rw [if_neg h2]
      apply Int32.toInt_inj.mp
      rw [Int32.lt_iff_toInt_lt] at h h2; omega
theorem min_lt (f g : Int32) : lessI f g = if g < f then g else f := by
  unfold lessI
  by_cases h : f < g
  · rw [if_pos h, if_neg (fun q => by rw [Int32.lt_iff_toInt_lt] at h q; omega)]
  · rw [if_neg h]
    by_cases h2 : g < f
    · rw [if_pos h2]
    · rw [if_neg h2]
      apply Int32.toInt_inj.mp
      rw [Int32.lt_iff_toInt_lt] at h h2; omega
theorem bkG_eq {t cd s : Nat → Int32} {cm p c q : Nat} : bkG t (siS (fitP t cd cm p c) s 100) c (siN (fitP t cd cm p c) 100) (nI (siN (fitP t cd cm p c) 100)) q = lkG t cd cm p c q := by
  unfold bkG lkG lkC lkA
  rw [bk_cnt (Q := civP t cd cm p c q) (fun v => rfl), cntU_si (fitP t cd cm p c) 100]
  exact max_sym _ _
theorem bkF_eq {t cd s : Nat → Int32} {cm p c : Nat} : ∀ q, bkF t (siS (fitP t cd cm p c) s 100) c (siN (fitP t cd cm p c) 100) (nI (siN (fitP t cd cm p c) 100)) q = lkF t cd cm p c q
  | 0 => (cntU_si _ _).symm
  | q + 1 => by
    show (if bkG _ _ _ _ _ q < bkF _ _ _ _ _ q then bkG _ _ _ _ _ q else bkF _ _ _ _ _ q) = lessI (lkF t cd cm p c q) (lkG t cd cm p c q)
    rw [bkG_eq, bkF_eq q, min_lt]
theorem bkW_eq {t cd s : Nat → Int32} {cm p c : Nat} : ∀ q, bkW t (siS (fitP t cd cm p c) s 100) c (siN (fitP t cd cm p c) 100) (nI (siN (fitP t cd cm p c) 100)) q = lkW t cd cm p c q
  | 0 => rfl
  | q + 1 => by
    show (if bkG _ _ _ _ _ q < bkF _ _ _ _ _ q then nI q else bkW _ _ _ _ _ q) = if lkG t cd cm p c q < lkF t cd cm p c q then nI q else lkW t cd cm p c q
    rw [bkG_eq, bkF_eq q, bkW_eq q]
