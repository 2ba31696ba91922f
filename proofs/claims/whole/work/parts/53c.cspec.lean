/-! a state that stands: what is out of use is nothing, what is owed and what a purse has keep their bounds -/
def okS (t n : Nat → Int32) (nc np : Nat) : Prop :=
  (∀ p c, p < 8 → c < 4 → (np ≤ p ∨ nc ≤ c ∨ hasB (n 52) c) → n (4 * p + c) = 0) ∧
  (∀ p, np ≤ p → p < 8 → n (36 + p) = 0 ∧ (n (44 + p) = -1 ∨ t 0 = 0)) ∧
  (∀ k, k < 36 → ∃ j : Nat, j ≤ 9999 ∧ n k = nI j) ∧
  lt16 (n 52) ∧
  (∀ p, p < np → n (44 + p) = -1 ∨ ∃ q, q < np ∧ q ≠ p ∧ n (44 + p) = nI q ∧ n (44 + q) = nI p ∧ (hasB (t 21) p ↔ ¬ hasB (t 21) q)) ∧
  (∀ p c, p < np → c < 4 → ¬ hasB (t 21) p → ¬ n (44 + p) = -1 → n (4 * p + c) = 0)
theorem less0 : lessI 0 9999 = 0 := by decide
theorem less_le {j : Nat} (h : j ≤ 9999) : lessI (nI j) 9999 = nI j := by
  show (if nI j < nI 9999 then nI j else nI 9999) = nI j
  by_cases e : j < 9999
  · rw [if_pos ((nI_ltI (by omega) (by decide)).mpr e)]
  · rw [if_neg (fun q => e ((nI_ltI (by omega) (by decide)).mp q)), show j = 9999 by omega]
theorem less_less (x : Int32) : lessI (lessI x 9999) 9999 = lessI x 9999 := by
  unfold lessI
  by_cases e : x < 9999
  · rw [if_pos e, if_pos e]
  · rw [if_neg e, if_neg (by decide)]
theorem grow0 (r : Int32) : growI 0 r = 0 := by
  unfold growI
  rw [Int32.zero_mul]; decide
theorem okS_z {t n : Nat → Int32} {nc np : Nat} (hO : okS t n nc np) {k : Nat} (hk : k < 32) (h : np ≤ k / 4 ∨ nc ≤ k % 4 ∨ hasB (n 52) (k % 4)) : n k = 0 := by
  have := hO.1 (k / 4) (k % 4) (by omega) (by omega) h
  rwa [show 4 * (k / 4) + k % 4 = k by omega] at this
/-! a wedding, a divorce: columns that are not in use -/
theorem wdU_st {t n : Nat → Int32} {nc np g m c : Nat} (hO : okS t n nc np) (hg : g < 8) (hm : m < 8) (h : nc ≤ c) (hc : c < 4) : wdU n g m (c + 1) = wdU n g m c := by
  have e1 : wdU n g m c (4 * g + c) = 0 := by
    rw [wdU_o c (fun j hj => ⟨by omega, by omega⟩)]; exact hO.1 g c hg hc (Or.inr (Or.inl h))
  have e2 : wdU n g m c (4 * m + c) = 0 := by
    rw [wdU_o c (fun j hj => ⟨by omega, by omega⟩)]; exact hO.1 m c hm hc (Or.inr (Or.inl h))
  show upd (upd (wdU n g m c) (4 * g + c) (lessI (wdU n g m c (4 * g + c) + wdU n g m c (4 * m + c)) 9999)) (4 * m + c) 0 = _
  rw [e1, e2, show lessI (0 + 0) 9999 = 0 by decide, upd_self e1, upd_self e2]
theorem wdU_4 {t n : Nat → Int32} {nc np g m : Nat} (hO : okS t n nc np) (hc : nc ≤ 4) (hg : g < 8) (hm : m < 8) : wdU n g m 4 = wdU n g m nc := by
  have key : ∀ d, nc + d ≤ 4 → wdU n g m (nc + d) = wdU n g m nc := by
    intro d
    induction d with
    | zero => intro _; rfl
    | succ d ih => intro h; rw [show nc + (d + 1) = (nc + d) + 1 by omega, wdU_st hO hg hm (by omega) (by omega), ih (by omega)]
  have := key (4 - nc) (by omega)
  rwa [show nc + (4 - nc) = 4 by omega] at this
theorem dvU_o {f : Nat → Int32} {g m k : Nat} : ∀ c, (∀ j, j < c → k ≠ 4 * g + j ∧ k ≠ 4 * m + j) → dvU f g m c k = f k
  | 0, _ => rfl
  | c + 1, h => by
    show upd (upd (dvU f g m c) (4 * m + c) _) (4 * g + c) _ k = f k
    rw [upd_ne (h c (by omega)).1, upd_ne (h c (by omega)).2, dvU_o c (fun j hj => h j (by omega))]
theorem dvU_st {t n : Nat → Int32} {nc np g m c : Nat} (hO : okS t n nc np) (hg : g < 8) (hm : m < 8) (h : nc ≤ c) (hc : c < 4) : dvU n g m (c + 1) = dvU n g m c := by
  have e1 : dvU n g m c (4 * g + c) = 0 := by
    rw [dvU_o c (fun j hj => ⟨by omega, by omega⟩)]; exact hO.1 g c hg hc (Or.inr (Or.inl h))
  have e2 : dvU n g m c (4 * m + c) = 0 := by
    rw [dvU_o c (fun j hj => ⟨by omega, by omega⟩)]; exact hO.1 m c hm hc (Or.inr (Or.inl h))
  show upd (upd (dvU n g m c) (4 * m + c) (dvU n g m c (4 * g + c) / 2)) (4 * g + c) (upd (dvU n g m c) (4 * m + c) (dvU n g m c (4 * g + c) / 2) (4 * g + c) - dvU n g m c (4 * g + c) / 2) = _
  rw [e1, show (0 : Int32) / 2 = 0 by decide, upd_self e2, e1, show (0 : Int32) - 0 = 0 by decide, upd_self e1]
theorem dvU_4 {t n : Nat → Int32} {nc np g m : Nat} (hO : okS t n nc np) (hc : nc ≤ 4) (hg : g < 8) (hm : m < 8) : dvU n g m 4 = dvU n g m nc := by
  have key : ∀ d, nc + d ≤ 4 → dvU n g m (nc + d) = dvU n g m nc := by
    intro d
    induction d with
    | zero => intro _; rfl
    | succ d ih => intro h; rw [show nc + (d + 1) = (nc + d) + 1 by omega, dvU_st hO hg hm (by omega) (by omega), ih (by omega)]
  have := key (4 - nc) (by omega)
  rwa [show nc + (4 - nc) = 4 by omega] at this
theorem dvU_s {t n : Nat → Int32} {nc np g m i : Nat} (hO : okS t n nc np) (hg : g < 8) (hm : m < 8) (hne : g ≠ m) (hi : i < 4) : upd (upd (dvU n g m i) (4 * m + i) (lessI (dvU n g m i (4 * g + i) / 2) 9999)) (4 * g + i) (lessI (upd (dvU n g m i) (4 * m + i) (lessI (dvU n g m i (4 * g + i) / 2) 9999) (4 * g + i) - dvU n g m i (4 * g + i) / 2) 9999) = dvU n g m (i + 1) := by
  show _ = upd (upd (dvU n g m i) (4 * m + i) (dvU n g m i (4 * g + i) / 2)) (4 * g + i) (upd (dvU n g m i) (4 * m + i) (dvU n g m i (4 * g + i) / 2) (4 * g + i) - dvU n g m i (4 * g + i) / 2)
  obtain ⟨j, hj, ej⟩ := hO.2.2.1 (4 * g + i) (by omega)
  have e1 : dvU n g m i (4 * g + i) = nI j := by
    rw [dvU_o i (fun j hj => ⟨by omega, by omega⟩)]; exact ej
  have e2 : (nI j : Int32) / 2 = nI (j / 2) := pk_div (d := 2) (by omega) (by decide) (by decide)
  have e3 : nI j - nI (j / 2) = nI (j - j / 2) := pk_sub (by omega)
  rw [upd_ne (show 4 * g + i ≠ 4 * m + i by omega), upd_ne (show 4 * g + i ≠ 4 * m + i by omega), e1, e2, less_le (by omega), e3, less_le (by omega)]
/-! forgiven -/
def fgF (n : Nat → Int32) (c i : Nat) : Nat → Int32 := fun k => if k < 4 * i ∧ k % 4 = c then 0 else n k
theorem fgF_0 (n : Nat → Int32) (c : Nat) : fgF n c 0 = n := by funext k; exact if_neg (by omega)
theorem fgF_s {n : Nat → Int32} {c i : Nat} (hc : c < 4) : upd (fgF n c i) (4 * i + c) 0 = fgF n c (i + 1) := by
  funext k; unfold upd fgF
  by_cases h : k = 4 * i + c
  · rw [if_pos h, if_pos (by omega)]
  · rw [if_neg h]
    by_cases h2 : k < 4 * i ∧ k % 4 = c
    · rw [if_pos h2, if_pos (by omega)]
    · rw [if_neg h2, if_neg (by omega)]
def fgS (P : Nat → Bool) (f : Nat → Int32) (np i : Nat) : Nat → Int32 := fun k => if k < 4 * np ∧ k % 4 < i ∧ P (k % 4) = true then 0 else f k
theorem fgS_0 (P : Nat → Bool) (f : Nat → Int32) (np : Nat) : fgS P f np 0 = f := by funext k; exact if_neg (by omega)
theorem fgS_hi {P : Nat → Bool} {f : Nat → Int32} {np i k : Nat} (hp : np ≤ 8) (h : 32 ≤ k) : fgS P f np i k = f k := if_neg (by omega)
theorem fgS_t {P : Nat → Bool} {f : Nat → Int32} {np i : Nat} (h : P i = true) : fgF (fgS P f np i) i np = fgS P f np (i + 1) := by
  funext k; unfold fgF fgS
  by_cases h1 : k < 4 * np ∧ k % 4 = i
  · rw [if_pos h1, if_pos ⟨h1.1, by omega, by rw [h1.2]; exact h⟩]
  · rw [if_neg h1]
    by_cases h2 : k < 4 * np ∧ k % 4 < i ∧ P (k % 4) = true
    · rw [if_pos h2, if_pos ⟨h2.1, by omega, h2.2.2⟩]
    · rw [if_neg h2, if_neg (fun q => h2 ⟨q.1, by omega, q.2.2⟩)]
theorem fgS_f {P : Nat → Bool} {f : Nat → Int32} {np i : Nat} (h : ¬ P i = true) : fgS P f np i = fgS P f np (i + 1) := by
  funext k; unfold fgS
  by_cases h2 : k < 4 * np ∧ k % 4 < i ∧ P (k % 4) = true
  · rw [if_pos h2, if_pos ⟨h2.1, by omega, h2.2.2⟩]
  · rw [if_neg h2, if_neg (fun q => h2 ⟨q.1, by
      rcases Nat.lt_or_ge (k % 4) i with z | z
      · exact z
      · exact absurd (show P i = true by rw [show i = k % 4 by omega]; exact q.2.2) h, q.2.2⟩)]
theorem fgS_so {t : Nat → Int32} {P : Nat → Bool} {f : Nat → Int32} {np i : Nat} (hi : i < 4) (hp : np ≤ 8) : sourU t (fgS P f np i) i np = sourU t f i np := by
  refine sumU_c (fun p hp' => ?_)
  have e1 : fgS P f np i (4 * p + i) = f (4 * p + i) := if_neg (by omega)
  unfold tm
  rw [e1, fgS_hi hp (by omega), fgS_hi hp (by omega)]
/-! a quarter, person by person -/
def cqI (t f : Nat → Int32) (p : Nat) : Nat → Nat → Int32
  | 0 => f
  | c + 1 => upd (cqI t f p c) (4 * p + c) (lessI (growI (cqI t f p c (4 * p + c)) (t 1)) 9999)
def cqP (t n : Nat → Int32) (nc : Nat) : Nat → Nat → Int32
  | 0 => n
  | p + 1 => cqI t (upd (cqP t n nc p) (36 + p) 0) p nc
theorem cqI_at {t f : Nat → Int32} {p : Nat} (k : Nat) : ∀ c, cqI t f p c k = if 4 * p ≤ k ∧ k < 4 * p + c then growI (f k) (t 1) else f k
  | 0 => (if_neg (by omega)).symm
  | c + 1 => by
    show upd (cqI t f p c) (4 * p + c) (lessI (growI (cqI t f p c (4 * p + c)) (t 1)) 9999) k = _
    by_cases h : k = 4 * p + c
    · subst h
      rw [upd_at, cqI_at (4 * p + c) c, if_neg (by omega), if_pos (by omega)]
      exact less_less _
    · rw [upd_ne h, cqI_at k c]
      by_cases h2 : 4 * p ≤ k ∧ k < 4 * p + c
      · rw [if_pos h2, if_pos (by omega)]
      · rw [if_neg h2, if_neg (by omega)]
theorem cqP_at {t n : Nat → Int32} {nc : Nat} (hc : nc ≤ 4) (k : Nat) : ∀ p, p ≤ 8 → cqP t n nc p k = if 36 ≤ k ∧ k < 36 + p then 0 else if k < 4 * p ∧ k % 4 < nc then growI (n k) (t 1) else n k
  | 0, _ => by rw [if_neg (by omega), if_neg (by omega)]; rfl
  | p + 1, hp => by
    show cqI t (upd (cqP t n nc p) (36 + p) 0) p nc k = _
    have ih := cqP_at (t := t) (n := n) hc k p (by omega)
    rw [cqI_at]
    by_cases h1 : 4 * p ≤ k ∧ k < 4 * p + nc
    · rw [if_pos h1, if_neg (by omega), if_pos (by omega), upd_ne (by omega), ih, if_neg (by omega), if_neg (by omega)]
    · rw [if_neg h1]
      by_cases h2 : k = 36 + p
      · rw [h2, upd_at, if_pos (by omega)]
      · rw [upd_ne h2, ih]
        by_cases h3 : 36 ≤ k ∧ k < 36 + p
        · rw [if_pos h3, if_pos (by omega)]
        · rw [if_neg h3, if_neg (show ¬ (36 ≤ k ∧ k < 36 + (p + 1)) by omega)]
          by_cases h4 : k < 4 * p ∧ k % 4 < nc
          · rw [if_pos h4, if_pos (by omega)]
          · rw [if_neg h4, if_neg (by omega)]
theorem qg2_at (t n : Nat → Int32) (k : Nat) : qg2 t n k = if 36 ≤ k ∧ k < 44 then 0 else if k < 32 then growI (n k) (t 1) else n k := rfl
theorem cqP_eq {t n : Nat → Int32} {nc np : Nat} (hO : okS t n nc np) (hc : nc ≤ 4) (hp : np ≤ 8) : cqP t n nc np = qg2 t n := by
  funext k
  rw [cqP_at hc k np hp, qg2_at]
  by_cases h1 : 36 ≤ k ∧ k < 36 + np
  · rw [if_pos h1, if_pos (by omega)]
  rw [if_neg h1]
  by_cases h2 : 36 ≤ k ∧ k < 44
  · rw [if_pos h2, if_neg (by omega)]
    have := (hO.2.1 (k - 36) (by omega) (by omega)).1
    rwa [show 36 + (k - 36) = k by omega] at this
  rw [if_neg h2]
  by_cases h3 : k < 32
  · rw [if_pos h3]
    by_cases h4 : k < 4 * np ∧ k % 4 < nc
    · rw [if_pos h4]
    · rw [if_neg h4, okS_z hO h3 (by omega), grow0]
  · rw [if_neg h3, if_neg (by omega)]
theorem has_setU {P : Nat → Bool} {c : Nat} (hc : c < 32) : ∀ n, n ≤ 32 → (hasB (setU P n) c ↔ c < n ∧ P c = true)
  | 0, _ => ⟨fun h => absurd h (by
      rw [has_bt hc]; show ¬ bt 0 c = true
      simp [bt]), fun h => absurd h.1 (by omega)⟩
  | n + 1, hn => by
    have ih := has_setU (P := P) hc n (by omega)
    show hasB (if P n = true then setU P n ||| bitI n else setU P n) c ↔ _
    by_cases e : P n = true
    · rw [if_pos e, has_or hc, ih, show hasB (bitI n) c ↔ c = n from has_bit (by omega) hc]
      constructor
      · rintro (h | h)
        · exact ⟨by omega, h.2⟩
        · subst h; exact ⟨by omega, e⟩
      · intro h
        by_cases e2 : c = n
        · exact Or.inr e2
        · exact Or.inl ⟨by omega, h.2⟩
    · rw [if_neg e, ih]
      constructor
      · intro h; exact ⟨by omega, h.2⟩
      · intro h
        refine ⟨Nat.lt_of_le_of_ne (by omega) (fun q => e (by rw [← q]; exact h.2)), h.2⟩
theorem pass_eq {t n : Nat → Int32} {nc np : Nat} (hO : okS t n nc np) (hc : nc ≤ 4) (hp : np ≤ 8) : qgF t n nc np = upd (upd (fgS (failP t (qg2 t n) np) (qg2 t n) np nc) 52 (fgS (failP t (qg2 t n) np) (qg2 t n) np nc 52 ||| soursU t (qg2 t n) np nc)) 53 (fgS (failP t (qg2 t n) np) (qg2 t n) np nc 53 + 1) := by
  rw [fgS_hi hp (by omega), fgS_hi hp (by omega)]
  have e53 : qg4 t n nc np 53 = qg2 t n 53 := by
    unfold qg4; rw [upto_at _ _ (by omega)]; unfold qg3; rw [upd_ne (by omega)]
  have e52 : qg3 t n nc np 52 = qg2 t n 52 ||| soursU t (qg2 t n) np nc := upd_at _ _ _
  funext k
  unfold qgF
  rw [e53]
  by_cases h53 : k = 53
  · rw [h53, upd_at, upd_at]
  rw [upd_ne h53, upd_ne h53]
  by_cases h52 : k = 52
  · rw [h52, upd_at]; unfold qg4; rw [upto_at _ _ (by omega), e52]
  rw [upd_ne h52]
  by_cases hk : k < 32
  · have e3 : qg3 t n nc np k = qg2 t n k := upd_ne h52
    have e4 : qg4 t n nc np k = if hasB (qg3 t n nc np 52) (k % 4) then 0 else qg3 t n nc np k := if_pos hk
    have e5 : qg2 t n k = growI (n k) (t 1) := by rw [qg2_at, if_neg (by omega), if_pos hk]
    have ez : (np ≤ k / 4 ∨ nc ≤ k % 4 ∨ hasB (n 52) (k % 4)) → qg2 t n k = 0 := fun h => by rw [e5, okS_z hO hk h, grow0]
    rw [e4, e52, e3]
    show _ = if k < 4 * np ∧ k % 4 < nc ∧ failP t (qg2 t n) np (k % 4) = true then 0 else qg2 t n k
    have hh : hasB (qg2 t n 52 ||| soursU t (qg2 t n) np nc) (k % 4) ↔ hasB (n 52) (k % 4) ∨ (k % 4 < nc ∧ failP t (qg2 t n) np (k % 4) = true) := by
      rw [has_or (by omega), qg2_52]; unfold soursU; rw [has_setU (by omega) nc (by omega)]
    by_cases h1 : k < 4 * np ∧ k % 4 < nc ∧ failP t (qg2 t n) np (k % 4) = true
    · rw [if_pos h1, if_pos (hh.mpr (Or.inr h1.2))]
    · rw [if_neg h1]
      by_cases h2 : hasB (qg2 t n 52 ||| soursU t (qg2 t n) np nc) (k % 4)
      · rw [if_pos h2]
        rcases hh.mp h2 with h3 | h3
        · exact (ez (Or.inr (Or.inr h3))).symm
        · exact (ez (Or.inl (by
            rcases Nat.lt_or_ge k (4 * np) with z | z
            · exact absurd ⟨z, h3⟩ h1
            · omega))).symm
      · rw [if_neg h2]
  · show (if k < 32 then _ else qg3 t n nc np k) = if _ then _ else _
    rw [if_neg hk, if_neg (by omega)]; exact upd_ne h52
/-! what to borrow for least, as the class counts it -/
abbrev mrB (t n : Nat → Int32) (p c : Nat) : Prop := tm t n p c = 0 ∧ ¬ hasB (n (36 + p)) c ∧ mayB t n p c (t (9 + c) - n (4 * p + c))
def mrP (t n : Nat → Int32) (p c : Nat) : Bool := decide (mrB t n p c)
def cfU (t n : Nat → Int32) (p s : Nat) : Nat → Int32
  | 0 => 0
  | c + 1 => if hasB (nI s) c then cfU t n p s c + (t (9 + c) - n (4 * p + c)) else cfU t n p s c
def wsU (t : Nat → Int32) (s : Nat) : Nat → Int32
  | 0 => 0
  | c + 1 => if hasB (nI s) c then wsU t s c + t (17 + c) else wsU t s c
abbrev chC (t n : Nat → Int32) (nc p : Nat) (sx : Int32) (s : Nat) (f : Int32) : Prop := (nI s &&& (setU (mrP t n p) nc ^^^ (-1))) = 0 ∧ sx ≤ stU t n p nc + wsU t s nc ∧ cfU t n p s nc < f
def chF (t n : Nat → Int32) (nc p : Nat) (sx : Int32) : Nat → Int32
  | 0 => 1000000
  | s + 1 => if chC t n nc p sx s (chF t n nc p sx s) then cfU t n p s nc else chF t n nc p sx s
def chB (t n : Nat → Int32) (nc p : Nat) (sx : Int32) : Nat → Int32
  | 0 => -1
  | s + 1 => if chC t n nc p sx s (chF t n nc p sx s) then nI s else chB t n nc p sx s
def clI (f : Nat → Int32) : Nat → Nat → Int32
  | 0 => f
  | p + 1 => upd (upd (clI f p) (36 + p) 0) (44 + p) (-1)
def clrS (n : Nat → Int32) : Nat → Int32 := upd (upd (clI (rng (rng n (fun _ => 0) 0 32) (fun _ => 0) 32 36) 8) 52 0) 53 0
theorem eq54_take (d n : Nat → Int32) : eq54 (upd (upd (rng (rng (rng (rng d n 0 32) n 32 36) n 36 44) n 44 52) 52 (n 52)) 53 (n 53)) n := by
  intro k hk
  by_cases h1 : k = 53
  · rw [h1, upd_at]
  rw [upd_ne h1]
  by_cases h2 : k = 52
  · rw [h2, upd_at]
  rw [upd_ne h2]
  by_cases a : 44 ≤ k ∧ k < 52
  · exact rng_in a.1 a.2
  rw [rng_out (by omega)]
  by_cases b : 36 ≤ k ∧ k < 44
  · exact rng_in b.1 b.2
  rw [rng_out (by omega)]
  by_cases c : 32 ≤ k ∧ k < 36
  · exact rng_in c.1 c.2
  rw [rng_out (by omega)]
  exact rng_in (by omega) (by omega)
