/-! ints by their values -/
theorem ti_add {x y : Int32} (h1 : -2147483648 ≤ x.toInt + y.toInt) (h2 : x.toInt + y.toInt < 2147483648) : (x + y).toInt = x.toInt + y.toInt := by
  rw [Int32.toInt_add]; exact Int.bmod_eq_of_le (by omega) (by omega)
theorem ti_sub {x y : Int32} (h1 : -2147483648 ≤ x.toInt - y.toInt) (h2 : x.toInt - y.toInt < 2147483648) : (x - y).toInt = x.toInt - y.toInt := by
  rw [Int32.toInt_sub]; exact Int.bmod_eq_of_le (by omega) (by omega)
theorem sumU_b {w : Nat → Int32} : ∀ n, n ≤ 1000 → (∀ c, c < n → -1 ≤ (w c).toInt ∧ (w c).toInt ≤ 9) → -(n : Int) ≤ (sumU w n).toInt ∧ (sumU w n).toInt ≤ 9 * (n : Int)
  | 0, _, _ => by
    show -((0 : Nat) : Int) ≤ (0 : Int32).toInt ∧ (0 : Int32).toInt ≤ 9 * ((0 : Nat) : Int)
    decide
  | n + 1, hn, h => by
    have ih := sumU_b (w := w) n (by omega) (fun c hc => h c (by omega))
    have hw := h n (by omega)
    show -((n + 1 : Nat) : Int) ≤ (sumU w n + w n).toInt ∧ (sumU w n + w n).toInt ≤ 9 * ((n + 1 : Nat) : Int)
    rw [ti_add (by omega) (by omega)]
    omega
/-- how great they are: 1 to 9 -/
def okG (t : Nat → Int32) (nc : Nat) : Prop := ∀ c, c < nc → ∃ g : Nat, 1 ≤ g ∧ g ≤ 9 ∧ t (17 + c) = nI g
theorem wrG_b {x : Int32} {g : Nat} (hg : 1 ≤ g ∧ g ≤ 9) : -1 ≤ (wrG x (nI g)).toInt ∧ (wrG x (nI g)).toInt ≤ 9 := by
  unfold wrG
  by_cases h : x = 1
  · rw [if_pos h, nI_toInt (by omega)]; omega
  · rw [if_neg h]
    by_cases h2 : x = 2
    · rw [if_pos h2]; decide
    · rw [if_neg h2]; decide
theorem stU_b {t f : Nat → Int32} {p nc : Nat} (hc : nc ≤ 4) (hG : okG t nc) : -4 ≤ (stU t f p nc).toInt ∧ (stU t f p nc).toInt ≤ 36 := by
  have h := sumU_b (w := fun c => wrG (tm t f p c) (t (17 + c))) nc (by omega) (fun c hc' => by
    obtain ⟨g, h1, h2, e⟩ := hG c hc'
    show -1 ≤ (wrG (tm t f p c) (t (17 + c))).toInt ∧ (wrG (tm t f p c) (t (17 + c))).toInt ≤ 9
    rw [e]; exact wrG_b ⟨h1, h2⟩)
  unfold stU
  omega
/-! pairs, as the class counts them: the pair in one number, its standing -/
def bst (s : Int32 × Int32 × Int32) : Int32 := if s.2.1 = -1 then -1 else nI (cl s.2.1 * 8 + cl s.2.2)
def bsd (s : Int32 × Int32 × Int32) : Int32 := if s.2.1 = -1 then -1000000001 else s.1
/-- none yet: the standing is the first one -/
def bpZ (s : Int32 × Int32 × Int32) : Prop := s.2.1 = -1 → s.1 = -1000000
theorem bpI_z {t n : Nat → Int32} {nc : Nat} {tk : Int32} {g : Nat} (hg : g < 2147483648) {s : Int32 × Int32 × Int32} (hs : bpZ s) : ∀ m, bpZ (bpI t n nc tk g s m)
  | 0 => hs
  | m + 1 => by
    show bpZ (if _ then _ else _)
    by_cases e : bpC t n nc tk (bpI t n nc tk g s m).1 g m
    · rw [if_pos e]; exact fun q => absurd q (nI_m1 hg)
    · rw [if_neg e]; exact bpI_z hg hs m
theorem bpG_z {t n : Nat → Int32} {nc np : Nat} {tk : Int32} : ∀ g, g < 2147483648 → bpZ (bpG t n nc np tk g)
  | 0, _ => fun _ => rfl
  | g + 1, h => bpI_z (by omega) (bpG_z g (by omega)) np
theorem bsd_lt {t n : Nat → Int32} {nc g m : Nat} {s : Int32 × Int32 × Int32} (hc : nc ≤ 4) (hG : okG t nc) (hz : bpZ s) : bsd s < jnV t n nc g m ↔ s.1 < jnV t n nc g m := by
  unfold bsd
  by_cases h : s.2.1 = -1
  · rw [if_pos h, hz h]
    have hb := stU_b (t := t) (f := wedF n g m) (p := g) hc hG
    have hb2 : -4 ≤ (jnV t n nc g m).toInt := hb.1
    rw [Int32.lt_iff_toInt_lt, Int32.lt_iff_toInt_lt, show (-1000000001 : Int32).toInt = -1000000001 by decide, show (-1000000 : Int32).toInt = -1000000 by decide]
    constructor <;> intro _ <;> omega
  · rw [if_neg h]
theorem bst_pos {g m : Nat} (hg : g < 8) (hm : m < 8) (x : Int32) : bst (x, nI g, nI m) = nI (g * 8 + m) := by
  unfold bst; rw [if_neg (nI_m1 (by omega))]; show nI (cl (nI g) * 8 + cl (nI m)) = _; rw [cl_nI (by omega), cl_nI (by omega)]
theorem bsd_pos {g m : Nat} (hg : g < 8) (x : Int32) : bsd (x, nI g, nI m) = x := if_neg (nI_m1 (by omega))
theorem nh_0 {x : Int32} : ¬ ((x &&& 1) = 1) ↔ (x &&& 1) = 0 := (and1_0 x).symm
/-- who is not in use is not wed -/
theorem wedS_8 {t n : Nat → Int32} {nc np : Nat} (hO : okS t n nc np) (hp : np ≤ 8) (h0 : t 0 = 1) : wedS n 8 = wedS n np := by
  have key : ∀ d, np + d ≤ 8 → wedS n (np + d) = wedS n np := by
    intro d
    induction d with
    | zero => intro _; rfl
    | succ d ih =>
      intro h
      show (if wedP n (np + d) = true then _ else setU (wedP n) (np + d)) = _
      rw [if_neg (by
        unfold wedP; rw [decide_eq_true_eq]
        exact fun q => q ((hO.2.1 (np + d) (by omega) (by omega)).2.resolve_right (fun z => absurd (h0.symm.trans z) (by decide))))]
      exact ih (by omega)
  have := key (8 - np) (by omega)
  rwa [show np + (8 - np) = 8 by omega] at this
theorem owU_4 {t n : Nat → Int32} {nc np p : Nat} (hO : okS t n nc np) (hc : nc ≤ 4) (hp : p < 8) : owU n p 4 = owU n p nc := by
  have key : ∀ d, nc + d ≤ 4 → owU n p (nc + d) = owU n p nc := by
    intro d
    induction d with
    | zero => intro _; rfl
    | succ d ih =>
      intro h
      show owU n p (nc + d) + n (4 * p + (nc + d)) = _
      rw [hO.1 p (nc + d) hp (by omega) (Or.inr (Or.inl (by omega))), Int32.add_zero]
      exact ih (by omega)
  have := key (4 - nc) (by omega)
  rwa [show nc + (4 - nc) = 4 by omega] at this
theorem allU_8 {t n : Nat → Int32} {nc np : Nat} (hO : okS t n nc np) (hc : nc ≤ 4) (hp : np ≤ 8) : allU n 8 = sumU (fun q => owU n q nc) np := by
  have e1 : allU n 8 = allU n np := by
    have key : ∀ d, np + d ≤ 8 → allU n (np + d) = allU n np := by
      intro d
      induction d with
      | zero => intro _; rfl
      | succ d ih =>
        intro h
        show allU n (np + d) + owU n (np + d) 4 = _
        have hz : ∀ k, k ≤ 4 → owU n (np + d) k = 0 := by
          intro k
          induction k with
          | zero => intro _; rfl
          | succ k ihk =>
            intro hk
            show owU n (np + d) k + n (4 * (np + d) + k) = 0
            rw [ihk (by omega), hO.1 (np + d) k (by omega) (by omega) (Or.inl (by omega))]; rfl
        rw [hz 4 (by omega), Int32.add_zero]
        exact ih (by omega)
    have := key (8 - np) (by omega)
    rwa [show np + (8 - np) = 8 by omega] at this
  rw [e1]
  exact sumU_c (fun q hq => owU_4 hO hc (by omega))
