/-! what to borrow for least: class and reference -/
theorem hs_no : ∀ s, s < 16 → ∀ nc, nc < 5 → ∀ c, c < 4 → s < 2 ^ nc ∧ nc ≤ c → ¬ hasB (nI s) c := by decide +kernel
theorem hs_hi : ∀ s, s < 16 → ∀ nc, nc < 5 → 2 ^ nc ≤ s → ∃ c, c < 4 ∧ nc ≤ c ∧ hasB (nI s) c := by decide +kernel
theorem hs_b4 : ∀ s, s < 16 → ∀ i, i < 32 → 4 ≤ i → bt (nI s) i = false := by decide +kernel
theorem open_iff {s nc : Nat} {P : Nat → Bool} (hs : s < 16) (hc : nc ≤ 4) : (nI s &&& (setU P nc ^^^ (-1))) = 0 ↔ ∀ c, c < 4 → hasB (nI s) c → c < nc ∧ P c = true := by
  have z0 : ∀ i, bt 0 i = false := fun i => by simp [bt]
  constructor
  · intro h c hc4 hh
    have h1 : bt (nI s &&& (setU P nc ^^^ (-1))) c = false := by rw [h]; exact z0 c
    rw [b_and, bt_xm _ (by omega), (has_bt (by omega)).mp hh, Bool.true_and, Bool.not_eq_false'] at h1
    exact (has_setU (by omega) nc (by omega)).mp ((has_bt (by omega)).mpr h1)
  · intro h
    refine b_ext (fun i hi => ?_)
    rw [b_and, bt_xm _ hi, z0]
    rcases Nat.lt_or_ge i 4 with h4 | h4
    · rcases hb : bt (nI s) i with _ | _
      · rfl
      · have h2 := h i h4 ((has_bt hi).mpr hb)
        have h3 := (has_bt hi).mp ((has_setU hi nc (by omega)).mpr h2)
        rw [h3]; rfl
    · rw [hs_b4 s hs i hi h4]; rfl
theorem tm_0 {t n : Nat → Int32} {p c : Nat} (h1 : ¬ hasB (n 52) c) (h2 : ¬ hasB (n (36 + p)) c) : tm t n p c = 0 ↔ n (4 * p + c) < t (9 + c) := by
  unfold tm tmG
  rw [if_neg h1]
  by_cases h : n (4 * p + c) < t (9 + c)
  · rw [if_pos (Or.inr h)]; exact ⟨fun _ => h, fun _ => rfl⟩
  · rw [if_neg (fun q => q.elim h2 h)]
    refine ⟨fun q => ?_, fun q => absurd q h⟩
    by_cases h3 : n (4 * p + c) ≤ t (13 + c)
    · rw [if_pos h3] at q; exact absurd q (by decide)
    · rw [if_neg h3] at q; exact absurd q (by decide)
theorem mr_may {t n : Nat → Int32} {nc np p c : Nat} (hT : okT t nc np) (hO : okS t n nc np) (hp : p < np) (hc : c < nc) (hw : ¬ wedM t n p) : mrB t n p c ↔ mayT t n p c := by
  have hc4 := hT.1.2.2.1
  have hp8 := hT.1.2.2.2
  obtain ⟨lo, hi, g, e1, e2, e3, h1, h2, h3, h4, h5⟩ := hT.2.2.2.2 c hc
  obtain ⟨j, hj, ej⟩ := hO.2.2.1 (4 * p + c) (by omega)
  have hlt : n (4 * p + c) < t (9 + c) ↔ 0 < t (9 + c) - n (4 * p + c) := by
    rw [e1, ej, nI_ltI (by omega) (by omega), Int32.lt_iff_toInt_lt, pk_sub_toInt (by omega) (by omega), show (0 : Int32).toInt = 0 from rfl]; omega
  constructor
  · rintro ⟨a1, a2, a3, a4, a5⟩
    exact ⟨a4, a2, hlt.mp ((tm_0 a4 a2).mp a1), a5⟩
  · rintro ⟨a1, a2, a3, a4⟩
    exact ⟨(tm_0 a1 a2).mpr (hlt.mpr a3), a2, hw, a1, a4⟩
theorem may_b {t n : Nat → Int32} {nc np p c : Nat} (hT : okT t nc np) (hO : okS t n nc np) (hp : p < np) (hc : c < nc) (h : mayT t n p c) : ∃ k : Nat, k ≤ 999 ∧ t (9 + c) - n (4 * p + c) = nI k := by
  have hp8 := hT.1.2.2.2
  have hc4 := hT.1.2.2.1
  obtain ⟨lo, hi, g, e1, e2, e3, h1, h2, h3, h4, h5⟩ := hT.2.2.2.2 c hc
  obtain ⟨j, hj, ej⟩ := hO.2.2.1 (4 * p + c) (by omega)
  have h6 := h.2.2.1
  rw [e1, ej, Int32.lt_iff_toInt_lt, pk_sub_toInt (by omega) (by omega), show (0 : Int32).toInt = 0 from rfl] at h6
  exact ⟨lo - j, by omega, by rw [e1, ej]; exact pk_sub (by omega)⟩
/-- all may be: as many coins, so much higher -/
theorem tk_good {t n : Nat → Int32} {nc np p s : Nat} (hT : okT t nc np) (hO : okS t n nc np) (hp : p < np) (h : ∀ c, c < nc → hasB (nI s) c → mayT t n p c) : ∀ k, k ≤ nc → tkS t n p s k = cfU t n p s k ∧ ∃ z : Nat, z ≤ 999 * k ∧ cfU t n p s k = nI z
  | 0, _ => ⟨rfl, 0, by omega, rfl⟩
  | k + 1, hk => by
    obtain ⟨e1, z, hz, ez⟩ := tk_good hT hO hp h k (by omega)
    show (if hasB (nI s) k then tkS t n p s k + (if mayT t n p k then t (9 + k) - n (4 * p + k) else 1000000) else tkS t n p s k) = (if hasB (nI s) k then cfU t n p s k + (t (9 + k) - n (4 * p + k)) else cfU t n p s k) ∧ ∃ z : Nat, z ≤ 999 * (k + 1) ∧ (if hasB (nI s) k then cfU t n p s k + (t (9 + k) - n (4 * p + k)) else cfU t n p s k) = nI z
    by_cases e : hasB (nI s) k
    · have hm := h k (by omega) e
      obtain ⟨y, hy, ey⟩ := may_b hT hO hp (by omega) hm
      rw [if_pos e, if_pos e, if_pos hm, e1]
      exact ⟨rfl, z + y, by omega, by rw [ez, ey, nI_add]⟩
    · rw [if_neg e, if_neg e]; exact ⟨e1, z, by omega, ez⟩
theorem tk_bad {t n : Nat → Int32} {nc np p s : Nat} (hT : okT t nc np) (hO : okS t n nc np) (hp : p < np) : ∀ k, k ≤ nc → ∃ z : Nat, z ≤ 1000000 * k ∧ tkS t n p s k = nI z ∧ ((∃ c, c < k ∧ hasB (nI s) c ∧ ¬ mayT t n p c) → 1000000 ≤ z)
  | 0, _ => ⟨0, by omega, rfl, fun ⟨c, h, _⟩ => absurd h (by omega)⟩
  | k + 1, hk => by
    obtain ⟨z, hz, ez, hb⟩ := tk_bad (s := s) hT hO hp k (by omega)
    have es : tkS t n p s (k + 1) = if hasB (nI s) k then tkS t n p s k + (if mayT t n p k then t (9 + k) - n (4 * p + k) else 1000000) else tkS t n p s k := rfl
    by_cases e : hasB (nI s) k
    · rw [if_pos e] at es
      by_cases hm : mayT t n p k
      · obtain ⟨y, hy, ey⟩ := may_b hT hO hp (by omega) hm
        rw [if_pos hm, ez, ey, nI_add] at es
        refine ⟨z + y, by omega, es, fun ⟨c, h1, h2, h3⟩ => ?_⟩
        have := hb ⟨c, Nat.lt_of_le_of_ne (by omega) (fun q => h3 (by rw [q]; exact hm)), h2, h3⟩
        omega
      · rw [if_neg hm, ez, show (1000000 : Int32) = nI 1000000 from rfl, nI_add] at es
        exact ⟨z + 1000000, by omega, es, fun _ => by omega⟩
    · rw [if_neg e] at es
      refine ⟨z, by omega, es.trans ez, fun ⟨c, h1, h2, h3⟩ => ?_⟩
      exact hb ⟨c, Nat.lt_of_le_of_ne (by omega) (fun q => e (by rw [← q]; exact h2)), h2, h3⟩
theorem tkD_at {t n : Nat → Int32} {p s x : Nat} : ∀ k, tkD t n p s k x = if 4 * p ≤ x ∧ x < 4 * p + k ∧ hasB (nI s) (x - 4 * p) then t (9 + (x - 4 * p)) else n x
  | 0 => (if_neg (by omega)).symm
  | k + 1 => by
    have es : tkD t n p s (k + 1) = if hasB (nI s) k then upd (tkD t n p s k) (4 * p + k) (t (9 + k)) else tkD t n p s k := rfl
    rw [es]
    by_cases e : hasB (nI s) k
    · rw [if_pos e]
      by_cases ex : x = 4 * p + k
      · rw [ex, upd_at, show 4 * p + k - 4 * p = k by omega, if_pos ⟨by omega, by omega, e⟩]
      · rw [upd_ne ex, tkD_at k]
        by_cases h : 4 * p ≤ x ∧ x < 4 * p + k ∧ hasB (nI s) (x - 4 * p)
        · rw [if_pos h, if_pos ⟨h.1, by omega, h.2.2⟩]
        · rw [if_neg h, if_neg (fun q => h ⟨q.1, by omega, q.2.2⟩)]
    · rw [if_neg e, tkD_at k]
      by_cases h : 4 * p ≤ x ∧ x < 4 * p + k ∧ hasB (nI s) (x - 4 * p)
      · rw [if_pos h, if_pos ⟨h.1, by omega, h.2.2⟩]
      · rw [if_neg h, if_neg (fun q => h ⟨q.1, Nat.lt_of_le_of_ne (by omega) (fun z => e (by
          have q2 := q.2.2
          rwa [show x - 4 * p = k by omega] at q2)), q.2.2⟩)]
theorem st_good {t n : Nat → Int32} {nc np p s : Nat} (hT : okT t nc np) (hp : p < np) (h : ∀ c, c < nc → hasB (nI s) c → mayT t n p c ∧ tm t n p c = 0) : ∀ k, k ≤ nc → stU t (tkD t n p s nc) p k = stU t n p k + wsU t s k
  | 0, _ => by show (0 : Int32) = 0 + 0; decide
  | k + 1, hk => by
    have hc4 := hT.1.2.2.1
    have hp8 := hT.1.2.2.2
    have ih := st_good hT hp h k (by omega)
    show stU t (tkD t n p s nc) p k + wrG (tm t (tkD t n p s nc) p k) (t (17 + k)) = (stU t n p k + wrG (tm t n p k) (t (17 + k))) + (if hasB (nI s) k then wsU t s k + t (17 + k) else wsU t s k)
    rw [ih]
    have e52 : tkD t n p s nc 52 = n 52 := by rw [tkD_at, if_neg (by omega)]
    have e36 : tkD t n p s nc (36 + p) = n (36 + p) := by rw [tkD_at, if_neg (by omega)]
    by_cases e : hasB (nI s) k
    · obtain ⟨hm, h0⟩ := h k (by omega) e
      obtain ⟨lo, hi, g, e1, e2, e3, h1, h2, h3, h4, h5⟩ := hT.2.2.2.2 k (by omega)
      have ek : tkD t n p s nc (4 * p + k) = t (9 + k) := by rw [tkD_at, show 4 * p + k - 4 * p = k by omega, if_pos ⟨by omega, by omega, e⟩]
      have h1' : tm t (tkD t n p s nc) p k = 1 := by
        unfold tm; rw [e52, e36, ek]; unfold tmG
        rw [if_neg hm.1, if_neg (fun q => q.elim hm.2.1 (fun z => by rw [Int32.lt_iff_toInt_lt] at z; omega)), if_pos (by rw [e1, e2, nI_leI (by omega) (by omega)]; exact h2)]
      rw [if_pos e, h1', h0]
      show stU t n p k + wsU t s k + t (17 + k) = stU t n p k + 0 + (wsU t s k + t (17 + k))
      rw [Int32.add_zero, Int32.add_assoc]
    · have ek : tkD t n p s nc (4 * p + k) = n (4 * p + k) := by rw [tkD_at, show 4 * p + k - 4 * p = k by omega, if_neg (fun q => e q.2.2)]
      have h1' : tm t (tkD t n p s nc) p k = tm t n p k := by unfold tm; rw [e52, e36, ek]
      rw [if_neg e, h1', Int32.add_assoc, Int32.add_comm (wsU t s k), ← Int32.add_assoc]
theorem ch_ls {t n : Nat → Int32} {nc np p s : Nat} {sx f : Int32} (hT : okT t nc np) (hO : okS t n nc np) (hp : p < np) (hw : ¬ wedM t n p) (hs : s < 2 ^ nc) (hf : f.toInt ≤ 1000000) : (chC t n nc p sx s f ↔ lsC t n nc p sx s f) ∧ (lsC t n nc p sx s f → tkS t n p s nc = cfU t n p s nc ∧ (tkS t n p s nc).toInt ≤ 1000000) := by
  have hc4 := hT.1.2.2.1
  have hs16 : s < 16 := Nat.lt_of_lt_of_le hs (Nat.pow_le_pow_right (by decide) hc4)
  by_cases hall : ∀ c, c < nc → hasB (nI s) c → mayT t n p c
  · obtain ⟨e1, z, hz, ez⟩ := tk_good hT hO hp hall nc (Nat.le_refl _)
    have e2 := st_good hT hp (s := s) (fun c hc hh => ⟨hall c hc hh, ((mr_may hT hO hp hc hw).mpr (hall c hc hh)).1⟩) nc (Nat.le_refl _)
    have ho : (nI s &&& (setU (mrP t n p) nc ^^^ (-1))) = 0 := (open_iff hs16 hc4).mpr (fun c hc hh => by
      rcases Nat.lt_or_ge c nc with h | h
      · exact ⟨h, decide_eq_true ((mr_may hT hO hp h hw).mpr (hall c h hh))⟩
      · exact absurd hh (hs_no s hs16 nc (by omega) c hc ⟨hs, h⟩))
    refine ⟨?_, fun _ => ⟨e1, by rw [e1, ez, nI_toInt (by omega)]; omega⟩⟩
    show _ ∧ _ ∧ _ ↔ _ ∧ _
    rw [e1, e2]
    exact ⟨fun q => ⟨q.2.2, q.2.1⟩, fun q => ⟨ho, q.2, q.1⟩⟩
  · have hbad : ∃ c, c < nc ∧ hasB (nI s) c ∧ ¬ mayT t n p c := by
      apply Classical.byContradiction
      intro hne
      exact hall (fun c h1 h2 => Classical.byContradiction (fun h3 => hne ⟨c, h1, h2, h3⟩))
    obtain ⟨z, hz, ez, hb⟩ := tk_bad (s := s) hT hO hp nc (Nat.le_refl _)
    have hz2 := hb hbad
    have hno : ¬ lsC t n nc p sx s f := fun q => by
      have q1 := q.1
      rw [ez, Int32.lt_iff_toInt_lt, nI_toInt (by omega)] at q1; omega
    refine ⟨⟨fun q => ?_, fun q => absurd q hno⟩, fun q => absurd q hno⟩
    exfalso
    obtain ⟨c, h1, h2, h3⟩ := hbad
    have h4 := (open_iff hs16 hc4).mp q.1 c (by omega) h2
    exact h3 ((mr_may hT hO hp h1 hw).mp (of_decide_eq_true h4.2))
theorem ch_lt {t n : Nat → Int32} {nc np p : Nat} {sx : Int32} (hT : okT t nc np) (hO : okS t n nc np) (hp : p < np) (hw : ¬ wedM t n p) : ∀ s, s ≤ 2 ^ nc → chF t n nc p sx s = lsF t n nc p sx s ∧ chB t n nc p sx s = lsB t n nc p sx s ∧ (lsF t n nc p sx s).toInt ≤ 1000000 ∧ (lsB t n nc p sx s = -1 ∨ ∃ z, z < s ∧ lsB t n nc p sx s = nI z ∧ cfU t n p z nc = lsF t n nc p sx s)
  | 0, _ => ⟨rfl, rfl, by show (1000000 : Int32).toInt ≤ 1000000; rw [mil]; omega, Or.inl rfl⟩
  | s + 1, hs => by
    obtain ⟨i1, i2, i3, i4⟩ := ch_lt hT hO hp hw s (by omega)
    obtain ⟨k1, k2⟩ := ch_ls (sx := sx) hT hO hp hw (show s < 2 ^ nc by omega) i3
    have eF : lsF t n nc p sx (s + 1) = if lsC t n nc p sx s (lsF t n nc p sx s) then tkS t n p s nc else lsF t n nc p sx s := rfl
    have eB : lsB t n nc p sx (s + 1) = if lsC t n nc p sx s (lsF t n nc p sx s) then nI s else lsB t n nc p sx s := rfl
    have cF : chF t n nc p sx (s + 1) = if chC t n nc p sx s (lsF t n nc p sx s) then cfU t n p s nc else lsF t n nc p sx s := by rw [← i1]; rfl
    have cB : chB t n nc p sx (s + 1) = if chC t n nc p sx s (lsF t n nc p sx s) then nI s else lsB t n nc p sx s := by rw [← i1, ← i2]; rfl
    by_cases h : lsC t n nc p sx s (lsF t n nc p sx s)
    · obtain ⟨g1, g2⟩ := k2 h
      rw [eF, eB, cF, cB, if_pos h, if_pos h, if_pos (k1.mpr h), if_pos (k1.mpr h)]
      exact ⟨g1.symm, rfl, g2, Or.inr ⟨s, by omega, rfl, g1.symm⟩⟩
    · rw [eF, eB, cF, cB, if_neg h, if_neg h, if_neg (fun q => h (k1.mp q)), if_neg (fun q => h (k1.mp q))]
      refine ⟨rfl, rfl, i3, ?_⟩
      rcases i4 with i4 | ⟨z, z1, z2, z3⟩
      · exact Or.inl i4
      · exact Or.inr ⟨z, by omega, z2, z3⟩
theorem ch_16 {t n : Nat → Int32} {nc np p : Nat} {sx : Int32} (hT : okT t nc np) (hO : okS t n nc np) (hp : p < np) (hw : ¬ wedM t n p) : chB t n nc p sx 16 = lsB t n nc p sx (2 ^ nc) ∧ (lsB t n nc p sx (2 ^ nc) = -1 ∨ ∃ z, z < 16 ∧ lsB t n nc p sx (2 ^ nc) = nI z ∧ cfU t n p z nc = lsF t n nc p sx (2 ^ nc)) := by
  have hc4 := hT.1.2.2.1
  have h16 : 2 ^ nc ≤ 16 := Nat.pow_le_pow_right (by decide) hc4
  obtain ⟨i1, i2, i3, i4⟩ := ch_lt (sx := sx) hT hO hp hw (2 ^ nc) (Nat.le_refl _)
  have key : ∀ d, 2 ^ nc + d ≤ 16 → chF t n nc p sx (2 ^ nc + d) = chF t n nc p sx (2 ^ nc) ∧ chB t n nc p sx (2 ^ nc + d) = chB t n nc p sx (2 ^ nc) := by
    intro d
    induction d with
    | zero => intro _; exact ⟨rfl, rfl⟩
    | succ d ih =>
      intro hd
      obtain ⟨a1, a2⟩ := ih (by omega)
      have hno : ¬ chC t n nc p sx (2 ^ nc + d) (chF t n nc p sx (2 ^ nc + d)) := fun q => by
        obtain ⟨c, c1, c2, c3⟩ := hs_hi (2 ^ nc + d) (by omega) nc (by omega) (by omega)
        have := (open_iff (by omega) hc4).mp q.1 c c1 c3
        omega
      have eF : chF t n nc p sx (2 ^ nc + (d + 1)) = chF t n nc p sx (2 ^ nc + d) := if_neg hno
      have eB : chB t n nc p sx (2 ^ nc + (d + 1)) = chB t n nc p sx (2 ^ nc + d) := if_neg hno
      rw [eF, eB]; exact ⟨a1, a2⟩
  have h2 := (key (16 - 2 ^ nc) (by omega)).2
  rw [show 2 ^ nc + (16 - 2 ^ nc) = 16 by omega] at h2
  refine ⟨h2.trans i2, ?_⟩
  rcases i4 with i4 | ⟨z, z1, z2, z3⟩
  · exact Or.inl i4
  · exact Or.inr ⟨z, by omega, z2, z3⟩
/-! credit -/
theorem crd_no {t n : Nat → Int32} {p c : Nat} : ∀ N, (∀ j, j < N → ¬ crdC t n p c j) → crd t n p c N = -1
  | 0, _ => rfl
  | N + 1, h => by rw [crd_s, if_neg (h N (by omega))]; exact crd_no N (fun j hj => h j (by omega))
theorem crd_yes {t n : Nat → Int32} {p c m : Nat} (hm : crdC t n p c m) : ∀ N, m < N → (∀ j, m < j → j < N → ¬ crdC t n p c j) → crd t n p c N = nI m
  | 0, h, _ => absurd h (by omega)
  | N + 1, h, hn => by
    rw [crd_s]
    by_cases e : m = N
    · rw [← e, if_pos hm]
    · rw [if_neg (hn N (by omega) (by omega))]; exact crd_yes hm N (by omega) (fun j h1 h2 => hn j h1 (by omega))
theorem crdC_iff {t n : Nat → Int32} {p c j : Nat} (hp : p < 8) (hc : c < 4) : crdC t n p c j ↔ (j = 0 ∨ mayB t n p c (nI j)) ∧ mdG (n 52) (hasB (n (36 + p)) c) (n (4 * p + c) + nI j) (t (9 + c)) (t (13 + c)) c = 1 := by
  unfold crdC
  have e : tm t (upd n (4 * p + c) (n (4 * p + c) + nI j)) p c = mdG (n 52) (hasB (n (36 + p)) c) (n (4 * p + c) + nI j) (t (9 + c)) (t (13 + c)) c := by
    unfold tm; rw [upd_ne (by omega), upd_ne (by omega), upd_at]; rfl
  rw [e]
theorem mdG_1 {fl o lo hi : Int32} {c : Nat} {b : Prop} [Decidable b] : mdG fl b o lo hi c = 1 ↔ ¬ hasB fl c ∧ ¬ b ∧ ¬ o < lo ∧ o ≤ hi := by
  unfold mdG
  by_cases h1 : hasB fl c
  · rw [if_pos h1]; exact ⟨fun q => absurd q (by decide), fun q => absurd h1 q.1⟩
  rw [if_neg h1]
  by_cases h2 : b ∨ o < lo
  · rw [if_pos h2]; exact ⟨fun q => absurd q (by decide), fun q => h2.elim (fun z => absurd z q.2.1) (fun z => absurd z q.2.2.1)⟩
  rw [if_neg h2]
  by_cases h3 : o ≤ hi
  · rw [if_pos h3]; exact ⟨fun _ => ⟨h1, fun z => h2 (Or.inl z), fun z => h2 (Or.inr z), h3⟩, fun _ => rfl⟩
  · rw [if_neg h3]; exact ⟨fun q => absurd q (by decide), fun q => absurd q.2.2.2 h3⟩
/-- the numbers of a credit -/
theorem credit_eq {t n : Nat → Int32} {nc np p c : Nat} (hT : okT t nc np) (hO : okS t n nc np) (hp : p < np) (hc : c < nc) :
    ∃ ow pu hi : Nat, n (4 * p + c) = nI ow ∧ n (32 + c) = nI pu ∧ t (13 + c) = nI hi ∧ ow ≤ 9999 ∧ pu ≤ 9999 ∧ hi ≤ 999 ∧
      (hi < ow → crd t n p c 1000 = -1) ∧
      (ow ≤ hi → 0 < min pu (hi - ow) → ¬ mayB t n p c (nI (min pu (hi - ow))) → crd t n p c 1000 = -1) ∧
      (ow ≤ hi → (min pu (hi - ow) = 0 ∨ mayB t n p c (nI (min pu (hi - ow)))) → crd t n p c 1000 = if mdG (n 52) (hasB (n (36 + p)) c) (nI ow + nI (min pu (hi - ow))) (t (9 + c)) (t (13 + c)) c = 1 then nI (min pu (hi - ow)) else -1) := by
  have hc4 := hT.1.2.2.1
  have hp8 := hT.1.2.2.2
  obtain ⟨lo, hi, g, e1, e2, e3, h1, h2, h3, h4, h5⟩ := hT.2.2.2.2 c hc
  obtain ⟨ow, how, eo⟩ := hO.2.2.1 (4 * p + c) (by omega)
  obtain ⟨pu, hpu, ep⟩ := hO.2.2.1 (32 + c) (by omega)
  have hC : ∀ j, j < 1000 → (crdC t n p c j ↔ (j = 0 ∨ mayB t n p c (nI j)) ∧ ¬ hasB (n 52) c ∧ ¬ hasB (n (36 + p)) c ∧ lo ≤ ow + j ∧ ow + j ≤ hi) := by
    intro j hj
    rw [crdC_iff (by omega) (by omega), mdG_1, eo, nI_add, e1, e2, nI_ltI (by omega) (by omega), nI_leI (by omega) (by omega), Nat.not_lt]
  have hmay : ∀ j, j < 1000 → mayB t n p c (nI j) → j ≤ pu := by
    intro j hj h
    have q := h.2.2
    rw [ep, nI_leI (by omega) (by omega)] at q; exact q
  refine ⟨ow, pu, hi, eo, ep, e2, how, hpu, h3, fun hlt => ?_, fun hle hpos hno => ?_, fun hle hor => ?_⟩
  · exact crd_no 1000 (fun j hj q => by have := ((hC j hj).mp q).2.2.2.2; omega)
  · refine crd_no 1000 (fun j hj q => ?_)
    obtain ⟨q1, q2, q3, q4, q5⟩ := (hC j hj).mp q
    have hwed : wedM t n p := Classical.byContradiction (fun hw => hno ⟨hw, q2, by rw [ep, nI_leI (by omega) (by omega)]; omega⟩)
    rcases q1 with q1 | q1
    · have hz := hO.2.2.2.2.2 p c hp (by omega) hwed.1 hwed.2
      rw [eo, show (0 : Int32) = nI 0 from rfl, nI_eq (by omega) (by omega)] at hz
      omega
    · exact q1.1 hwed
  · have hlast : ∀ j, min pu (hi - ow) < j → j < 1000 → ¬ crdC t n p c j := by
      intro j h6 h7 q
      obtain ⟨q1, q2, q3, q4, q5⟩ := (hC j h7).mp q
      rcases q1 with q1 | q1
      · omega
      · have := hmay j h7 q1; omega
    by_cases hm : mdG (n 52) (hasB (n (36 + p)) c) (nI ow + nI (min pu (hi - ow))) (t (9 + c)) (t (13 + c)) c = 1
    · rw [if_pos hm]
      exact crd_yes ((crdC_iff (by omega) (by omega)).mpr ⟨hor, by rw [eo]; exact hm⟩) 1000 (by omega) hlast
    · rw [if_neg hm]
      refine crd_no 1000 (fun j hj q => ?_)
      rcases Nat.lt_or_ge (min pu (hi - ow)) j with h6 | h6
      · exact hlast j h6 hj q
      · obtain ⟨q1, q2, q3, q4, q5⟩ := (hC j hj).mp q
        apply hm
        rw [mdG_1, nI_add, e1, e2, nI_ltI (by omega) (by omega), nI_leI (by omega) (by omega)]
        exact ⟨q2, q3, by omega, by omega⟩
theorem fail_eq {t n : Nat → Int32} {nc np : Nat} (hc : nc ≤ 4) : soursU t (qg2 t n) np nc = qgF t n nc np 52 &&& (n 52 ^^^ (-1)) := by
  have h := (fq_eq (t := t) (n := n) (np := np) hc 1).1
  have e : fqU t nc np n 1 = soursU t (qg2 t n) np nc := by
    show (0 : Int32) ||| soursU t (qg2 t n) np nc = _
    apply Int32.toBitVec_inj.mp; simp
  rw [← e]; exact h
