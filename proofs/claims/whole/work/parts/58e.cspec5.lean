/-! deeds keep a state well -/
theorem nI_in9 {x : Int32} {k : Nat} (h : ∃ j : Nat, j ≤ 9999 ∧ x = nI j) (hk : x = nI k) (h2 : k < 2147483648) : k ≤ 9999 := by
  obtain ⟨j, h1, e⟩ := h
  rw [e, nI_eq (by omega) h2] at hk; omega
theorem qgF_lo {t f : Nat → Int32} {nc np k : Nat} (hk : k < 32) : qgF t f nc np k = if hasB (f 52 ||| soursU t (qg2 t f) np nc) (k % 4) then 0 else growI (f k) (t 1) := by
  unfold qgF; rw [upd_ne (by omega)]
  have e3 : qg3 t f nc np k = growI (f k) (t 1) := by
    unfold qg3; rw [upd_ne (by omega), qg2_at, if_neg (by omega), if_pos hk]
  have e52 : qg3 t f nc np 52 = f 52 ||| soursU t (qg2 t f) np nc := by
    unfold qg3; rw [upd_at, qg2_52]
  have e4 : qg4 t f nc np k = if hasB (qg3 t f nc np 52) (k % 4) then 0 else qg3 t f nc np k := if_pos hk
  rw [e4, e52, e3]
theorem qgF_hi {t f : Nat → Int32} {nc np k : Nat} (h1 : 32 ≤ k) (h2 : k < 52) : qgF t f nc np k = if 36 ≤ k ∧ k < 44 then 0 else f k := by
  unfold qgF; rw [upd_ne (by omega)]; unfold qg4; rw [upto_at _ _ h1]; unfold qg3; rw [upd_ne (by omega), qg2_at, if_neg (show ¬ k < 32 by omega)]
theorem okS_q {t n : Nat → Int32} {nc np : Nat} (hT : okT t nc np) (hO : okS t n nc np) : okS t (qgF t n nc np) nc np := by
  obtain ⟨ht, ⟨ir, hir, hie⟩, -, -, -⟩ := hT
  have hc := ht.2.2.1
  have hp := ht.2.2.2
  refine ⟨fun p c h1 h2 h => ?_, fun p h1 h2 => ?_, fun k hk => ?_, lt16_qgF hc hO.2.2.2.1, fun p h => ?_, fun p c h1 h2 h3 h4 => ?_⟩
  · rw [qgF_lo (by omega), show (4 * p + c) % 4 = c by omega]
    rw [qgF_52] at h
    by_cases e : hasB (n 52 ||| soursU t (qg2 t n) np nc) c
    · rw [if_pos e]
    · rw [if_neg e, hO.1 p c h1 h2 (by
        rcases h with h | h | h
        · exact Or.inl h
        · exact Or.inr (Or.inl h)
        · exact absurd h e), grow0]
  · rw [qgF_hi (by omega) (by omega), if_pos (by omega), qgF_hi (by omega) (by omega), if_neg (by omega)]
    exact ⟨rfl, (hO.2.1 p h1 h2).2⟩
  · obtain ⟨j, hj, e⟩ := hO.2.2.1 k hk
    by_cases h32 : k < 32
    · rw [qgF_lo h32]
      by_cases eb : hasB (n 52 ||| soursU t (qg2 t n) np nc) (k % 4)
      · rw [if_pos eb]; exact ⟨0, by omega, rfl⟩
      · rw [if_neg eb, e, hie, grow_nI hj hir]; exact ⟨_, Nat.min_le_right _ _, rfl⟩
    · rw [qgF_hi (by omega) (by omega), if_neg (by omega)]; exact ⟨j, hj, e⟩
  · rw [qgF_hi (by omega) (by omega), if_neg (by omega)]
    rcases hO.2.2.2.2.1 p h with h1 | ⟨q, h1, h2, h3, h4, h5⟩
    · exact Or.inl h1
    · exact Or.inr ⟨q, h1, h2, h3, by rw [qgF_hi (by omega) (by omega), if_neg (by omega)]; exact h4, h5⟩
  · rw [qgF_hi (by omega) (by omega), if_neg (by omega)] at h4
    rw [qgF_lo (by omega)]
    by_cases eb : hasB (n 52 ||| soursU t (qg2 t n) np nc) ((4 * p + c) % 4)
    · rw [if_pos eb]
    · rw [if_neg eb, hO.2.2.2.2.2 p c h1 h2 h3 h4, grow0]
theorem okS_nQ {t n : Nat → Int32} {nc np : Nat} (hT : okT t nc np) (hO : okS t n nc np) : ∀ k, okS t (nQ t nc np n k) nc np
  | 0 => hO
  | k + 1 => okS_q hT (okS_nQ hT hO k)
theorem borF_at {n : Nat → Int32} {p c : Nat} {k : Int32} {x : Nat} (h1 : x ≠ 4 * p + c) (h2 : x ≠ 32 + c) : borF n p c k x = n x := by
  unfold borF; rw [upd_ne h2]; unfold bor1; rw [upd_ne h1]
theorem borF_o {n : Nat → Int32} {p c : Nat} {k : Int32} (hp : p < 8) (hc : c < 4) : borF n p c k (4 * p + c) = lessI (n (4 * p + c) + k) 9999 := by
  unfold borF; rw [upd_ne (by omega)]; unfold bor1; rw [upd_at]
theorem borF_p {n : Nat → Int32} {p c : Nat} {k : Int32} (hp : p < 8) (hc : c < 4) : borF n p c k (32 + c) = n (32 + c) - k := by
  unfold borF; rw [upd_at]; unfold bor1; rw [upd_ne (by omega)]
theorem okS_b {t n : Nat → Int32} {nc np p c m : Nat} (hT : okT t nc np) (hO : okS t n nc np) (hp : p < np) (hc : c < nc) (hm : m ≤ 9999) (h : mayB t n p c (nI m)) : okS t (borF n p c (nI m)) nc np := by
  have hc4 := hT.1.2.2.1
  have hp8 := hT.1.2.2.2
  have e52 : borF n p c (nI m) 52 = n 52 := borF_at (by omega) (by omega)
  obtain ⟨jp, hjp, ep⟩ := hO.2.2.1 (32 + c) (by omega)
  have hmj : m ≤ jp := by
    have h3 := h.2.2
    rw [ep] at h3
    exact (nI_leI (by omega) (by omega)).mp h3
  refine ⟨fun p' c' h1 h2 hz => ?_, fun p' h1 h2 => ?_, fun k hk => ?_, by rw [e52]; exact hO.2.2.2.1, fun p' h' => ?_, fun p' c' h1 h2 h3 h4 => ?_⟩
  · rw [e52] at hz
    by_cases e : 4 * p' + c' = 4 * p + c
    · obtain ⟨rfl, rfl⟩ : p' = p ∧ c' = c := by omega
      rcases hz with z | z | z
      · omega
      · omega
      · exact absurd z h.2.1
    · rw [borF_at e (by omega)]; exact hO.1 p' c' h1 h2 hz
  · rw [borF_at (by omega) (by omega), borF_at (by omega) (by omega)]; exact hO.2.1 p' h1 h2
  · by_cases e : k = 4 * p + c
    · obtain ⟨j, hj, ej⟩ := hO.2.2.1 (4 * p + c) (by omega)
      rw [e, borF_o (by omega) (by omega), ej, nI_add, show (9999 : Int32) = nI 9999 from rfl, less_m (by omega) (by omega)]
      exact ⟨_, Nat.min_le_right _ _, rfl⟩
    · by_cases e2 : k = 32 + c
      · rw [e2, borF_p (by omega) (by omega), ep, pk_sub hmj]; exact ⟨jp - m, by omega, rfl⟩
      · rw [borF_at e e2]; exact hO.2.2.1 k hk
  · rw [borF_at (by omega) (by omega)]
    rcases hO.2.2.2.2.1 p' h' with h1 | ⟨q, h1, h2, h3, h4, h5⟩
    · exact Or.inl h1
    · exact Or.inr ⟨q, h1, h2, h3, by rw [borF_at (by omega) (by omega)]; exact h4, h5⟩
  · rw [borF_at (by omega) (by omega)] at h4
    by_cases e : 4 * p' + c' = 4 * p + c
    · obtain ⟨rfl, rfl⟩ : p' = p ∧ c' = c := by omega
      exact absurd ⟨h3, h4⟩ h.1
    · rw [borF_at e (by omega)]; exact hO.2.2.2.2.2 p' c' h1 h2 h3 h4
theorem borF_z {t n : Nat → Int32} {nc np p c : Nat} (hO : okS t n nc np) (hp : p < 8) (hc : c < 4) : borF n p c (nI 0) = n := by
  obtain ⟨j, hj, ej⟩ := hO.2.2.1 (4 * p + c) (by omega)
  unfold borF bor1
  have e1 : lessI (n (4 * p + c) + nI 0) 9999 = n (4 * p + c) := by rw [ej, nI_add, Nat.add_zero, less_le hj]
  rw [e1, upd_self (f := n) rfl]
  exact upd_self (Int32.sub_zero _).symm
theorem pay_le {t n : Nat → Int32} {nc np p c : Nat} {k : Int32} (hO : okS t n nc np) (hp : p < 8) (hc : c < 4) (hk : inB k 1 9999) (h : k ≤ n (4 * p + c)) : ∃ j m : Nat, j ≤ 9999 ∧ 1 ≤ m ∧ m ≤ j ∧ n (4 * p + c) = nI j ∧ k = nI m := by
  obtain ⟨j, hj, ej⟩ := hO.2.2.1 (4 * p + c) (by omega)
  obtain ⟨m, h1, h2, em⟩ := inB_rng (a := 1) (b := 9999) rfl rfl (by decide) (by decide) hk
  rw [ej, em] at h
  exact ⟨j, m, hj, h1, (nI_leI (by omega) (by omega)).mp h, ej, em⟩
theorem pay_less {t n : Nat → Int32} {nc np p c : Nat} {k : Int32} (hO : okS t n nc np) (hp : p < 8) (hc : c < 4) (hk : inB k 1 9999) (h : k ≤ n (4 * p + c)) : lessI (n (4 * p + c) - k) 9999 = n (4 * p + c) - k := by
  obtain ⟨j, m, h1, h2, h3, e1, e2⟩ := pay_le hO hp hc hk h
  rw [e1, e2, pk_sub h3, less_le (by omega)]
theorem payF_o {t n : Nat → Int32} {p c : Nat} {k : Int32} (hp : p < 8) (hc : c < 4) : payF t n p c k (4 * p + c) = n (4 * p + c) - k := by
  unfold payF; rw [upd_ne (by omega)]; unfold pay2; rw [upd_at]
theorem payF_p {t n : Nat → Int32} {p c : Nat} {k : Int32} (hp : p < 8) (hc : c < 4) : payF t n p c k (32 + c) = lessI (n (32 + c) + k) 9999 := by
  unfold payF; rw [upd_at]; unfold pay2; rw [upd_ne (by omega)]; unfold pay1; rw [upd_ne (by omega)]
theorem payF_at {t n : Nat → Int32} {p c : Nat} {k : Int32} {x : Nat} (h1 : x ≠ 4 * p + c) (h2 : x ≠ 32 + c) (h3 : x ≠ 36 + p) : payF t n p c k x = n x := by
  unfold payF; rw [upd_ne h2]; unfold pay2; rw [upd_ne h1]; unfold pay1; rw [upd_ne h3]
theorem okS_p {t n : Nat → Int32} {nc np p c : Nat} {k : Int32} (hT : okT t nc np) (hO : okS t n nc np) (hp : p < np) (hc : c < nc) (hk : inB k 1 9999) (h : k ≤ n (4 * p + c)) : okS t (payF t n p c k) nc np := by
  have hc4 := hT.1.2.2.1
  have hp8 := hT.1.2.2.2
  have e52 : payF t n p c k 52 = n 52 := payF_at (by omega) (by omega) (by omega)
  obtain ⟨j, m, hj, hm1, hmj, ej, em⟩ := pay_le hO (by omega) (by omega) hk h
  have hnz : ¬ n (4 * p + c) = 0 := fun q => by
    rw [ej, show (0 : Int32) = nI 0 from rfl, nI_eq (by omega) (by omega)] at q; omega
  refine ⟨fun p' c' h1 h2 hz => ?_, fun p' h1 h2 => ?_, fun x hx => ?_, by rw [e52]; exact hO.2.2.2.1, fun p' h' => ?_, fun p' c' h1 h2 h3 h4 => ?_⟩
  · rw [e52] at hz
    by_cases e : 4 * p' + c' = 4 * p + c
    · exact absurd (by rw [← e]; exact hO.1 p' c' h1 h2 hz) hnz
    · rw [payF_at e (by omega) (by omega)]; exact hO.1 p' c' h1 h2 hz
  · rw [payF_at (by omega) (by omega) (by omega), payF_at (by omega) (by omega) (by omega)]; exact hO.2.1 p' h1 h2
  · by_cases e : x = 4 * p + c
    · rw [e, payF_o (by omega) (by omega), ej, em, pk_sub hmj]; exact ⟨j - m, by omega, rfl⟩
    · by_cases e2 : x = 32 + c
      · obtain ⟨jp, hjp, ep⟩ := hO.2.2.1 (32 + c) (by omega)
        rw [e2, payF_p (by omega) (by omega), ep, em, nI_add, show (9999 : Int32) = nI 9999 from rfl, less_m (by omega) (by omega)]
        exact ⟨_, Nat.min_le_right _ _, rfl⟩
      · rw [payF_at e e2 (by omega)]; exact hO.2.2.1 x hx
  · rw [payF_at (by omega) (by omega) (by omega)]
    rcases hO.2.2.2.2.1 p' h' with h1 | ⟨q, h1, h2, h3, h4, h5⟩
    · exact Or.inl h1
    · exact Or.inr ⟨q, h1, h2, h3, by rw [payF_at (by omega) (by omega) (by omega)]; exact h4, h5⟩
  · rw [payF_at (by omega) (by omega) (by omega)] at h4
    by_cases e : 4 * p' + c' = 4 * p + c
    · exact absurd (by rw [← e]; exact hO.2.2.2.2.2 p' c' h1 h2 h3 h4) hnz
    · rw [payF_at e (by omega) (by omega)]; exact hO.2.2.2.2.2 p' c' h1 h2 h3 h4
/-! a wedding -/
theorem wdU_m {f : Nat → Int32} {g m : Nat} (hg : g < 8) (hm : m < 8) (hne : g ≠ m) {j : Nat} (hj : j < 4) : ∀ c, c ≤ 4 → j < c → wdU f g m c (4 * m + j) = 0
  | 0, _, h => absurd h (by omega)
  | c + 1, hc, h => by
    show upd (upd (wdU f g m c) (4 * g + c) (lessI (wdU f g m c (4 * g + c) + wdU f g m c (4 * m + c)) 9999)) (4 * m + c) 0 (4 * m + j) = _
    by_cases e : j = c
    · subst e; rw [upd_at]
    · rw [upd_ne (by omega), upd_ne (by omega), wdU_m hg hm hne hj c (by omega) (by omega)]
theorem wedF_44 {f : Nat → Int32} {g m k : Nat} (hg : g < 8) (hm : m < 8) (h1 : 44 ≤ k) (h2 : k < 52) : wedF f g m k = if k = 44 + m then nI g else if k = 44 + g then nI m else f k := by
  unfold wedF
  by_cases e1 : k = 44 + m
  · rw [e1, upd_at, if_pos rfl]
  · rw [upd_ne e1, if_neg e1]
    by_cases e2 : k = 44 + g
    · rw [e2, upd_at, if_pos rfl]
    · rw [upd_ne e2, if_neg e2, upd_ne (by omega)]; unfold wd1; rw [upd_ne (by omega), wdU_o 4 (fun i hi => ⟨by omega, by omega⟩)]
theorem okS_w {t n : Nat → Int32} {nc np g m : Nat} (hT : okT t nc np) (hO : okS t n nc np) (hg : g < np) (hm : m < np) (hgg : hasB (t 21) g) (hmm : ¬ hasB (t 21) m) (h1 : n (44 + g) = -1) (h2 : n (44 + m) = -1) : okS t (wedF n g m) nc np := by
  have hc4 := hT.1.2.2.1
  have hp8 := hT.1.2.2.2
  have hne : g ≠ m := fun q => hmm (by rw [← q]; exact hgg)
  have e52 : wedF n g m 52 = n 52 := wedF_52 (by omega) (by omega)
  have hlo : ∀ p c, p < 8 → c < 4 → wedF n g m (4 * p + c) = if p = g then lessI (n (4 * g + c) + n (4 * m + c)) 9999 else if p = m then 0 else n (4 * p + c) := by
    intro p c hp hc
    rw [wedF_lo (by omega)]
    by_cases e1 : p = g
    · rw [if_pos e1, e1, wdU_g (by omega) (by omega) hne hc 4 (by omega) (by omega)]
    · rw [if_neg e1]
      by_cases e2 : p = m
      · rw [if_pos e2, e2, wdU_m (by omega) (by omega) hne hc 4 (by omega) (by omega)]
      · rw [if_neg e2, wdU_o 4 (fun i hi => ⟨by omega, by omega⟩)]
  have hb : ∀ p c, p < 8 → c < 4 → ∃ j : Nat, j ≤ 9999 ∧ wedF n g m (4 * p + c) = nI j := by
    intro p c hp hc
    rw [hlo p c hp hc]
    by_cases e1 : p = g
    · rw [if_pos e1]
      obtain ⟨a, ha, ea⟩ := hO.2.2.1 (4 * g + c) (by omega)
      obtain ⟨b, hb, eb⟩ := hO.2.2.1 (4 * m + c) (by omega)
      rw [ea, eb, nI_add, show (9999 : Int32) = nI 9999 from rfl, less_m (by omega) (by omega)]
      exact ⟨_, Nat.min_le_right _ _, rfl⟩
    · rw [if_neg e1]
      by_cases e2 : p = m
      · rw [if_pos e2]; exact ⟨0, by omega, rfl⟩
      · rw [if_neg e2]; exact hO.2.2.1 (4 * p + c) (by omega)
  refine ⟨fun p c hp hc hz => ?_, fun p q1 q2 => ?_, fun x hx => ?_, by rw [e52]; exact hO.2.2.2.1, fun p hp => ?_, fun p c q1 q2 q3 q4 => ?_⟩
  · rw [e52] at hz
    rw [hlo p c hp hc]
    by_cases e1 : p = g
    · have hz2 : nc ≤ c ∨ hasB (n 52) c := by
        rcases hz with z | z
        · omega
        · exact z
      rw [if_pos e1, hO.1 g c (by omega) hc (Or.inr hz2), hO.1 m c (by omega) hc (Or.inr hz2)]; decide
    · rw [if_neg e1]
      by_cases e2 : p = m
      · rw [if_pos e2]
      · rw [if_neg e2]; exact hO.1 p c hp hc hz
  · constructor
    · unfold wedF; rw [upd_ne (by omega), upd_ne (by omega), upd_ne (by omega)]; unfold wd1; rw [upd_ne (by omega), wdU_o 4 (fun i hi => ⟨by omega, by omega⟩)]
      exact (hO.2.1 p q1 q2).1
    · rw [wedF_44 (by omega) (by omega) (by omega) (by omega), if_neg (by omega), if_neg (by omega)]; exact (hO.2.1 p q1 q2).2
  · by_cases h32 : x < 32
    · have := hb (x / 4) (x % 4) (by omega) (by omega)
      rwa [show 4 * (x / 4) + x % 4 = x by omega] at this
    · rw [wedF_lo (by omega), wdU_o 4 (fun i hi => ⟨by omega, by omega⟩)]; exact hO.2.2.1 x hx
  · rw [wedF_44 (by omega) (by omega) (by omega) (by omega)]
    by_cases e1 : p = m
    · refine Or.inr ⟨g, hg, by omega, by rw [if_pos (by omega)], ?_, ?_⟩
      · rw [wedF_44 (by omega) (by omega) (by omega) (by omega), if_neg (by omega), if_pos rfl, e1]
      · rw [e1]; exact ⟨fun q => absurd q hmm, fun q => absurd hgg q⟩
    · rw [if_neg (by omega)]
      by_cases e2 : p = g
      · refine Or.inr ⟨m, hm, by omega, by rw [if_pos (by omega)], ?_, ?_⟩
        · rw [wedF_44 (by omega) (by omega) (by omega) (by omega), if_pos rfl, e2]
        · rw [e2]; exact ⟨fun _ => hmm, fun _ => hgg⟩
      · rw [if_neg (by omega)]
        rcases hO.2.2.2.2.1 p hp with q1 | ⟨q, q1, q2, q3, q4, q5⟩
        · exact Or.inl q1
        · refine Or.inr ⟨q, q1, q2, q3, ?_, q5⟩
          have z1 : q ≠ m := fun e => by rw [e, h2] at q4; exact nI_m1 (by omega) q4.symm
          have z2 : q ≠ g := fun e => by rw [e, h1] at q4; exact nI_m1 (by omega) q4.symm
          rw [wedF_44 (by omega) (by omega) (by omega) (by omega), if_neg (by omega), if_neg (by omega)]; exact q4
  · rw [wedF_44 (by omega) (by omega) (by omega) (by omega)] at q4
    rw [hlo p c (by omega) q2]
    have e1 : p ≠ g := fun e => q3 (by rw [e]; exact hgg)
    rw [if_neg e1]
    by_cases e2 : p = m
    · rw [if_pos e2]
    · rw [if_neg (by omega), if_neg (by omega)] at q4
      rw [if_neg e2]; exact hO.2.2.2.2.2 p c q1 q2 q3 q4
/-! a divorce -/
theorem dvU_gm {f : Nat → Int32} {g m : Nat} (hg : g < 8) (hm : m < 8) (hne : g ≠ m) {j : Nat} (hj : j < 4) : ∀ c, c ≤ 4 → j < c → dvU f g m c (4 * g + j) = f (4 * g + j) - f (4 * g + j) / 2 ∧ dvU f g m c (4 * m + j) = f (4 * g + j) / 2
  | 0, _, h => absurd h (by omega)
  | c + 1, hc, h => by
    have es : dvU f g m (c + 1) = upd (upd (dvU f g m c) (4 * m + c) (dvU f g m c (4 * g + c) / 2)) (4 * g + c) (upd (dvU f g m c) (4 * m + c) (dvU f g m c (4 * g + c) / 2) (4 * g + c) - dvU f g m c (4 * g + c) / 2) := rfl
    rw [es]
    by_cases e : j = c
    · subst e
      rw [upd_at, upd_ne (by omega), upd_ne (by omega), upd_at, dvU_o j (fun i hi => ⟨by omega, by omega⟩)]
      exact ⟨rfl, rfl⟩
    · rw [upd_ne (by omega), upd_ne (by omega), upd_ne (by omega), upd_ne (by omega)]
      exact dvU_gm hg hm hne hj c (by omega) (by omega)
theorem divF_lo {f : Nat → Int32} {g m k : Nat} (hk : k < 36) : divF f g m k = dvU f g m 4 k := by
  unfold divF dv1; rw [upd_ne (by omega), upd_ne (by omega), upd_ne (by omega)]
theorem divF_44 {f : Nat → Int32} {g m k : Nat} (hg : g < 8) (hm : m < 8) (h1 : 44 ≤ k) (h2 : k < 52) : divF f g m k = if k = 44 + m then -1 else if k = 44 + g then -1 else f k := by
  unfold divF
  by_cases e1 : k = 44 + m
  · rw [e1, upd_at, if_pos rfl]
  · rw [upd_ne e1, if_neg e1]
    by_cases e2 : k = 44 + g
    · rw [e2, upd_at, if_pos rfl]
    · rw [upd_ne e2, if_neg e2]; unfold dv1; rw [upd_ne (by omega), dvU_o 4 (fun i hi => ⟨by omega, by omega⟩)]
theorem divF_52 {f : Nat → Int32} {g m : Nat} (hg : g < 8) (hm : m < 8) : divF f g m 52 = f 52 := by
  unfold divF dv1; rw [upd_ne (by omega), upd_ne (by omega), upd_ne (by omega), dvU_o 4 (fun i hi => ⟨by omega, by omega⟩)]
theorem okS_d {t n : Nat → Int32} {nc np g m : Nat} (hT : okT t nc np) (hO : okS t n nc np) (hg : g < np) (hm : m < np) (hne : g ≠ m) (h1 : n (44 + g) = nI m) (h2 : n (44 + m) = nI g) : okS t (divF n g m) nc np := by
  have hc4 := hT.1.2.2.1
  have hp8 := hT.1.2.2.2
  have e52 : divF n g m 52 = n 52 := divF_52 (by omega) (by omega)
  have hlo : ∀ p c, p < 8 → c < 4 → divF n g m (4 * p + c) = if p = g then n (4 * g + c) - n (4 * g + c) / 2 else if p = m then n (4 * g + c) / 2 else n (4 * p + c) := by
    intro p c hp hc
    rw [divF_lo (by omega)]
    have hgm := dvU_gm (f := n) (by omega : g < 8) (by omega : m < 8) hne hc 4 (by omega) (by omega)
    by_cases e1 : p = g
    · rw [if_pos e1, e1, hgm.1]
    · rw [if_neg e1]
      by_cases e2 : p = m
      · rw [if_pos e2, e2, hgm.2]
      · rw [if_neg e2, dvU_o 4 (fun i hi => ⟨by omega, by omega⟩)]
  have hb : ∀ p c, p < 8 → c < 4 → ∃ j : Nat, j ≤ 9999 ∧ divF n g m (4 * p + c) = nI j := by
    intro p c hp hc
    rw [hlo p c hp hc]
    obtain ⟨a, ha, ea⟩ := hO.2.2.1 (4 * g + c) (by omega)
    have e2 : (nI a : Int32) / 2 = nI (a / 2) := pk_div (d := 2) (by omega) (by decide) (by decide)
    rw [ea, e2]
    by_cases e1 : p = g
    · rw [if_pos e1, pk_sub (by omega)]; exact ⟨_, by omega, rfl⟩
    · rw [if_neg e1]
      by_cases e3 : p = m
      · rw [if_pos e3]; exact ⟨_, by omega, rfl⟩
      · rw [if_neg e3]; exact hO.2.2.1 (4 * p + c) (by omega)
  refine ⟨fun p c hp hc hz => ?_, fun p q1 q2 => ?_, fun x hx => ?_, by rw [e52]; exact hO.2.2.2.1, fun p hp => ?_, fun p c q1 q2 q3 q4 => ?_⟩
  · rw [e52] at hz
    rw [hlo p c hp hc]
    by_cases e1 : p = g ∨ p = m
    · have hz2 : nc ≤ c ∨ hasB (n 52) c := by
        rcases hz with z | z
        · omega
        · exact z
      rw [hO.1 g c (by omega) hc (Or.inr hz2)]
      rcases e1 with e1 | e1
      · rw [if_pos e1]; decide
      · rw [if_neg (by omega), if_pos e1]; decide
    · rw [if_neg (by omega), if_neg (by omega)]; exact hO.1 p c hp hc hz
  · constructor
    · unfold divF dv1; rw [upd_ne (by omega), upd_ne (by omega), upd_ne (by omega), dvU_o 4 (fun i hi => ⟨by omega, by omega⟩)]
      exact (hO.2.1 p q1 q2).1
    · rw [divF_44 (by omega) (by omega) (by omega) (by omega), if_neg (by omega), if_neg (by omega)]; exact (hO.2.1 p q1 q2).2
  · by_cases h32 : x < 32
    · have := hb (x / 4) (x % 4) (by omega) (by omega)
      rwa [show 4 * (x / 4) + x % 4 = x by omega] at this
    · rw [divF_lo (by omega), dvU_o 4 (fun i hi => ⟨by omega, by omega⟩)]; exact hO.2.2.1 x hx
  · rw [divF_44 (by omega) (by omega) (by omega) (by omega)]
    by_cases e1 : p = m
    · exact Or.inl (if_pos (by omega))
    · rw [if_neg (by omega)]
      by_cases e2 : p = g
      · exact Or.inl (if_pos (by omega))
      · rw [if_neg (by omega)]
        rcases hO.2.2.2.2.1 p hp with q1 | ⟨q, q1, q2, q3, q4, q5⟩
        · exact Or.inl q1
        · refine Or.inr ⟨q, q1, q2, q3, ?_, q5⟩
          have z1 : q ≠ m := fun e => by rw [e, h2, nI_eq (by omega) (by omega)] at q4; omega
          have z2 : q ≠ g := fun e => by rw [e, h1, nI_eq (by omega) (by omega)] at q4; omega
          rw [divF_44 (by omega) (by omega) (by omega) (by omega), if_neg (by omega), if_neg (by omega)]; exact q4
  · rw [divF_44 (by omega) (by omega) (by omega) (by omega)] at q4
    rw [hlo p c (by omega) q2]
    by_cases e1 : p = m
    · rw [if_pos (by omega)] at q4; exact absurd rfl q4
    · rw [if_neg (by omega)] at q4
      by_cases e2 : p = g
      · rw [if_pos (by omega)] at q4; exact absurd rfl q4
      · rw [if_neg (by omega)] at q4
        rw [if_neg e2, if_neg e1]; exact hO.2.2.2.2.2 p c q1 q2 q3 q4
theorem okS_c {t f g : Nat → Int32} {nc np : Nat} (hp8 : np ≤ 8) (h : eq54 f g) (hO : okS t f nc np) : okS t g nc np := by
  obtain ⟨h1, h2, h3, h4, h5, h6⟩ := hO
  refine ⟨fun p c q1 q2 q3 => ?_, fun p q1 q2 => ?_, fun k hk => ?_, ?_, fun p hp => ?_, fun p c q1 q2 q3 q4 => ?_⟩
  · rw [← h _ (by omega)]; exact h1 p c q1 q2 (by rw [h 52 (by omega)]; exact q3)
  · rw [← h _ (by omega), ← h _ (by omega)]; exact h2 p q1 q2
  · rw [← h _ (by omega)]; exact h3 k hk
  · rw [← h _ (by omega)]; exact h4
  · rw [← h _ (by omega)]
    rcases h5 p hp with z | ⟨q, z1, z2, z3, z4, z5⟩
    · exact Or.inl z
    · exact Or.inr ⟨q, z1, z2, z3, by rw [← h _ (by omega)]; exact z4, z5⟩
  · rw [← h _ (by omega)] at q4 ⊢; exact h6 p c q1 q2 q3 q4
/-! what failed in several quarters -/
def fqU (t : Nat → Int32) (nc np : Nat) (n : Nat → Int32) : Nat → Int32
  | 0 => 0
  | k + 1 => fqU t nc np n k ||| soursU t (qg2 t (nQ t nc np n k)) np nc
theorem bt_xm (x : Int32) {i : Nat} (hi : i < 32) : bt (x ^^^ (-1)) i = !bt x i := by
  have h1 : bt (-1) i = true := by
    have key : ∀ i, i < 32 → bt (-1) i = true := by decide +kernel
    exact key i hi
  unfold bt at *
  rw [Int32.toBitVec_xor, BitVec.getLsbD_xor, h1, Bool.xor_true]
theorem fq_eq {t n : Nat → Int32} {nc np : Nat} (hc : nc ≤ 4) : ∀ k, fqU t nc np n k = nQ t nc np n k 52 &&& (n 52 ^^^ (-1)) ∧ ∀ i, i < 32 → bt (n 52) i = true → bt (nQ t nc np n k 52) i = true
  | 0 => by
    refine ⟨b_ext (fun i hi => ?_), fun i _ h => h⟩
    rw [b_and, bt_xm _ hi]
    show bt 0 i = (bt (n 52) i && !bt (n 52) i)
    rw [Bool.and_not_self]; simp [bt]
  | k + 1 => by
    obtain ⟨e, hsub⟩ := fq_eq (t := t) (n := n) (np := np) hc k
    have e52 : nQ t nc np n (k + 1) 52 = nQ t nc np n k 52 ||| soursU t (qg2 t (nQ t nc np n k)) np nc := qgF_52 _ _ _ _
    rw [e52]
    refine ⟨b_ext (fun i hi => ?_), fun i hi h => ?_⟩
    · show bt (fqU t nc np n k ||| soursU t (qg2 t (nQ t nc np n k)) np nc) i = _
      rw [b_or, e, b_and, b_and, b_or, bt_xm _ hi]
      by_cases hs : bt (soursU t (qg2 t (nQ t nc np n k)) np nc) i = true
      · have h2 := (has_setU (P := failP t (qg2 t (nQ t nc np n k)) np) hi nc (by omega)).mp ((has_bt hi).mpr hs)
        have h3 : ¬ hasB (nQ t nc np n k 52) i := by
          have h4 := h2.2
          unfold failP at h4
          rw [decide_eq_true_eq, qg2_52] at h4
          exact h4.1
        have h5 : bt (n 52) i = false := by
          rcases hb : bt (n 52) i with _ | _
          · rfl
          · exact absurd ((has_bt hi).mpr (hsub i hi hb)) h3
        rw [hs, h5]; simp
      · rw [Bool.not_eq_true] at hs
        rw [hs, Bool.or_false, Bool.or_false]
    · rw [b_or, hsub i hi h]; rfl
theorem fq_lt {t n : Nat → Int32} {nc np : Nat} (hc : nc ≤ 4) : ∀ k, lt16 (fqU t nc np n k)
  | 0 => ⟨0, by decide, rfl⟩
  | k + 1 => lt16_or (fq_lt hc k) (lt16_setU nc hc)
/-! refusals of pairs -/
def rfP (t n : Nat → Int32) (g m : Int32) : Int32 := if ¬ (isG t g ∧ isM t m) then cUNK else if ¬ (n (44 + cl g) = -1 ∧ n (44 + cl m) = -1) then cNOT else 0
theorem rfP_0 {t n : Nat → Int32} {g m : Int32} (h : rfP t n g m = 0) : isG t g ∧ isM t m ∧ n (44 + cl g) = -1 ∧ n (44 + cl m) = -1 := by
  unfold rfP at h
  by_cases h1 : isG t g ∧ isM t m
  · rw [if_neg (not_not_intro h1)] at h
    by_cases h2 : n (44 + cl g) = -1 ∧ n (44 + cl m) = -1
    · exact ⟨h1.1, h1.2, h2.1, h2.2⟩
    · rw [if_pos h2] at h; exact absurd h (by decide)
  · rw [if_pos h1] at h; exact absurd h (by decide)
theorem rfP_n {t n : Nat → Int32} {g m : Int32} (h : ¬ rfP t n g m = 0) : ¬ (isG t g ∧ isM t m ∧ n (44 + cl g) = -1 ∧ n (44 + cl m) = -1) := by
  rintro ⟨h1, h2, h3, h4⟩
  exact h (by unfold rfP; rw [if_neg (not_not_intro ⟨h1, h2⟩), if_neg (not_not_intro ⟨h3, h4⟩)])
/-! draws, as the class makes them -/
theorem land31 (k : Nat) : lN k &&& 2147483647 = lN (k % 2147483648) := by
  apply Int64.toBitVec_inj.mp
  apply BitVec.eq_of_toNat_eq
  rw [Int64.toBitVec_and, BitVec.toNat_and]
  show (BitVec.ofNat 64 k).toNat &&& (2147483647 : Nat) = (BitVec.ofNat 64 (k % 2147483648)).toNat
  rw [BitVec.toNat_ofNat, BitVec.toNat_ofNat, show (2147483647 : Nat) = 2 ^ 31 - 1 by decide, Nat.and_two_pow_sub_one_eq_mod]
  omega
theorem drawC {sd : Nat} (h : sd < 2147483648) : (((nI sd).toInt64 * 1103515245 + 12345) &&& 2147483647).toInt32 = nI (nxtN sd) := by
  rw [nI_l h, show (1103515245 : Int64) = lN 1103515245 from rfl, show (12345 : Int64) = lN 12345 from rfl, lN_mul, lN_add, land31, lN_i]; rfl
theorem okS_df {t n : Nat → Int32} {nc np sd : Nat} (hT : okT t nc np) (hO : okS t n nc np) : okS t (dfN t nc np n sd) nc np := by
  unfold dfN
  by_cases h : np = 0
  · rw [if_pos h]; exact hO
  · rw [if_neg h]
    have hn := hT.2.2.1 (by omega)
    by_cases h2 : 0 < drN (nxtN (nxtN sd)) 100 ∧ mayB t n (drN sd np) (drN (nxtN sd) nc) (nI (drN (nxtN (nxtN sd)) 100))
    · rw [if_pos h2]
      exact okS_b hT hO (drN_lt (by omega)) (drN_lt hn) (by have := drN_lt (sd := nxtN (nxtN sd)) (k := 100) (by decide); omega) h2.2
    · rw [if_neg h2]; exact hO
theorem okS_nD {t n : Nat → Int32} {nc np sd : Nat} (hT : okT t nc np) (hO : okS t n nc np) : ∀ k, okS t (nD t nc np n sd k) nc np
  | 0 => hO
  | k + 1 => okS_q hT (okS_df hT (okS_nD hT hO k))
