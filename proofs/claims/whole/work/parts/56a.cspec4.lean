/-! plans, as the class counts them -/
def cfR (t co : Nat → Int32) (c : Nat) (r : Int32) : Int32 := if inB (growI r (t 1)) (t (9 + c)) (t (13 + c)) then co (cl (growI r (t 1))) else 1000000
def lqU (t co : Nat → Int32) (c : Nat) : Nat → Int32
  | 0 => 1000000
  | k + 1 => if cfR t co c (nI k) < 1000000 then (if cfR t co c (nI k) - nI k < lqU t co c k then cfR t co c (nI k) - nI k else lqU t co c k) else lqU t co c k
def lqG (t co : Nat → Int32) (c k : Nat) : Int32 := if lqU t co c (k + 1) = 1000000 then 1000000 else lqU t co c (k + 1) + nI k
def rwQ (t : Nat → Int32) (c hi : Nat) (z : Nat → Int32) : Nat → Nat → Int32
  | 0 => z
  | q + 1 => upto (rwQ t c hi z q) (lqG t (rwQ t c hi z q) c) (hi + 1)
def paB (t co : Nat → Int32) (c : Nat) (o : Int32) (r : Nat) : Int32 := cfR t co c (nI r) + o - nI r
def paF (t co : Nat → Int32) (c : Nat) (o : Int32) : Nat → Int32
  | 0 => 1000000
  | k + 1 => if paB t co c o k ≤ paF t co c o k ∧ paB t co c o k < 1000000 then paB t co c o k else paF t co c o k
def paL (t co : Nat → Int32) (c : Nat) (o z : Int32) : Nat → Int32
  | 0 => z
  | k + 1 => if paB t co c o k ≤ paF t co c o k ∧ paB t co c o k < 1000000 then o - nI k else paL t co c o z k
theorem less_m {x y : Nat} (hx : x < 2147483648) (hy : y < 2147483648) : lessI (nI x) (nI y) = nI (min x y) := by
  unfold lessI
  by_cases e : x < y
  · rw [if_pos ((nI_ltI hx hy).mpr e), Nat.min_eq_left (by omega)]
  · rw [if_neg (fun q => e ((nI_ltI hx hy).mp q)), Nat.min_eq_right (by omega)]
theorem grow_nI {v r : Nat} (hv : v ≤ 9999) (hr : r ≤ 30) : growI (nI v) (nI r) = nI (min (v + v * r / 100) 9999) := by
  have hm : v * r ≤ 9999 * 30 := Nat.mul_le_mul hv hr
  unfold growI
  rw [pk_mul, show (100 : Int32) = nI 100 from rfl, pk_div (by omega) (by decide) (by decide), nI_add]
  exact less_m (y := 9999) (by omega) (by decide)
theorem grow_ge {v r : Nat} (hv : v ≤ 9999) (hr : r ≤ 30) : ∃ w, v ≤ w ∧ w ≤ 9999 ∧ growI (nI v) (nI r) = nI w :=
  ⟨min (v + v * r / 100) 9999, by omega, by omega, grow_nI hv hr⟩
theorem cfR_up {t co g : Nat → Int32} {c i r : Nat} (hr : t 1 = nI r) (hr2 : r ≤ 30) (hi : i ≤ 999) : cfR t (upto co g i) c (nI i) = cfR t co c (nI i) := by
  unfold cfR
  by_cases h : inB (growI (nI i) (t 1)) (t (9 + c)) (t (13 + c))
  · rw [if_pos h, if_pos h]
    obtain ⟨w, h1, h2, e⟩ := grow_ge (v := i) (r := r) (by omega) hr2
    rw [hr, e, cl_nI (by omega), upto_at _ _ h1]
  · rw [if_neg h, if_neg h]
/-- the rows agree: none, or so few coins -/
def rowOK (co pt : Nat → Int32) (hi q : Nat) : Prop := ∀ v, v ≤ hi → co v = pt v ∧ (pt v = 1000000 ∨ ∃ j : Nat, j ≤ 1000 * q ∧ pt v = nI j)
theorem ti_ne {x y : Int32} (h : ¬ x = y) : x.toInt ≠ y.toInt := fun q => h (Int32.toInt_inj.mp q)
theorem less_ti (x y : Int32) : (lessI x y).toInt = min x.toInt y.toInt := by
  unfold lessI
  by_cases h : x < y
  · rw [if_pos h]; rw [Int32.lt_iff_toInt_lt] at h; omega
  · rw [if_neg h]; rw [Int32.lt_iff_toInt_lt] at h; omega
theorem less2_ti (x y : Int32) : (if y < x then y else x).toInt = min x.toInt y.toInt := by
  by_cases h : y < x
  · rw [if_pos h]; rw [Int32.lt_iff_toInt_lt] at h; omega
  · rw [if_neg h]; rw [Int32.lt_iff_toInt_lt] at h; omega
theorem mil : (1000000 : Int32).toInt = 1000000 := by decide
theorem half : (500000 : Int32).toInt = 500000 := by decide
/-- what the quarters that are left cost from here: class and reference -/
theorem cf_pb {t co pt : Nat → Int32} {c hi q k : Nat} (hl : loHi t c) (hh : t (13 + c) = nI hi) (hhi : hi ≤ 999) (hq : q ≤ 8) (hR : rowOK co pt hi q) (hk : k ≤ 1000) :
    (cfR t co c (nI k) = 1000000 ∧ 500000 ≤ (pbR t pt c 0 (nI k)).toInt ∧ (pbR t pt c 0 (nI k)).toInt ≤ 1000000) ∨ ∃ j : Nat, j ≤ 1000 * q ∧ cfR t co c (nI k) = nI j ∧ (pbR t pt c 0 (nI k)).toInt = (j : Int) - k := by
  unfold cfR pbR
  by_cases h : inB (growI (nI k) (t 1)) (t (9 + c)) (t (13 + c))
  · rw [if_pos h, if_pos h]
    obtain ⟨a, b, ha, hb, ha2, hb2⟩ := hl
    obtain ⟨v, h1, h2, h3⟩ := inB_rng ha hh (by omega) (by omega) h
    rw [h3, cl_nI (by omega)]
    obtain ⟨e1, e2⟩ := hR v h2
    rw [e1]
    have hz : ((0 : Int32) - nI k).toInt = -(k : Int) := by
      rw [show (0 : Int32) = nI 0 from rfl, pk_sub_toInt (by omega) (by omega)]; omega
    rcases e2 with e2 | ⟨j, hj, e2⟩
    · refine Or.inl ⟨e2, ?_⟩
      rw [e2, ti_add (by rw [hz, mil]; omega) (by rw [hz, mil]; omega), hz, mil]; omega
    · refine Or.inr ⟨j, hj, e2, ?_⟩
      have hj2 : (nI j).toInt = (j : Int) := nI_toInt (by omega)
      rw [e2, ti_add (by rw [hz, hj2]; omega) (by rw [hz, hj2]; omega), hz, hj2]; omega
  · rw [if_neg h, if_neg h]
    exact Or.inl ⟨rfl, by rw [mil]; omega, by rw [mil]; omega⟩
theorem lq_pl {t co pt : Nat → Int32} {c hi q : Nat} (hl : loHi t c) (hh : t (13 + c) = nI hi) (hhi : hi ≤ 999) (hq : q ≤ 8) (hR : rowOK co pt hi q) : ∀ k, k ≤ 1000 →
    (lqU t co c k = 1000000 ∧ 500000 ≤ (plB t pt c k).toInt ∧ (plB t pt c k).toInt ≤ 1000000) ∨ (lqU t co c k = plB t pt c k ∧ -(k : Int) < (plB t pt c k).toInt ∧ (plB t pt c k).toInt ≤ 1000 * (q : Int))
  | 0, _ => Or.inl ⟨rfl, by show 500000 ≤ (1000000 : Int32).toInt; rw [mil]; omega, by show (1000000 : Int32).toInt ≤ 1000000; rw [mil]; omega⟩
  | k + 1, hk => by
    have ih := lq_pl hl hh hhi hq hR k (by omega)
    have hp : (plB t pt c (k + 1)).toInt = min (plB t pt c k).toInt (pbR t pt c 0 (nI k)).toInt := less_ti _ _
    have hu : lqU t co c (k + 1) = if cfR t co c (nI k) < 1000000 then (if cfR t co c (nI k) - nI k < lqU t co c k then cfR t co c (nI k) - nI k else lqU t co c k) else lqU t co c k := rfl
    rcases cf_pb (k := k) hl hh hhi hq hR (by omega) with ⟨h1, h2, h3⟩ | ⟨j, h1, h2, h3⟩
    · rw [h1, if_neg (by decide)] at hu
      rw [hu]
      rcases ih with ⟨i1, i2, i3⟩ | ⟨i1, i2, i3⟩
      · exact Or.inl ⟨i1, by omega, by omega⟩
      · refine Or.inr ⟨?_, by omega, by omega⟩
        rw [i1]; apply Int32.toInt_inj.mp; omega
    · have hj2 : (nI j).toInt = (j : Int) := nI_toInt (by omega)
      have hlt : nI j < (1000000 : Int32) := by rw [Int32.lt_iff_toInt_lt, hj2, mil]; omega
      rw [h2, if_pos hlt] at hu
      have hd : (nI j - nI k).toInt = (j : Int) - k := pk_sub_toInt (by omega) (by omega)
      have hu2 : (lqU t co c (k + 1)).toInt = min (lqU t co c k).toInt (nI j - nI k).toInt := by rw [hu]; exact less2_ti _ _
      refine Or.inr ?_
      rcases ih with ⟨i1, i2, i3⟩ | ⟨i1, i2, i3⟩
      · rw [i1, mil] at hu2
        exact ⟨Int32.toInt_inj.mp (by omega), by omega, by omega⟩
      · rw [i1] at hu2
        exact ⟨Int32.toInt_inj.mp (by omega), by omega, by omega⟩
theorem rowOK_s {t co pt : Nat → Int32} {c hi q : Nat} (hl : loHi t c) (hh : t (13 + c) = nI hi) (hhi : hi ≤ 999) (hq : q ≤ 8) (hR : rowOK co pt hi q) : rowOK (upto co (lqG t co c) (hi + 1)) (plG t pt c) hi (q + 1) := by
  intro v hv
  have e : upto co (lqG t co c) (hi + 1) v = lqG t co c v := if_pos (by omega)
  rw [e]
  unfold lqG plG
  rcases lq_pl hl hh hhi hq hR (v + 1) (by omega) with ⟨h1, h2, h3⟩ | ⟨h1, h2, h3⟩
  · rw [if_pos h1, if_neg (by rw [Int32.lt_iff_toInt_lt, half]; omega)]
    exact ⟨rfl, Or.inl rfl⟩
  · have hv2 : (nI v).toInt = (v : Int) := nI_toInt (by omega)
    rw [if_neg (fun q => by
      have := congrArg Int32.toInt q
      rw [h1, mil] at this; omega), if_pos (by rw [Int32.lt_iff_toInt_lt, half]; omega), h1]
    refine ⟨rfl, Or.inr ⟨((plB t pt c (v + 1)).toInt + v).toNat, by omega, ?_⟩⟩
    apply Int32.toInt_inj.mp
    rw [ti_add (by rw [hv2]; omega) (by rw [hv2]; omega), hv2, nI_toInt (by omega)]
    omega
theorem rowOK_q {t z : Nat → Int32} {c hi : Nat} (hl : loHi t c) (hh : t (13 + c) = nI hi) (hhi : hi ≤ 999) (hz : ∀ v, v < 1000 → z v = 0) : ∀ q, q ≤ 8 → rowOK (rwQ t c hi z q) (plT t c q) hi q
  | 0, _ => fun v hv => ⟨hz v (by omega), Or.inr ⟨0, by omega, rfl⟩⟩
  | q + 1, hq => rowOK_s hl hh hhi (by omega) (rowOK_q hl hh hhi hz q (by omega))
/-! the last pay: from the greatest rest down, and from the least up -/
def gdP (t pt : Nat → Int32) (c r : Nat) : Prop := inB (growI (nI r) (t 1)) (t (9 + c)) (t (13 + c)) ∧ ¬ pt (cl (growI (nI r) (t 1))) = 1000000
def gdZ (t pt : Nat → Int32) (c ow r : Nat) : Int := (ow : Int) - r + (pt (cl (growI (nI r) (t 1)))).toInt
theorem gd_pb {t co pt : Nat → Int32} {c hi q r ow : Nat} (hl : loHi t c) (hh : t (13 + c) = nI hi) (hhi : hi ≤ 999) (hq : q ≤ 8) (hR : rowOK co pt hi q) (ho : ow ≤ 9999) (hr : r ≤ ow) :
    (gdP t pt c r → (pbR t pt c (nI ow) (nI r)).toInt = gdZ t pt c ow r ∧ (paB t co c (nI ow) r).toInt = gdZ t pt c ow r ∧ gdZ t pt c ow r < 500000 ∧ 0 ≤ gdZ t pt c ow r) ∧
    (¬ gdP t pt c r → 500000 ≤ (pbR t pt c (nI ow) (nI r)).toInt ∧ 1000000 ≤ (paB t co c (nI ow) r).toInt) := by
  have hd : (nI ow - nI r).toInt = (ow : Int) - r := pk_sub_toInt (by omega) (by omega)
  have hoi : (nI ow).toInt = (ow : Int) := nI_toInt (by omega)
  have hri : (nI r).toInt = (r : Int) := nI_toInt (by omega)
  have key : ∀ x : Int32, 0 ≤ x.toInt → x.toInt ≤ 1000000 → (x + nI ow - nI r).toInt = x.toInt + ow - r := by
    intro x h1 h2
    have e1 : (x + nI ow).toInt = x.toInt + ow := by rw [ti_add (by rw [hoi]; omega) (by rw [hoi]; omega), hoi]
    rw [ti_sub (by rw [e1, hri]; omega) (by rw [e1, hri]; omega), e1, hri]
  unfold gdP gdZ paB cfR pbR
  by_cases h : inB (growI (nI r) (t 1)) (t (9 + c)) (t (13 + c))
  · rw [if_pos h, if_pos h]
    obtain ⟨a, b, ha, hb, ha2, hb2⟩ := hl
    obtain ⟨v, h1, h2, h3⟩ := inB_rng ha hh (by omega) (by omega) h
    rw [h3, cl_nI (by omega)]
    obtain ⟨e1, e2⟩ := hR v h2
    rw [e1]
    rcases e2 with e2 | ⟨j, hj, e2⟩
    · rw [e2]
      refine ⟨fun q => absurd rfl q.2, fun _ => ⟨?_, ?_⟩⟩
      · rw [ti_add (by rw [hd, mil]; omega) (by rw [hd, mil]; omega), hd, mil]; omega
      · rw [key _ (by rw [mil]; omega) (by rw [mil]; omega), mil]; omega
    · have hj2 : (nI j).toInt = (j : Int) := nI_toInt (by omega)
      have hne : ¬ nI j = (1000000 : Int32) := fun q => by
        have := congrArg Int32.toInt q
        rw [hj2, mil] at this; omega
      rw [e2]
      refine ⟨fun _ => ⟨?_, ?_, by rw [hj2]; omega, by rw [hj2]; omega⟩, fun q => absurd ⟨by rw [← h3]; exact h, hne⟩ q⟩
      · rw [ti_add (by rw [hd, hj2]; omega) (by rw [hd, hj2]; omega), hd]
      · rw [key _ (by rw [hj2]; omega) (by rw [hj2]; omega)]; omega
  · rw [if_neg h, if_neg h]
    refine ⟨fun q => absurd q.1 h, fun _ => ⟨by rw [mil]; omega, ?_⟩⟩
    rw [key _ (by rw [mil]; omega) (by rw [mil]; omega), mil]; omega
/-- the best of those in the range, of like ones the greatest rest -/
def bestR (gd : Nat → Prop) (z : Nat → Int) (In : Nat → Prop) (r0 : Nat) : Prop := In r0 ∧ gd r0 ∧ (∀ r, In r → gd r → z r0 ≤ z r) ∧ ∀ r, In r → r0 < r → gd r → z r0 < z r
theorem plL_best {t co pt : Nat → Int32} {c hi q ow mn : Nat} (hl : loHi t c) (hh : t (13 + c) = nI hi) (hhi : hi ≤ 999) (hq : q ≤ 8) (hR : rowOK co pt hi q) (ho : ow ≤ 9999) (hm : mn ≤ ow) : ∀ i, i ≤ mn + 1 →
    (plF t pt c (nI ow) mn i = 500000 ∧ plL t pt c (nI ow) mn i = -1 ∧ ∀ r, r ≤ mn → mn < r + i → ¬ gdP t pt c r) ∨
    ∃ r0, bestR (gdP t pt c) (gdZ t pt c ow) (fun r => r ≤ mn ∧ mn < r + i) r0 ∧ (plF t pt c (nI ow) mn i).toInt = gdZ t pt c ow r0 ∧ plL t pt c (nI ow) mn i = nI (ow - r0)
  | 0, _ => Or.inl ⟨rfl, rfl, fun r h1 h2 => absurd h1 (by omega)⟩
  | i + 1, hi' => by
    have ih := plL_best hl hh hhi hq hR ho hm i (by omega)
    have es : nI mn - nI i = nI (mn - i) := pk_sub (by omega)
    have eF : plF t pt c (nI ow) mn (i + 1) = lessI (plF t pt c (nI ow) mn i) (pbR t pt c (nI ow) (nI (mn - i))) := by rw [← es]; rfl
    have eL : plL t pt c (nI ow) mn (i + 1) = if pbR t pt c (nI ow) (nI (mn - i)) < plF t pt c (nI ow) mn i then nI ow - nI (mn - i) else plL t pt c (nI ow) mn i := by rw [← es]; rfl
    have eT : (plF t pt c (nI ow) mn (i + 1)).toInt = min (plF t pt c (nI ow) mn i).toInt (pbR t pt c (nI ow) (nI (mn - i))).toInt := by rw [eF]; exact less_ti _ _
    have G := gd_pb (r := mn - i) hl hh hhi hq hR ho (by omega)
    by_cases hg : gdP t pt c (mn - i)
    · obtain ⟨g1, -, g2, g3⟩ := G.1 hg
      rcases ih with ⟨i1, i2, i3⟩ | ⟨r0, ⟨⟨b1, b2⟩, b3, b4, b5⟩, i2, i3⟩
      · refine Or.inr ⟨mn - i, ⟨⟨by omega, by omega⟩, hg, fun r hr hgr => ?_, fun r hr hlt hgr => ?_⟩, ?_, ?_⟩
        · by_cases e : r = mn - i
          · rw [e]; omega
          · exact absurd hgr (i3 r hr.1 (by omega))
        · exact absurd hgr (i3 r hr.1 (by omega))
        · rw [eT, i1, half, g1]; omega
        · rw [eL, if_pos (by rw [Int32.lt_iff_toInt_lt, i1, half, g1]; exact g2)]
          exact pk_sub (by omega)
      · by_cases hlt : gdZ t pt c ow (mn - i) < gdZ t pt c ow r0
        · refine Or.inr ⟨mn - i, ⟨⟨by omega, by omega⟩, hg, fun r hr hgr => ?_, fun r hr hl2 hgr => ?_⟩, ?_, ?_⟩
          · by_cases e : r = mn - i
            · rw [e]; omega
            · have := b4 r ⟨hr.1, by omega⟩ hgr; omega
          · have := b4 r ⟨hr.1, by omega⟩ hgr; omega
          · rw [eT, i2, g1]; omega
          · rw [eL, if_pos (by rw [Int32.lt_iff_toInt_lt, i2, g1]; exact hlt)]
            exact pk_sub (by omega)
        · refine Or.inr ⟨r0, ⟨⟨b1, by omega⟩, b3, fun r hr hgr => ?_, fun r hr hl2 hgr => ?_⟩, ?_, ?_⟩
          · by_cases e : r = mn - i
            · rw [e]; omega
            · exact b4 r ⟨hr.1, by omega⟩ hgr
          · exact b5 r ⟨hr.1, by omega⟩ hl2 hgr
          · rw [eT, i2, g1]; omega
          · rw [eL, if_neg (by rw [Int32.lt_iff_toInt_lt, i2, g1]; exact hlt), i3]
    · obtain ⟨g1, -⟩ := G.2 hg
      rcases ih with ⟨i1, i2, i3⟩ | ⟨r0, ⟨⟨b1, b2⟩, b3, b4, b5⟩, i2, i3⟩
      · have hn : ¬ pbR t pt c (nI ow) (nI (mn - i)) < plF t pt c (nI ow) mn i := by rw [Int32.lt_iff_toInt_lt, i1, half]; omega
        refine Or.inl ⟨?_, by rw [eL, if_neg hn, i2], fun r h1 h2 => ?_⟩
        · apply Int32.toInt_inj.mp; rw [eT, i1, half]; omega
        · by_cases e : r = mn - i
          · rw [e]; exact hg
          · exact i3 r h1 (by omega)
      · have hz : gdZ t pt c ow r0 < 500000 := ((gd_pb (r := r0) hl hh hhi hq hR ho (by omega)).1 b3).2.2.1
        refine Or.inr ⟨r0, ⟨⟨b1, by omega⟩, b3, fun r hr hgr => ?_, fun r hr hl2 hgr => ?_⟩, ?_, ?_⟩
        · by_cases e : r = mn - i
          · exact absurd (e ▸ hgr) hg
          · exact b4 r ⟨hr.1, by omega⟩ hgr
        · exact b5 r ⟨hr.1, by omega⟩ hl2 hgr
        · rw [eT, i2]; omega
        · rw [eL, if_neg (by rw [Int32.lt_iff_toInt_lt, i2]; omega), i3]
theorem paL_best {t co pt : Nat → Int32} {c hi q ow : Nat} {z : Int32} (hl : loHi t c) (hh : t (13 + c) = nI hi) (hhi : hi ≤ 999) (hq : q ≤ 8) (hR : rowOK co pt hi q) (ho : ow ≤ 9999) : ∀ k, k ≤ ow + 1 →
    (paF t co c (nI ow) k = 1000000 ∧ ∀ r, r < k → ¬ gdP t pt c r) ∨
    ∃ r0, bestR (gdP t pt c) (gdZ t pt c ow) (fun r => r < k) r0 ∧ (paF t co c (nI ow) k).toInt = gdZ t pt c ow r0 ∧ paL t co c (nI ow) z k = nI (ow - r0)
  | 0, _ => Or.inl ⟨rfl, fun r h1 => absurd h1 (by omega)⟩
  | k + 1, hk => by
    have ih := paL_best (z := z) hl hh hhi hq hR ho k (by omega)
    have eF : paF t co c (nI ow) (k + 1) = if paB t co c (nI ow) k ≤ paF t co c (nI ow) k ∧ paB t co c (nI ow) k < 1000000 then paB t co c (nI ow) k else paF t co c (nI ow) k := rfl
    have eL : paL t co c (nI ow) z (k + 1) = if paB t co c (nI ow) k ≤ paF t co c (nI ow) k ∧ paB t co c (nI ow) k < 1000000 then nI ow - nI k else paL t co c (nI ow) z k := rfl
    have G := gd_pb (r := k) hl hh hhi hq hR ho (by omega)
    have hC : (paB t co c (nI ow) k ≤ paF t co c (nI ow) k ∧ paB t co c (nI ow) k < 1000000) ↔ ((paB t co c (nI ow) k).toInt ≤ (paF t co c (nI ow) k).toInt ∧ (paB t co c (nI ow) k).toInt < 1000000) := by
      rw [Int32.le_iff_toInt_le, Int32.lt_iff_toInt_lt, mil]
    by_cases hg : gdP t pt c k
    · obtain ⟨-, g1, g2, g3⟩ := G.1 hg
      rw [g1] at hC
      rcases ih with ⟨i1, i3⟩ | ⟨r0, ⟨b1, b3, b4, b5⟩, i2, i3⟩
      · rw [i1, mil] at hC
        rw [i1, if_pos (hC.mpr (by omega))] at eF eL
        refine Or.inr ⟨k, ⟨by show k < k + 1; omega, hg, fun r hr hgr => ?_, fun r hr hlt hgr => ?_⟩, by rw [eF, g1], by rw [eL]; exact pk_sub (by omega)⟩
        · have hr2 : r < k + 1 := hr
          by_cases e : r = k
          · rw [e]; omega
          · exact absurd hgr (i3 r (by omega))
        · have hr2 : r < k + 1 := hr
          exact absurd hlt (by omega)
      · have b1' : r0 < k := b1
        rw [i2] at hC
        by_cases hle : gdZ t pt c ow k ≤ gdZ t pt c ow r0
        · rw [if_pos (hC.mpr (by omega))] at eF eL
          refine Or.inr ⟨k, ⟨by show k < k + 1; omega, hg, fun r hr hgr => ?_, fun r hr hlt hgr => ?_⟩, by rw [eF, g1], by rw [eL]; exact pk_sub (by omega)⟩
          · have hr2 : r < k + 1 := hr
            by_cases e : r = k
            · rw [e]; omega
            · have := b4 r (show r < k by omega) hgr; omega
          · have hr2 : r < k + 1 := hr
            exact absurd hlt (by omega)
        · rw [if_neg (fun q => by have := hC.mp q; omega)] at eF eL
          refine Or.inr ⟨r0, ⟨by show r0 < k + 1; omega, b3, fun r hr hgr => ?_, fun r hr hlt hgr => ?_⟩, by rw [eF, i2], by rw [eL, i3]⟩
          · have hr2 : r < k + 1 := hr
            by_cases e : r = k
            · rw [e]; omega
            · exact b4 r (show r < k by omega) hgr
          · have hr2 : r < k + 1 := hr
            by_cases e : r = k
            · rw [e]; omega
            · exact b5 r (show r < k by omega) hlt hgr
    · obtain ⟨-, g1⟩ := G.2 hg
      rw [if_neg (fun q => by have := hC.mp q; omega)] at eF eL
      rcases ih with ⟨i1, i3⟩ | ⟨r0, ⟨b1, b3, b4, b5⟩, i2, i3⟩
      · refine Or.inl ⟨by rw [eF, i1], fun r hr => ?_⟩
        by_cases e : r = k
        · rw [e]; exact hg
        · exact i3 r (by omega)
      · have b1' : r0 < k := b1
        refine Or.inr ⟨r0, ⟨by show r0 < k + 1; omega, b3, fun r hr hgr => ?_, fun r hr hlt hgr => ?_⟩, by rw [eF, i2], by rw [eL, i3]⟩
        · have hr2 : r < k + 1 := hr
          by_cases e : r = k
          · exact absurd (e ▸ hgr) hg
          · exact b4 r (show r < k by omega) hgr
        · have hr2 : r < k + 1 := hr
          by_cases e : r = k
          · exact absurd (e ▸ hgr) hg
          · exact b5 r (show r < k by omega) hlt hgr
/-- a plan of the class's and of the reference's -/
theorem plan_eq {t co pt : Nat → Int32} {c hi q ow ir : Nat} {z w : Int32} (hl : loHi t c) (hh : t (13 + c) = nI hi) (hhi : hi ≤ 999) (hq : q ≤ 8) (hR : rowOK co pt hi q) (ho : ow ≤ 9999) (hir : t 1 = nI ir) (hir2 : ir ≤ 30) :
    (¬ paF t co c (nI ow) (min ow hi + 1) < 1000000 → plV t pt c (nI ow) w (min ow 999) = -1) ∧
    (paF t co c (nI ow) (min ow hi + 1) < 1000000 → plV t pt c (nI ow) w (min ow 999) = if w = 0 then paF t co c (nI ow) (min ow hi + 1) else paL t co c (nI ow) z (min ow hi + 1)) := by
  have hin : ∀ r, r ≤ min ow 999 → gdP t pt c r → r ≤ min ow hi := by
    intro r hr hg
    obtain ⟨v, h1, h2, e⟩ := grow_ge (v := r) (r := ir) (by omega) hir2
    have h3 := hg.1.2
    rw [hir, e, hh, nI_leI (by omega) (by omega)] at h3
    omega
  rcases plL_best hl hh hhi hq hR ho (show min ow 999 ≤ ow by omega) (min ow 999 + 1) (by omega) with ⟨a1, a2, a3⟩ | ⟨r0, ⟨⟨a1, a2⟩, a3, a4, a5⟩, a6, a7⟩
  · rcases paL_best (z := z) hl hh hhi hq hR ho (min ow hi + 1) (by omega) with ⟨b1, b3⟩ | ⟨r1, ⟨b1, b3, b4, b5⟩, b6, b7⟩
    · refine ⟨fun _ => ?_, fun h => absurd h (by rw [b1]; decide)⟩
      unfold plV; rw [if_pos a2]
    · have b1' : r1 < min ow hi + 1 := b1
      exact absurd b3 (a3 r1 (by omega) (by omega))
  · rcases paL_best (z := z) hl hh hhi hq hR ho (min ow hi + 1) (by omega) with ⟨b1, b3⟩ | ⟨r1, ⟨b1, b3, b4, b5⟩, b6, b7⟩
    · exact absurd a3 (b3 r0 (by have := hin r0 a1 a3; omega))
    · have b1' : r1 < min ow hi + 1 := b1
      have h0 := hin r0 a1 a3
      have e : r0 = r1 := by
        have c1 := a4 r1 ⟨by omega, by omega⟩ b3
        have c2 := b4 r0 (show r0 < min ow hi + 1 by omega) a3
        rcases Nat.lt_trichotomy r0 r1 with x | x | x
        · have := a5 r1 ⟨by omega, by omega⟩ x b3; omega
        · exact x
        · have := b5 r0 (show r0 < min ow hi + 1 by omega) x a3; omega
      subst e
      have hz := ((gd_pb (r := r0) hl hh hhi hq hR ho (by omega)).1 a3).2.2.1
      refine ⟨fun h => absurd (by rw [Int32.lt_iff_toInt_lt, b6, mil]; omega) h, fun _ => ?_⟩
      unfold plV
      rw [a7, if_neg (nI_m1 (by omega)), b7]
      by_cases hw : w = 0
      · rw [if_pos hw, if_pos hw]; apply Int32.toInt_inj.mp; rw [a6, b6]
      · rw [if_neg hw, if_neg hw]
