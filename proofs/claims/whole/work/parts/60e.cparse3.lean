/-! a person -/
theorem psQ0_K {tx : Nat → Int32} {sz k : Nat} {s : RSt} (h : ¬ s.2.1 = 0) : (psQ0 tx sz k s).2 = s.2 := by
  unfold psQ0
  by_cases e : k = 0
  · rw [if_pos e]
  · rw [if_neg e, opS_K h]
theorem psS_K {tx : Nat → Int32} {sz j : Nat} {s : RSt} (h : ¬ (psS tx sz s j).2.1 = 0) : ∀ d, (psS tx sz s (j + d)).2 = (psS tx sz s j).2
  | 0 => rfl
  | d + 1 => by
    have ih := psS_K h d
    have h1 : ¬ (psS tx sz s (j + d)).2.1 = 0 := by rw [ih]; exact h
    have h2 := psQ0_K (tx := tx) (sz := sz) (k := j + d) h1
    have h3 : ¬ (psQ0 tx sz (j + d) (psS tx sz s (j + d))).2.1 = 0 := by rw [h2]; exact h1
    have e : psS tx sz s (j + (d + 1)) = opN tx sz 0 999 (psQ0 tx sz (j + d) (psS tx sz s (j + d))) := rfl
    rw [e, opN_K h3, h2, ih]
/-- a fault at or behind number k stays -/
theorem ps_fin {tx : Nat → Int32} {sz k cn : Nat} {s : RSt} (hk : k ≤ cn) (h : ¬ (psS tx sz s k).2.1 = 0) : (opS tx sz 59 (psS tx sz s cn)).2 = (psS tx sz s k).2 ∧ ¬ (opS tx sz 59 (psS tx sz s cn)).2.1 = 0 := by
  have e := psS_K h (cn - k)
  rw [show k + (cn - k) = cn by omega] at e
  have h2 : ¬ (psS tx sz s cn).2.1 = 0 := by rw [e]; exact h
  rw [opS_K h2, e]; exact ⟨rfl, h⟩
/-- rows of what is owed: k read -/
def pRow (rn0 r0 rn r : Nat → Int32) (pn k : Nat) : Prop :=
  (∀ j, j < k → rn (4 * pn + j) = r (22 + 4 * pn + j) ∧ ∃ v : Nat, v ≤ 999 ∧ r (22 + 4 * pn + j) = nI v) ∧
  (∀ x, (∀ j, j < k → x ≠ 4 * pn + j) → rn x = rn0 x) ∧ (∀ x, (∀ j, j < k → x ≠ 22 + 4 * pn + j) → r x = r0 x)
theorem pRow_s {rn0 r0 rn r : Nat → Int32} {pn k v : Nat} (h : pRow rn0 r0 rn r pn k) (hv : v ≤ 999) : pRow rn0 r0 (upd rn (4 * pn + k) (nI v)) (upd r (22 + 4 * pn + k) (nI v)) pn (k + 1) := by
  obtain ⟨h1, h2, h3⟩ := h
  refine ⟨fun j hj => ?_, fun x hx => ?_, fun x hx => ?_⟩
  · by_cases e : j = k
    · rw [e, upd_at, upd_at]; exact ⟨rfl, v, hv, rfl⟩
    · rw [upd_ne (by omega), upd_ne (by omega)]; exact h1 j (by omega)
  · rw [upd_ne (hx k (by omega))]; exact h2 x (fun j hj => hx j (by omega))
  · rw [upd_ne (hx k (by omega))]; exact h3 x (fun j hj => hx j (by omega))
theorem p_perZ {tx rn r : Nat → Int32} {sz al pn cn : Nat} {w : Int32} {s : RSt} : ∀ f k, k + f = cn → 0 < f → psQ0 tx sz k (psS tx sz s k) = (stN tx sz (rpA tx sz al k), 0, -1) → pRow rn r (psN tx sz s pn rn k) (rpR tx sz al pn r k) pn k →
    ((rpZ tx sz al pn cn r w f k).1 = true ∧ opS tx sz 59 (psS tx sz s cn) = (stN tx sz (rpA tx sz al cn), 0, -1) ∧ pRow rn r (psN tx sz s pn rn cn) (rpR tx sz al pn r cn) pn cn) ∨
    ((rpZ tx sz al pn cn r w f k).1 = false ∧ ¬ (opS tx sz 59 (psS tx sz s cn)).2.1 = 0 ∧ (opS tx sz 59 (psS tx sz s cn)).2 = ((rpZ tx sz al pn cn r w f k).2.2.2, nI (sk tx sz (rpZ tx sz al pn cn r w f k).2.1)))
  | 0, k, _, h0, _, _ => absurd h0 (by omega)
  | f + 1, k, hk, _, hpos, hrow => by
    have eS : psS tx sz s (k + 1) = opN tx sz 0 999 (stN tx sz (rpA tx sz al k), 0, -1) := by
      show opN tx sz 0 999 (psQ0 tx sz k (psS tx sz s k)) = _; rw [hpos]
    unfold rpZ
    by_cases g1 : nuOK tx sz (stN tx sz (rpA tx sz al k)) 0 999
    · rw [if_pos g1]
      have e1 : psS tx sz s (k + 1) = (rpA tx sz al (k + 1), 0, -1) := by rw [eS]; exact opN_ok (s := (stN tx sz (rpA tx sz al k), 0, -1)) g1
      obtain ⟨v, -, hv', ev⟩ := nu_rng (x := 0) (y := 999) (by decide) (by decide) g1
      have hrow2 : pRow rn r (psN tx sz s pn rn (k + 1)) (rpR tx sz al pn r (k + 1)) pn (k + 1) := by
        have a1 : psN tx sz s pn rn (k + 1) = upd (psN tx sz s pn rn k) (4 * pn + k) (nI v) := by
          show upd (psN tx sz s pn rn k) (4 * pn + k) (lessI (stV tx sz (psQ0 tx sz k (psS tx sz s k)).1) 9999) = _
          rw [hpos]; show upd _ _ (lessI (stV tx sz (stN tx sz (rpA tx sz al k))) 9999) = _
          rw [ev, less_le (by omega)]
        have a2 : rpR tx sz al pn r (k + 1) = upd (rpR tx sz al pn r k) (22 + 4 * pn + k) (nI v) := by
          show nuR tx sz (stN tx sz (rpA tx sz al k)) 0 999 (22 + 4 * pn + k) (rpR tx sz al pn r k) = _
          rw [nuR_ok g1, ev]
        rw [a1, a2]; exact pRow_s hrow hv'
      have eA : stN tx sz (stN tx sz (rpA tx sz al k)) = rpA tx sz al (k + 1) := rfl
      rw [eA]
      by_cases hlast : k + 1 < cn
      · rw [if_pos hlast]
        by_cases g2 : stS tx sz (rpA tx sz al (k + 1)) = 44
        · rw [if_pos g2]
          have h4 := (st_due (by decide) (by decide)).mp g2
          refine p_perZ f (k + 1) (by omega) (by omega) ?_ hrow2
          unfold psQ0; rw [if_neg (by omega), e1]; exact opS_ok (s := (rpA tx sz al (k + 1), 0, -1)) (by decide) (by decide) h4
        · rw [if_neg g2]
          have h4 : ¬ hv tx sz (sk tx sz (rpA tx sz al (k + 1))) = 44 := fun q => g2 ((st_due (by decide) (by decide)).mpr q)
          have h5 := opS_no (s := (rpA tx sz al (k + 1), 0, -1)) rfl h4
          have e2 : psS tx sz s (k + 1 + 1) = opN tx sz 0 999 (opS tx sz 44 (rpA tx sz al (k + 1), 0, -1)) := by
            show opN tx sz 0 999 (psQ0 tx sz (k + 1) (psS tx sz s (k + 1))) = _
            unfold psQ0; rw [if_neg (by omega), e1]
          have h6 : ¬ (opS tx sz 44 (rpA tx sz al (k + 1), 0, -1)).2.1 = 0 := by rw [h5]; exact (by decide : ¬ (1 : Int32) = 0)
          have h7 : (psS tx sz s (k + 1 + 1)).2 = (1, nI (sk tx sz (rpA tx sz al (k + 1)))) := by rw [e2, opN_K h6, h5]
          obtain ⟨b1, b2⟩ := ps_fin (tx := tx) (sz := sz) (k := k + 1 + 1) (cn := cn) (s := s) (by omega) (by rw [h7]; exact (by decide : ¬ (1 : Int32) = 0))
          exact Or.inr ⟨rfl, b2, by rw [b1, h7]⟩
      · rw [if_neg hlast]
        obtain rfl : cn = k + 1 := by omega
        obtain rfl : f = 0 := by omega
        by_cases g2 : stS tx sz (rpA tx sz al (k + 1)) = 59
        · rw [if_pos g2]
          have h4 := (st_due (by decide) (by decide)).mp g2
          refine Or.inl ⟨rfl, ?_, hrow2⟩
          rw [e1]; exact opS_ok (s := (rpA tx sz al (k + 1), 0, -1)) (by decide) (by decide) h4
        · rw [if_neg g2]
          have h4 : ¬ hv tx sz (sk tx sz (rpA tx sz al (k + 1))) = 59 := fun q => g2 ((st_due (by decide) (by decide)).mpr q)
          have h5 := opS_no (s := (rpA tx sz al (k + 1), 0, -1)) rfl h4
          rw [e1]
          exact Or.inr ⟨rfl, by rw [h5]; exact (by decide : ¬ (1 : Int32) = 0), by rw [h5]⟩
    · rw [if_neg g1]
      obtain ⟨a1, a2⟩ := opN_no (s := (stN tx sz (rpA tx sz al k), 0, -1)) rfl g1
      rw [← eS] at a1 a2
      obtain ⟨w1, w2⟩ := nuW_no (w := rpW tx sz al w k) g1
      obtain ⟨b1, b2⟩ := ps_fin (tx := tx) (sz := sz) (k := k + 1) (cn := cn) (s := s) (by omega) a2
      refine Or.inr ⟨rfl, b2, ?_⟩
      rw [b1, a1]
      show _ = (nuW tx sz (stN tx sz (rpA tx sz al k)) 0 999 (rpW tx sz al w k), _)
      rw [w1]
theorem p_perI {rt rn r rn' r' : Nat → Int32} {cn pn : Nat} {g : Prop} [Decidable g] (hI : pInv rt rn r cn pn) (h8 : pn < 8) (hc : 0 < cn) (hrow : pRow rn (rpB g r pn) rn' r' pn cn) : pInv (rpT g cn pn rt) rn' r' cn (pn + 1) := by
  obtain ⟨i1, i2, i3, i4, i5, i6⟩ := hI
  obtain ⟨q1, q2, q3⟩ := hrow
  have hc4 := i1.1
  have hok : psOK cn pn := ⟨h8, by omega⟩
  have eb : ∀ x, x ≠ 4 → x ≠ 21 → rpB g r pn x = r x := fun x h1 h2 => by show upd (upd r 4 _) 21 _ x = _; rw [upd_ne h2, upd_ne h1]
  have et : ∀ x, x ≠ 4 → x ≠ 21 → rpT g cn pn rt x = rt x := fun x h1 h2 => by
    unfold rpT; rw [if_pos hok, upd_ne h1]
    by_cases e : g
    · rw [if_pos e, upd_ne h2]
    · rw [if_neg e]
  have r4 : r' 4 = nI (pn + 1) := by rw [q3 4 (fun j hj => by omega)]; show upd (upd r 4 _) 21 _ 4 = _; rw [upd_ne (by decide), upd_at]
  have r21 : r' 21 = rpT g cn pn rt 21 := by
    rw [q3 21 (fun j hj => by omega)]
    show upd (upd r 4 _) 21 _ 21 = _
    rw [upd_at]
    unfold rpT; rw [if_pos hok, upd_ne (by decide)]
    by_cases e : g
    · rw [if_pos e, if_pos e, upd_at, i2.2.1]
    · rw [if_neg e, if_neg e, or_z, i2.2.1]
  refine ⟨⟨hc4, by omega, ?_, r4, fun _ => hc⟩, ⟨fun k hk => ?_, r21.symm, ?_⟩, fun c hc' => ?_, fun c hc' => ?_, fun p c hp hc' => ?_, fun k k1 k2 => ?_⟩
  · rw [q3 3 (fun j hj => by omega), eb 3 (by decide) (by decide)]; exact i1.2.2.1
  · by_cases e : k = 4
    · rw [e, r4]; exact rpT_4 hok
    · rw [et k e (by omega), q3 k (fun j hj => by omega), eb k e (by omega)]; exact i2.1 k hk
  · obtain ⟨ir, a1, a2⟩ := i2.2.2
    exact ⟨ir, a1, by rw [q3 1 (fun j hj => by omega), eb 1 (by decide) (by decide)]; exact a2⟩
  · rw [et (9 + c) (by omega) (by omega), et (13 + c) (by omega) (by omega), et (17 + c) (by omega) (by omega), q3 (9 + c) (fun j hj => by omega), q3 (13 + c) (fun j hj => by omega), q3 (17 + c) (fun j hj => by omega), eb (9 + c) (by omega) (by omega), eb (13 + c) (by omega) (by omega), eb (17 + c) (by omega) (by omega)]
    exact i3 c hc'
  · rw [q2 (32 + c) (fun j hj => by omega), q3 (5 + c) (fun j hj => by omega), eb (5 + c) (by omega) (by omega)]; exact i4 c hc'
  · by_cases e : p = pn ∧ c < cn
    · obtain ⟨rfl, hcc⟩ := e
      obtain ⟨a1, v, a2, a3⟩ := q1 c hcc
      exact ⟨a1, ⟨v, a2, a3⟩, fun h => absurd h (by omega)⟩
    · rw [q2 (4 * p + c) (fun j hj => by omega), q3 (22 + 4 * p + c) (fun j hj => by omega), eb (22 + 4 * p + c) (by omega) (by omega)]
      obtain ⟨a1, a2, a3⟩ := i5 p c hp hc'
      exact ⟨a1, a2, fun h => a3 (by omega)⟩
  · rw [q2 k (fun j hj => by omega)]; exact i6 k k1 k2
theorem p_pers {tx rt rn r : Nat → Int32} {sz al cn pn : Nat} {em w x : Int32} {g : Prop} [Decidable g] (hx : hv tx sz (sk tx sz al) = x) (hd : ¬ inB x 48 57) (hx0 : ¬ x < 0) (h0 : r 0 = 1) (hI : pInv rt rn r cn pn) :
    pOut tx sz ((rpS tx sz (sk tx sz al, 0, -1) cn pn, rpT g cn pn rt, rpN tx sz (sk tx sz al, 0, -1) cn pn rn, rpM tx sz (sk tx sz al, 0, -1) cn pn em) : CSt) (rpX tx sz al r w cn pn g) := by
  obtain ⟨hs1, hs2⟩ := st_sign hx hd hx0
  have hp8 := hI.1.2.1
  have hc4 := hI.1.1
  have bad : ¬ psOK cn pn → pOut tx sz ((rpS tx sz (sk tx sz al, 0, -1) cn pn, rpT g cn pn rt, rpN tx sz (sk tx sz al, 0, -1) cn pn rn, rpM tx sz (sk tx sz al, 0, -1) cn pn em) : CSt) ((false, al, r, 3) : PR) := by
    intro h
    have e : rpS tx sz (sk tx sz al, 0, -1) cn pn = (sk tx sz al, 3, nI (sk tx sz al)) := by
      unfold rpS; rw [if_neg h]; exact opB_z (s := (sk tx sz al, 0, -1)) rfl (by decide)
    rw [e]
    exact Or.inr ⟨rfl, (by decide : ¬ (3 : Int32) = 0), rfl⟩
  unfold rpX
  by_cases h8 : pn = 8
  · rw [if_pos h8]; exact bad (fun q => by have := q.1; omega)
  rw [if_neg h8]
  by_cases h3 : r 3 = 0
  · rw [if_pos h3]
    refine bad (fun q => q.2 ?_)
    have z : nI cn = nI 0 := hI.1.2.2.1.symm.trans h3
    exact (nI_eq (by omega) (by decide)).mp z
  rw [if_neg h3]
  have hcn0 : ¬ cn = 0 := fun q => h3 (by rw [hI.1.2.2.1, q]; rfl)
  have hok : psOK cn pn := ⟨by omega, hcn0⟩
  have eS : rpS tx sz (sk tx sz al, 0, -1) cn pn = opS tx sz 59 (psS tx sz (sk tx sz al, 0, -1) cn) := if_pos hok
  have eN : rpN tx sz (sk tx sz al, 0, -1) cn pn rn = psN tx sz (sk tx sz al, 0, -1) pn rn cn := if_pos hok
  have e0 : psQ0 tx sz 0 (psS tx sz (sk tx sz al, 0, -1) 0) = (stN tx sz (rpA tx sz al 0), 0, -1) := by
    show (sk tx sz al + 1, (0 : Int32), (-1 : Int32)) = (stN tx sz al, 0, -1); rw [← hs2]
  have hz := p_perZ (tx := tx) (rn := rn) (r := rpB g r pn) (sz := sz) (al := al) (pn := pn) (cn := cn) (w := w) (s := (sk tx sz al, 0, -1)) cn 0 (by omega) (by omega) e0 ⟨fun j hj => absurd hj (by omega), fun x _ => rfl, fun x _ => rfl⟩
  rw [eS, eN]
  rcases hz with ⟨z1, z2, z3⟩ | ⟨z1, z2, z3⟩
  · obtain ⟨y1, y2⟩ := rpZ_ok (tx := tx) (sz := sz) (al := al) (pn := pn) (cn := cn) (r := rpB g r pn) (w := w) cn 0 z1
    rw [Nat.zero_add] at y1 y2
    have hI2 := p_perI hI (by omega) (by omega : 0 < cn) z3
    rw [← y2] at hI2
    refine Or.inl ⟨z1, ?_, ?_, ?_, cn, pn + 1, hI2⟩
    · show (opS tx sz 59 _).1 = _
      rw [z2, y1]
    · show (opS tx sz 59 _).2 = _
      rw [z2]
    · rw [y2, rpR_lo (by decide)]
      show upd (upd r 4 _) 21 _ 0 = 1
      rw [upd_ne (by decide), upd_ne (by decide)]; exact h0
  · exact Or.inr ⟨z1, z2, z3⟩
/-! a clause behind the first -/
theorem p_cl {tx rt rn r : Nat → Int32} {sz al cn pn : Nat} {em w : Int32} (hne : ¬ hv tx sz (sk tx sz al) < 0) (h0 : r 0 = 1) (hI : pInv rt rn r cn pn) :
    pOut tx sz (ccX tx sz (((sk tx sz al, 0, -1), rt, rn, em) : CSt) (hv tx sz (sk tx sz al))) (clX tx sz al r w cn pn) := by
  have hc4 := hI.1.1
  have hp8 := hI.1.2.1
  have hcn : cl (rt 3) = cn := by rw [hI.2.1.1 3 (by omega), hI.1.2.2.1]; exact cl_nI (by omega)
  have hpn : cl (rt 4) = pn := by rw [hI.2.1.1 4 (by omega), hI.1.2.2.2.1]; exact cl_nI (by omega)
  obtain ⟨x, hx⟩ : ∃ z, hv tx sz (sk tx sz al) = z := ⟨_, rfl⟩
  rw [hx] at hne ⊢
  have bad : ∀ k : Int32, ¬ k = 0 → pOut tx sz ((opB k (nI (sk tx sz al)) (sk tx sz al, 0, -1), rt, rn, em) : CSt) ((false, al, r, k) : PR) := by
    intro k hk
    rw [opB_z (s := (sk tx sz al, 0, -1)) rfl hk]
    exact Or.inr ⟨rfl, hk, rfl⟩
  have hr0 : ¬ r 0 = 0 := by rw [h0]; decide
  by_cases hd : inB x 48 57
  · have hs : stS tx sz al = 48 := by
      unfold stS; rw [if_pos (show isD tx sz al by show inB (hv tx sz (sk tx sz al)) 48 57; rw [hx]; exact hd)]
    have n1 : ∀ k : Int32, ¬ inB k 48 57 → ¬ x = k := fun k h q => h (by rw [← q]; exact hd)
    have e : clX tx sz al r w cn pn = (false, al, r, 1) := by
      unfold clX; rw [hs, if_neg (by decide), if_neg hr0, if_neg (by decide), if_neg (by decide), if_neg (by decide)]
    rw [e, cc_o (n1 99 (by decide)) (fun q => q.elim (n1 103 (by decide)) (n1 109 (by decide))) (n1 105 (by decide))]
    exact bad 1 (by decide)
  have hs : stS tx sz al = x := (st_sign hx hd hne).1
  by_cases h105 : x = 105
  · have e : clX tx sz al r w cn pn = (false, al, r, 3) := by
      unfold clX; rw [hs, if_pos h105]; unfold riX; rw [if_pos h0]
    rw [e, cc_i (by rw [h105]; decide) (by rw [h105]; decide) h105]
    exact bad 3 (by decide)
  by_cases h99 : x = 99
  · have e : clX tx sz al r w cn pn = rcX tx sz al r w cn := by
      unfold clX; rw [hs, if_neg h105, if_neg hr0, if_pos h99]
    rw [e, cc_c h99 hcn]
    exact p_cred (by rw [hx, h99]) h0 hI
  by_cases h103 : x = 103
  · have e : clX tx sz al r w cn pn = rpX tx sz al r w cn pn True := by
      unfold clX; rw [hs, if_neg h105, if_neg hr0, if_neg h99, if_pos h103]
    rw [e, cc_p h99 (Or.inl h103) hcn hpn, rpT_c (show x = 103 ↔ True from ⟨fun _ => trivial, fun _ => h103⟩)]
    exact p_pers hx hd hne h0 hI
  by_cases h109 : x = 109
  · have e : clX tx sz al r w cn pn = rpX tx sz al r w cn pn False := by
      unfold clX; rw [hs, if_neg h105, if_neg hr0, if_neg h99, if_neg h103, if_pos h109]
    rw [e, cc_p h99 (Or.inr h109) hcn hpn, rpT_c (show x = 103 ↔ False from ⟨fun q => h103 q, fun q => q.elim⟩)]
    exact p_pers hx hd hne h0 hI
  · have e : clX tx sz al r w cn pn = (false, al, r, 1) := by
      unfold clX; rw [hs, if_neg h105, if_neg hr0, if_neg h99, if_neg h103, if_neg h109]
    rw [e, cc_o h99 (fun q => q.elim h103 h109) h105]
    exact bad 1 (by decide)
/-! all clauses -/
def okTx (tx : Nat → Int32) (sz : Nat) : Prop := ∀ k, k < sz → ¬ tx k < 0
theorem hv_neg {tx : Nat → Int32} {sz a : Nat} (h : okTx tx sz) : hv tx sz a < 0 ↔ hv tx sz a = -1 := by
  unfold hv
  by_cases e : a < sz
  · rw [if_pos e]; exact ⟨fun q => absurd q (h a e), fun q => by rw [q]; decide⟩
  · rw [if_neg e]; exact ⟨fun _ => rfl, fun _ => by decide⟩
theorem st_neg {tx : Nat → Int32} {sz a : Nat} (h : okTx tx sz) : stS tx sz a < 0 ↔ hv tx sz (sk tx sz a) = -1 := by
  unfold stS
  by_cases e : isD tx sz a
  · rw [if_pos e]
    refine ⟨fun q => absurd q (by decide), fun q => ?_⟩
    have e2 : inB (hv tx sz (sk tx sz a)) 48 57 := e
    rw [q] at e2; exact absurd e2 (by decide)
  · rw [if_neg e, hv_neg h]
/-- the end of all: well in both, or the same fault in both -/
def pEnd (tx : Nat → Int32) (sz : Nat) (C : CSt) (Q : PR) : Prop :=
  (Q.1 = true ∧ C.1.2 = (0, -1) ∧ Q.2.2.1 0 = 1 ∧ ∃ cn pn : Nat, pInv C.2.1 C.2.2.1 Q.2.2.1 cn pn) ∨
  (Q.1 = false ∧ ¬ C.1.2.1 = 0 ∧ C.1.2 = (Q.2.2.2, nI (sk tx sz Q.2.1)))
set_option maxHeartbeats 4000000 in
theorem p_all {tx : Nat → Int32} {sz : Nat} (hT : okTx tx sz) : ∀ (f f' : Nat) (al : Nat) (rt rn r : Nat → Int32) (em w : Int32) (cn pn : Nat), al ≤ sz → sz ≤ al + f → sz < al + f' → r 0 = 1 → pInv rt rn r cn pn →
    pEnd tx sz (ccR tx sz f (((al, 0, -1), rt, rn, em) : CSt)) (tnX tx sz f' ((al, r, w) : TSt))
  | f, 0, al, rt, rn, r, em, w, cn, pn, h1, h2, h3, h0, hI => absurd h3 (by omega)
  | f, f' + 1, al, rt, rn, r, em, w, cn, pn, h1, h2, h3, h0, hI => by
    by_cases hend : hv tx sz (sk tx sz al) = -1
    · have hs : stS tx sz al < 0 := (st_neg hT).mpr hend
      have eQ : tnX tx sz (f' + 1) ((al, r, w) : TSt) = (true, al, r, w) := tnX_e hs
      have eC : (ccR tx sz f (((al, 0, -1), rt, rn, em) : CSt)).1.2 = (0, -1) ∧ (ccR tx sz f (((al, 0, -1), rt, rn, em) : CSt)).2 = (rt, rn, em) := by
        cases f with
        | zero => exact ⟨rfl, rfl⟩
        | succ f =>
          have e := ro_end (tx := tx) (sz := sz) (f := f + 1) (c := (((al, 0, -1), rt, rn, em) : CSt)) (by omega) rfl hend
          rw [e]; exact ⟨rfl, rfl⟩
      rw [eQ]
      refine Or.inl ⟨rfl, eC.1, h0, cn, pn, ?_⟩
      rw [show (ccR tx sz f (((al, 0, -1), rt, rn, em) : CSt)).2.1 = rt by rw [eC.2], show (ccR tx sz f (((al, 0, -1), rt, rn, em) : CSt)).2.2.1 = rn by rw [eC.2]]
      exact hI
    · have hlt : sk tx sz al < sz := hv_in hend
      have hsk := sk_le (tx := tx) h1
      have hne : ¬ hv tx sz (sk tx sz al) < 0 := fun q => hend ((hv_neg hT).mp q)
      have hs : ¬ stS tx sz al < 0 := fun q => hend ((st_neg hT).mp q)
      obtain ⟨f1, rfl⟩ : ∃ z, f = z + 1 := ⟨f - 1, by omega⟩
      have eC : ccR tx sz (f1 + 1) (((al, 0, -1), rt, rn, em) : CSt) = ccR tx sz f1 (ccX tx sz (((sk tx sz al, 0, -1), rt, rn, em) : CSt) (hv tx sz (sk tx sz al))) := by
        show (if ¬ (0 : Int32) = 0 then _ else if hv tx sz (sk tx sz al) = -1 then _ else ccR tx sz f1 (ccX tx sz (ccW tx sz (((al, 0, -1), rt, rn, em) : CSt)) (hv tx sz (sk tx sz al)))) = _
        rw [if_neg (not_not_intro rfl), if_neg hend]; rfl
      have hc4 := hI.1.1
      have hp8 := hI.1.2.1
      have ecl : tnC tx sz ((al, r, w) : TSt) = clX tx sz al r w cn pn := by
        show clX tx sz al r w (cl (r 3)) (cl (r 4)) = _
        rw [hI.1.2.2.1, hI.1.2.2.2.1, cl_nI (by omega), cl_nI (by omega)]
      have ho := p_cl (em := em) (w := w) hne h0 hI
      rw [eC]
      rcases ho with ⟨o1, o2, o3, o4, cn', pn', o5⟩ | ⟨o1, o2, o3⟩
      · have hok : tnOK sz ((al, r, w) : TSt) := ⟨h1, cn, pn, hc4, hp8, hI.1.2.2.1, hI.1.2.2.2.1⟩
        obtain ⟨b1, b2, b3⟩ := tnS_ok hok hs (by rw [ecl]; exact o1)
        have eQ : tnX tx sz (f' + 1) ((al, r, w) : TSt) = tnX tx sz f' (tnS tx sz ((al, r, w) : TSt)) := tnX_s (by omega) hs (by rw [ecl]; exact o1)
        have eS : tnS tx sz ((al, r, w) : TSt) = ((stN tx sz (clX tx sz al r w cn pn).2.1, (clX tx sz al r w cn pn).2.2.1, (clX tx sz al r w cn pn).2.2.2) : TSt) := by unfold tnS; rw [ecl]
        have hle : (tnS tx sz ((al, r, w) : TSt)).1 ≤ sz := b1.1
        have hgt : al + 1 ≤ (tnS tx sz ((al, r, w) : TSt)).1 := b2
        rw [eS] at hle hgt
        rw [eQ, eS]
        obtain ⟨X, hX⟩ : ∃ z, z = ccX tx sz (((sk tx sz al, 0, -1), rt, rn, em) : CSt) (hv tx sz (sk tx sz al)) := ⟨_, rfl⟩
        rw [← hX] at o2 o3 o5 ⊢
        have eX : X = (((stN tx sz (clX tx sz al r w cn pn).2.1, 0, -1), X.2.1, X.2.2.1, X.2.2.2) : CSt) := by
          have q : X.1 = (stN tx sz (clX tx sz al r w cn pn).2.1, 0, -1) := Prod.ext o2 o3
          exact Prod.ext q rfl
        rw [eX]
        exact p_all hT f1 f' _ X.2.1 X.2.2.1 _ X.2.2.2 _ cn' pn' hle (by show sz ≤ stN tx sz _ + f1; have : al + 1 ≤ stN tx sz (clX tx sz al r w cn pn).2.1 := hgt; omega) (by show sz < stN tx sz _ + f'; have : al + 1 ≤ stN tx sz (clX tx sz al r w cn pn).2.1 := hgt; omega) o4 o5
      · have eQ : tnX tx sz (f' + 1) ((al, r, w) : TSt) = clX tx sz al r w cn pn := by
          exact (tnX_f (tx := tx) (sz := sz) (f := f' + 1) (c := ((al, r, w) : TSt)) (by omega) hs (by rw [ecl, o1]; exact Bool.false_ne_true)).trans ecl
        have eR : ccR tx sz f1 (ccX tx sz (((sk tx sz al, 0, -1), rt, rn, em) : CSt) (hv tx sz (sk tx sz al))) = ccX tx sz (((sk tx sz al, 0, -1), rt, rn, em) : CSt) (hv tx sz (sk tx sz al)) := ro_fault o2
        rw [eQ, eR]
        exact Or.inr ⟨o1, o2, o3⟩
