/-! a text, read by both -/
def eqN (t u : Nat → Int32) (nc : Nat) : Prop := (∀ k, k < 5 → t k = u k) ∧ t 21 = u 21 ∧ ∀ c, c < nc → t (9 + c) = u (9 + c) ∧ t (13 + c) = u (13 + c) ∧ t (17 + c) = u (17 + c)
theorem clI_at {f : Nat → Int32} {k : Nat} : ∀ p, p ≤ 8 → clI f p k = if 36 ≤ k ∧ k < 36 + p then 0 else if 44 ≤ k ∧ k < 44 + p then -1 else f k
  | 0, _ => by rw [if_neg (by omega), if_neg (by omega)]; rfl
  | p + 1, hp => by
    have ih := clI_at (f := f) (k := k) p (by omega)
    show upd (upd (clI f p) (36 + p) 0) (44 + p) (-1) k = _
    by_cases e1 : k = 44 + p
    · rw [e1, upd_at, if_neg (by omega), if_pos (by omega)]
    · rw [upd_ne e1]
      by_cases e2 : k = 36 + p
      · rw [e2, upd_at, if_pos (by omega)]
      · rw [upd_ne e2, ih]
        by_cases e3 : 36 ≤ k ∧ k < 36 + p
        · rw [if_pos e3, if_pos (by omega)]
        · rw [if_neg e3, if_neg (show ¬ (36 ≤ k ∧ k < 36 + (p + 1)) by omega)]
          by_cases e4 : 44 ≤ k ∧ k < 44 + p
          · rw [if_pos e4, if_pos (by omega)]
          · rw [if_neg e4, if_neg (by omega)]
theorem clrS_lo {n : Nat → Int32} {k : Nat} (hk : k < 36) : clrS n k = 0 := by
  unfold clrS
  rw [upd_ne (by omega), upd_ne (by omega), clI_at 8 (by omega), if_neg (by omega), if_neg (by omega)]
  by_cases h : k < 32
  · rw [rng_out (by omega), rng_in (by omega) h]
  · rw [rng_in (by omega) hk]
theorem clrS_hi {n : Nat → Int32} {k : Nat} (h1 : 36 ≤ k) (h2 : k < 54) : clrS n k = if 44 ≤ k ∧ k < 52 then -1 else 0 := by
  unfold clrS
  by_cases e1 : k = 53
  · rw [e1, upd_at, if_neg (by omega)]
  rw [upd_ne e1]
  by_cases e2 : k = 52
  · rw [e2, upd_at, if_neg (by omega)]
  rw [upd_ne e2, clI_at 8 (by omega)]
  by_cases e3 : 36 ≤ k ∧ k < 36 + 8
  · rw [if_pos e3, if_neg (by omega)]
  · rw [if_neg e3, if_pos (by omega), if_pos (by omega)]
theorem clrT_0 {t : Nat → Int32} {k : Nat} (h : k < 5 ∨ k = 21) : clrT t k = 0 := by
  rcases (by omega : k = 0 ∨ k = 1 ∨ k = 2 ∨ k = 3 ∨ k = 4 ∨ k = 21) with rfl | rfl | rfl | rfl | rfl | rfl <;> rfl
theorem p_base {rt rn r : Nat → Int32} : pInv (clrT rt) (clrS rn) (upto r (fun _ => 0) 54) 0 0 := by
  have hr : ∀ k, k < 54 → upto r (fun _ => 0) 54 k = 0 := fun k hk => if_pos hk
  refine ⟨⟨by omega, by omega, hr 3 (by omega), hr 4 (by omega), fun h => absurd h (by omega)⟩, ⟨fun k hk => ?_, ?_, 0, by omega, hr 1 (by omega)⟩, fun c hc => absurd hc (by omega), fun c hc => ?_, fun p c hp hc => ?_, fun k h1 h2 => clrS_hi h1 h2⟩
  · rw [hr k (by omega)]; exact clrT_0 (Or.inl hk)
  · rw [hr 21 (by omega)]; exact clrT_0 (Or.inr rfl)
  · rw [hr (5 + c) (by omega)]; exact ⟨clrS_lo (by omega), 0, by omega, rfl⟩
  · rw [hr (22 + 4 * p + c) (by omega)]; exact ⟨clrS_lo (by omega), ⟨0, by omega, rfl⟩, fun _ => rfl⟩
/-- well in both, or the same fault in both -/
theorem p_text {tx rt rn r : Nat → Int32} {sz : Nat} {em w : Int32} (hT : okTx tx sz) (h240 : sz ≤ 240) :
    ((tnX tx sz (sz + 1) ((0, upto r (fun _ => 0) 54, w) : TSt)).1 = true ∧ (raX tx sz rt rn em).1.2 = (0, -1) ∧ ((tnX tx sz (sz + 1) ((0, upto r (fun _ => 0) 54, w) : TSt)).2.2.1 0 = 0 ∨ (tnX tx sz (sz + 1) ((0, upto r (fun _ => 0) 54, w) : TSt)).2.2.1 0 = 1) ∧ ∃ cn pn : Nat, pInv (raX tx sz rt rn em).2.1 (raX tx sz rt rn em).2.2.1 (tnX tx sz (sz + 1) ((0, upto r (fun _ => 0) 54, w) : TSt)).2.2.1 cn pn ∧ ((tnX tx sz (sz + 1) ((0, upto r (fun _ => 0) 54, w) : TSt)).2.2.1 0 = 0 → cn = 0 ∧ pn = 0)) ∨
    ((tnX tx sz (sz + 1) ((0, upto r (fun _ => 0) 54, w) : TSt)).1 = false ∧ ¬ (raX tx sz rt rn em).1.2.1 = 0 ∧ (raX tx sz rt rn em).1.2 = ((tnX tx sz (sz + 1) ((0, upto r (fun _ => 0) 54, w) : TSt)).2.2.2, nI (sk tx sz (tnX tx sz (sz + 1) ((0, upto r (fun _ => 0) 54, w) : TSt)).2.1))) := by
  have hb := p_base (rt := rt) (rn := rn) (r := r)
  obtain ⟨r0, hr0⟩ : ∃ z, z = upto r (fun _ => 0) 54 := ⟨_, rfl⟩
  rw [← hr0] at hb ⊢
  have h00 : r0 0 = 0 := by rw [hr0]; exact if_pos (by decide)
  by_cases hend : hv tx sz (sk tx sz 0) = -1
  · have eQ : tnX tx sz (sz + 1) ((0, r0, w) : TSt) = (true, 0, r0, w) := tnX_e ((st_neg hT).mpr hend)
    have eC : raX tx sz rt rn em = (opW tx sz (0, 0, -1), clrT rt, clrS rn, em) := if_pos hend
    rw [eQ, eC]
    exact Or.inl ⟨rfl, rfl, Or.inl h00, 0, 0, hb, fun _ => ⟨rfl, rfl⟩⟩
  · have hs : ¬ stS tx sz 0 < 0 := fun q => hend ((st_neg hT).mp q)
    have eC : raX tx sz rt rn em = ccR tx sz 240 (riS tx sz (sk tx sz 0, 0, -1), riT tx sz (sk tx sz 0, 0, -1) (upd (clrT rt) 0 1), clrS rn, riM tx sz (sk tx sz 0, 0, -1) em) := if_neg hend
    have ecl : tnC tx sz ((0, r0, w) : TSt) = clX tx sz 0 r0 w 0 0 := by
      show clX tx sz 0 r0 w (cl (r0 3)) (cl (r0 4)) = _
      rw [hb.1.2.2.1, hb.1.2.2.2.1]; rfl
    by_cases hi : hv tx sz (sk tx sz 0) = 105
    · have e2 : clX tx sz 0 r0 w 0 0 = riX tx sz 0 r0 w := by
        unfold clX; rw [if_pos ((st_due (by decide) (by decide)).mpr hi)]
      have hI : pInv (upd (upd (clrT rt) 0 1) 0 0) (clrS rn) r0 0 0 := by
        rw [upd_upd, upd_self (clrT_0 (Or.inl (by decide)))]; exact hb
      have ho := p_int (em := riM tx sz (sk tx sz 0, 0, -1) em) (w := w) hi h00 (upd_at (clrT rt) 0 1) hI
      rw [eC]
      obtain ⟨X, hX⟩ : ∃ z : CSt, z = (riS tx sz (sk tx sz 0, 0, -1), riT tx sz (sk tx sz 0, 0, -1) (upd (clrT rt) 0 1), clrS rn, riM tx sz (sk tx sz 0, 0, -1) em) := ⟨_, rfl⟩
      rw [← hX] at ho ⊢
      rcases ho with ⟨o1, o2, o3, o4, cn', pn', o5⟩ | ⟨o1, o2, o3⟩
      · have hok : tnOK sz ((0, r0, w) : TSt) := ⟨Nat.zero_le _, 0, 0, by omega, by omega, hb.1.2.2.1, hb.1.2.2.2.1⟩
        obtain ⟨b1, b2, b3⟩ := tnS_ok hok hs (by rw [ecl, e2]; exact o1)
        have eQ : tnX tx sz (sz + 1) ((0, r0, w) : TSt) = tnX tx sz sz (tnS tx sz ((0, r0, w) : TSt)) := tnX_s (by omega) hs (by rw [ecl, e2]; exact o1)
        have eS : tnS tx sz ((0, r0, w) : TSt) = ((stN tx sz (riX tx sz 0 r0 w).2.1, (riX tx sz 0 r0 w).2.2.1, (riX tx sz 0 r0 w).2.2.2) : TSt) := by unfold tnS; rw [ecl, e2]
        have hle : (tnS tx sz ((0, r0, w) : TSt)).1 ≤ sz := b1.1
        have hgt : 0 + 1 ≤ (tnS tx sz ((0, r0, w) : TSt)).1 := b2
        rw [eS] at hle hgt
        have hgt2 : 1 ≤ stN tx sz (riX tx sz 0 r0 w).2.1 := hgt
        have hle2 : stN tx sz (riX tx sz 0 r0 w).2.1 ≤ sz := hle
        have eX : X = (((stN tx sz (riX tx sz 0 r0 w).2.1, 0, -1), X.2.1, X.2.2.1, X.2.2.2) : CSt) := by
          have q : X.1 = (stN tx sz (riX tx sz 0 r0 w).2.1, 0, -1) := Prod.ext o2 o3
          exact Prod.ext q rfl
        rw [eQ, eS, eX]
        rcases p_all hT 240 sz _ X.2.1 X.2.2.1 _ X.2.2.2 (riX tx sz 0 r0 w).2.2.2 cn' pn' hle2 (by omega) (by omega) o4 o5 with ⟨z1, z2, z3, cn2, pn2, z4⟩ | z
        · exact Or.inl ⟨z1, z2, Or.inr z3, cn2, pn2, z4, fun q => absurd (z3.symm.trans q) (by decide)⟩
        · exact Or.inr z
      · have eQ : tnX tx sz (sz + 1) ((0, r0, w) : TSt) = riX tx sz 0 r0 w :=
          (tnX_f (tx := tx) (sz := sz) (f := sz + 1) (c := ((0, r0, w) : TSt)) (by omega) hs (by rw [ecl, e2, o1]; exact Bool.false_ne_true)).trans (ecl.trans e2)
        have eR : ccR tx sz 240 X = X := ro_fault o2
        rw [eQ, eR]
        exact Or.inr ⟨o1, o2, o3⟩
    · have hn105 : ¬ stS tx sz 0 = 105 := fun q => hi ((st_due (by decide) (by decide)).mp q)
      have e2 : clX tx sz 0 r0 w 0 0 = (false, 0, r0, 1) := by
        unfold clX; rw [if_neg hn105, if_pos h00]
      have eQ : tnX tx sz (sz + 1) ((0, r0, w) : TSt) = (false, 0, r0, 1) :=
        (tnX_f (tx := tx) (sz := sz) (f := sz + 1) (c := ((0, r0, w) : TSt)) (by omega) hs (by rw [ecl, e2]; exact Bool.false_ne_true)).trans (ecl.trans e2)
      have hskk : sk tx sz (sk tx sz 0) = sk tx sz 0 := by
        by_cases h32 : hv tx sz (sk tx sz 0) = 32
        · have key : ∀ f a, sz ≤ a + f → ¬ hv tx sz (skN tx sz f a) = 32 := by
            intro f
            induction f with
            | zero => intro a ha q; have := hv_32 q; show False; have e : skN tx sz 0 a = a := rfl; rw [e] at this; omega
            | succ f ih =>
              intro a ha
              show ¬ hv tx sz (if hv tx sz a = 32 then skN tx sz f (a + 1) else a) = 32
              by_cases e : hv tx sz a = 32
              · rw [if_pos e]; exact ih (a + 1) (by omega)
              · rw [if_neg e]; exact e
          exact absurd h32 (key (sz - 0) 0 (by omega))
        · exact skN_x h32 _
      have eS : riS tx sz (sk tx sz 0, 0, -1) = (sk tx sz 0, 1, nI (sk tx sz 0)) := by
        unfold riS
        rw [if_neg (by show ¬ hv tx sz (sk tx sz (sk tx sz 0)) = 105; rw [hskk]; exact hi)]
        show opB 1 (nI (sk tx sz (sk tx sz 0))) (sk tx sz (sk tx sz 0), 0, -1) = _
        rw [hskk]; exact opB_z (s := (sk tx sz 0, 0, -1)) rfl (by decide)
      have eR : raX tx sz rt rn em = ((sk tx sz 0, 1, nI (sk tx sz 0)), riT tx sz (sk tx sz 0, 0, -1) (upd (clrT rt) 0 1), clrS rn, riM tx sz (sk tx sz 0, 0, -1) em) := by
        rw [eC, eS]; exact ro_fault (by exact (by decide : ¬ (1 : Int32) = 0))
      rw [eQ, eR]
      exact Or.inr ⟨rfl, (by decide : ¬ (1 : Int32) = 0), rfl⟩
/-! a town that was read -/
theorem cpy_r {r t : Nat → Int32} {k : Nat} (hk : k < 54) : va_cpy r t 0 0 54 k = r k := cpy54 r t k hk
theorem begN_lo {t n : Nat → Int32} {k : Nat} (hk : k < 32) : begN t n k = t (22 + k) := by
  unfold begN; rw [rng_out (by omega)]; unfold va_cpy; rw [if_neg (by omega), if_pos (by omega)]; rfl
theorem begN_pu {t n : Nat → Int32} {c : Nat} (hc : c < 4) : begN t n (32 + c) = t (5 + c) := by
  unfold begN; rw [rng_out (by omega)]; unfold va_cpy; rw [if_pos (by omega), show 5 + (32 + c - 32) = 5 + c by omega]
theorem begN_hi {t n : Nat → Int32} {k : Nat} (h1 : 36 ≤ k) (h2 : k < 54) : begN t n k = if 44 ≤ k ∧ k < 52 then -1 else 0 := by
  unfold begN; rw [rng_in h1 h2]
  show (if inB (nI k) (nI 44) (nI 51) then _ else _) = _
  have e : inB (nI k) (nI 44) (nI 51) ↔ 44 ≤ k ∧ k < 52 := by
    show nI 44 ≤ nI k ∧ nI k ≤ nI 51 ↔ _
    rw [nI_leI (by decide) (by omega), nI_leI (by omega) (by decide)]; omega
  by_cases h : 44 ≤ k ∧ k < 52
  · rw [if_pos h, if_pos (e.mpr h)]
  · rw [if_neg h, if_neg (fun q => h (e.mp q))]
theorem p_town {rt rn r t n : Nat → Int32} {cn pn : Nat} (h0 : r 0 = 0 ∨ r 0 = 1) (hI : pInv rt rn r cn pn) :
    okT (va_cpy r t 0 0 54) cn pn ∧ okS (va_cpy r t 0 0 54) (begN (va_cpy r t 0 0 54) n) cn pn ∧ eqN rt (va_cpy r t 0 0 54) cn ∧ eq54 rn (begN (va_cpy r t 0 0 54) n) := by
  obtain ⟨i1, i2, i3, i4, i5, i6⟩ := hI
  have hc := i1.1
  have hp := i1.2.1
  refine ⟨⟨⟨?_, ?_, hc, hp⟩, ?_, i1.2.2.2.2, ?_, fun c hc' => ?_⟩, ⟨fun p c h1 h2 h3 => ?_, fun p h1 h2 => ?_, fun k hk => ?_, ?_, fun p h => ?_, fun p c h1 h2 h3 h4 => ?_⟩, ⟨fun k hk => ?_, ?_, fun c hc' => ?_⟩, fun k hk => ?_⟩
  · rw [cpy_r (by omega)]; exact i1.2.2.1
  · rw [cpy_r (by omega)]; exact i1.2.2.2.1
  · obtain ⟨ir, a1, a2⟩ := i2.2.2
    exact ⟨ir, a1, by rw [cpy_r (by omega)]; exact a2⟩
  · rw [cpy_r (by omega)]; exact h0
  · obtain ⟨lo, hi, g, b⟩ := (i3 c hc').2
    exact ⟨lo, hi, g, by rw [cpy_r (by omega), cpy_r (by omega), cpy_r (by omega)]; exact b⟩
  · rw [begN_lo (by omega), cpy_r (by omega), show 22 + (4 * p + c) = 22 + 4 * p + c by omega]
    refine (i5 p c h1 h2).2.2 ?_
    rcases h3 with z | z | z
    · exact Or.inl z
    · exact Or.inr z
    · rw [begN_hi (by omega) (by omega), if_neg (by omega)] at z
      have key : ∀ c, c < 4 → ¬ hasB 0 c := by decide +kernel
      exact absurd z (key c h2)
  · rw [begN_hi (by omega) (by omega), if_neg (by omega), begN_hi (by omega) (by omega), if_pos (by omega)]; exact ⟨rfl, Or.inl rfl⟩
  · by_cases h : k < 32
    · obtain ⟨j, a1, a2⟩ := (i5 (k / 4) (k % 4) (by omega) (by omega)).2.1
      rw [begN_lo h, cpy_r (by omega)]
      exact ⟨j, by omega, by rw [show 22 + k = 22 + 4 * (k / 4) + k % 4 by omega]; exact a2⟩
    · obtain ⟨j, a1, a2⟩ := (i4 (k - 32) (by omega)).2
      have e := begN_pu (t := va_cpy r t 0 0 54) (n := n) (c := k - 32) (by omega)
      rw [show 32 + (k - 32) = k by omega] at e
      rw [e, cpy_r (by omega)]; exact ⟨j, by omega, a2⟩
  · rw [begN_hi (by omega) (by omega), if_neg (by omega)]; exact ⟨0, by decide, rfl⟩
  · exact Or.inl (by rw [begN_hi (by omega) (by omega), if_pos (by omega)])
  · rw [begN_hi (by omega) (by omega), if_pos (by omega)] at h4; exact absurd rfl h4
  · rw [cpy_r (by omega)]; exact i2.1 k hk
  · rw [cpy_r (by omega)]; exact i2.2.1
  · rw [cpy_r (by omega), cpy_r (by omega), cpy_r (by omega)]; exact (i3 c hc').1
  · by_cases h : k < 32
    · rw [begN_lo h, cpy_r (by omega)]
      have q := (i5 (k / 4) (k % 4) (by omega) (by omega)).1
      rw [show 4 * (k / 4) + k % 4 = k by omega, show 22 + 4 * (k / 4) + k % 4 = 22 + k by omega] at q
      exact q
    · by_cases h2 : k < 36
      · have e := begN_pu (t := va_cpy r t 0 0 54) (n := n) (c := k - 32) (by omega)
        have q := (i4 (k - 32) (by omega)).1
        rw [show 32 + (k - 32) = k by omega] at e q
        rw [e, cpy_r (by omega)]; exact q
      · rw [begN_hi (by omega) hk]; exact i6 k (by omega) hk
