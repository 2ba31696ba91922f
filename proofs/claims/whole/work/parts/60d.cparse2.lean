/-! a creditor -/
theorem rc5_K {tx : Nat → Int32} {sz : Nat} {s : RSt} (h : ¬ (rc4 tx sz s).2.1 = 0) : (rc5 tx sz s).2 = (rc4 tx sz s).2 := by
  unfold rc5
  by_cases e : stV tx sz (rc3 tx sz s).1 < stV tx sz (rc2 tx sz s).1
  · rw [if_pos e, opB_n h]
  · rw [if_neg e]
theorem rc_K5 {tx : Nat → Int32} {sz : Nat} {s : RSt} (h : ¬ (rc5 tx sz s).2.1 = 0) : (opS tx sz 59 (rc6 tx sz s)).2 = (rc5 tx sz s).2 := by
  have h6 : (rc6 tx sz s).2 = (rc5 tx sz s).2 := opN_K h
  have h7 : ¬ (rc6 tx sz s).2.1 = 0 := by rw [h6]; exact h
  rw [opS_K h7, h6]
theorem rc_K4 {tx : Nat → Int32} {sz : Nat} {s : RSt} (h : ¬ (rc4 tx sz s).2.1 = 0) : (opS tx sz 59 (rc6 tx sz s)).2 = (rc4 tx sz s).2 := by
  have h5 := rc5_K h
  rw [rc_K5 (by rw [h5]; exact h), h5]
theorem rc_K3 {tx : Nat → Int32} {sz : Nat} {s : RSt} (h : ¬ (rc3 tx sz s).2.1 = 0) : (opS tx sz 59 (rc6 tx sz s)).2 = (rc3 tx sz s).2 := by
  have h4 : (rc4 tx sz s).2 = (rc3 tx sz s).2 := opN_K h
  rw [rc_K4 (by rw [h4]; exact h), h4]
theorem rc_K2 {tx : Nat → Int32} {sz : Nat} {s : RSt} (h : ¬ (rc2 tx sz s).2.1 = 0) : (opS tx sz 59 (rc6 tx sz s)).2 = (rc2 tx sz s).2 := by
  have h3 : (rc3 tx sz s).2 = (rc2 tx sz s).2 := opN_K h
  rw [rc_K3 (by rw [h3]; exact h), h3]
theorem p_credI {rt rn r : Nat → Int32} {cn pu lo hi g : Nat} (hI : pInv rt rn r cn 0) (hc : cn < 4) (h1 : pu ≤ 999) (h2 : 1 ≤ lo) (h3 : lo ≤ hi) (h4 : hi ≤ 999) (h5 : 1 ≤ g) (h6 : g ≤ 9) :
    pInv (upd (upd (upd (upd rt (9 + cn) (nI lo)) (13 + cn) (nI hi)) (17 + cn) (nI g)) 3 (nI (cn + 1))) (upd rn (32 + cn) (nI pu)) (upd (upd (upd (upd (upd r 3 (nI (cn + 1))) (5 + cn) (nI pu)) (9 + cn) (nI lo)) (13 + cn) (nI hi)) (17 + cn) (nI g)) (cn + 1) 0 := by
  obtain ⟨i1, i2, i3, i4, i5, i6⟩ := hI
  refine ⟨⟨by omega, by omega, ?_, ?_, fun h => absurd h (by omega)⟩, ⟨fun k hk => ?_, ?_, ?_⟩, fun c hc' => ?_, fun c hc' => ?_, fun p c hp hc' => ?_, fun k q1 q2 => ?_⟩
  · rw [upd_ne (by omega), upd_ne (by omega), upd_ne (by omega), upd_ne (by omega), upd_at]
  · rw [upd_ne (by omega), upd_ne (by omega), upd_ne (by omega), upd_ne (by omega), upd_ne (by omega)]; exact i1.2.2.2.1
  · rw [upd_ne (show k ≠ 17 + cn by omega), upd_ne (show k ≠ 13 + cn by omega), upd_ne (show k ≠ 9 + cn by omega), upd_ne (show k ≠ 5 + cn by omega)]
    by_cases e : k = 3
    · rw [e, upd_at, upd_at]
    · rw [upd_ne e, upd_ne e, upd_ne (by omega), upd_ne (by omega), upd_ne (by omega)]; exact i2.1 k hk
  · rw [upd_ne (by omega), upd_ne (by omega), upd_ne (by omega), upd_ne (by omega), upd_ne (by omega), upd_ne (by omega), upd_ne (by omega), upd_ne (by omega), upd_ne (by omega)]; exact i2.2.1
  · obtain ⟨ir, a1, a2⟩ := i2.2.2
    exact ⟨ir, a1, by rw [upd_ne (by omega), upd_ne (by omega), upd_ne (by omega), upd_ne (by omega), upd_ne (by omega)]; exact a2⟩
  · by_cases e : c = cn
    · subst e
      refine ⟨⟨?_, ?_, ?_⟩, lo, hi, g, ?_, ?_, ?_, h2, h3, h4, h5, h6⟩
      · rw [upd_ne (by omega), upd_ne (by omega), upd_ne (by omega), upd_at, upd_ne (by omega), upd_ne (by omega), upd_at]
      · rw [upd_ne (by omega), upd_ne (by omega), upd_at, upd_ne (by omega), upd_at]
      · rw [upd_ne (by omega), upd_at, upd_at]
      · rw [upd_ne (by omega), upd_ne (by omega), upd_at]
      · rw [upd_ne (by omega), upd_at]
      · rw [upd_at]
    · have e1 : ∀ k, k = 9 + c ∨ k = 13 + c ∨ k = 17 + c → upd (upd (upd (upd rt (9 + cn) (nI lo)) (13 + cn) (nI hi)) (17 + cn) (nI g)) 3 (nI (cn + 1)) k = rt k ∧ upd (upd (upd (upd (upd r 3 (nI (cn + 1))) (5 + cn) (nI pu)) (9 + cn) (nI lo)) (13 + cn) (nI hi)) (17 + cn) (nI g) k = r k := by
        intro k hk
        rw [upd_ne (show k ≠ 3 by omega), upd_ne (show k ≠ 17 + cn by omega), upd_ne (show k ≠ 13 + cn by omega), upd_ne (show k ≠ 9 + cn by omega), upd_ne (show k ≠ 17 + cn by omega), upd_ne (show k ≠ 13 + cn by omega), upd_ne (show k ≠ 9 + cn by omega), upd_ne (show k ≠ 5 + cn by omega), upd_ne (show k ≠ 3 by omega)]
        exact ⟨rfl, rfl⟩
      rw [(e1 (9 + c) (by omega)).1, (e1 (9 + c) (by omega)).2, (e1 (13 + c) (by omega)).1, (e1 (13 + c) (by omega)).2, (e1 (17 + c) (by omega)).1, (e1 (17 + c) (by omega)).2]
      exact i3 c (by omega)
  · rw [upd_ne (show 5 + c ≠ 17 + cn by omega), upd_ne (show 5 + c ≠ 13 + cn by omega), upd_ne (show 5 + c ≠ 9 + cn by omega)]
    by_cases e : c = cn
    · subst e
      rw [upd_at, upd_at]; exact ⟨rfl, pu, h1, rfl⟩
    · rw [upd_ne (by omega), upd_ne (by omega), upd_ne (by omega)]; exact i4 c hc'
  · rw [upd_ne (show 22 + 4 * p + c ≠ 17 + cn by omega), upd_ne (show 22 + 4 * p + c ≠ 13 + cn by omega), upd_ne (show 22 + 4 * p + c ≠ 9 + cn by omega), upd_ne (show 22 + 4 * p + c ≠ 5 + cn by omega), upd_ne (show 22 + 4 * p + c ≠ 3 by omega), upd_ne (show 4 * p + c ≠ 32 + cn by omega)]
    have q := i5 p c hp hc'
    exact ⟨q.1, q.2.1, fun _ => q.2.2 (Or.inl (by omega))⟩
  · rw [upd_ne (by omega)]; exact i6 k q1 q2
theorem p_cred {tx rt rn r : Nat → Int32} {sz al cn pn : Nat} {em w : Int32} (hx : hv tx sz (sk tx sz al) = 99) (h0 : r 0 = 1) (hI : pInv rt rn r cn pn) :
    pOut tx sz ((rcS tx sz (sk tx sz al, 0, -1) cn rt, rcT tx sz (sk tx sz al, 0, -1) cn rt, rcN tx sz (sk tx sz al, 0, -1) cn rt rn, rcM tx sz (sk tx sz al, 0, -1) cn rt em) : CSt) (rcX tx sz al r w cn) := by
  obtain ⟨hs1, hs2⟩ := st_sign hx (by decide) (by decide)
  have hr4 : rt 4 = r 4 := hI.2.1.1 4 (by omega)
  have bad : ¬ cdOK cn rt → pOut tx sz ((rcS tx sz (sk tx sz al, 0, -1) cn rt, rcT tx sz (sk tx sz al, 0, -1) cn rt, rcN tx sz (sk tx sz al, 0, -1) cn rt rn, rcM tx sz (sk tx sz al, 0, -1) cn rt em) : CSt) ((false, al, r, 3) : PR) := by
    intro h
    have e : rcS tx sz (sk tx sz al, 0, -1) cn rt = (sk tx sz al, 3, nI (sk tx sz al)) := by
      unfold rcS; rw [if_neg h]; exact opB_z (s := (sk tx sz al, 0, -1)) rfl (by decide)
    rw [e]
    exact Or.inr ⟨rfl, (by decide : ¬ (3 : Int32) = 0), rfl⟩
  unfold rcX
  by_cases h4 : cn = 4
  · rw [if_pos h4]; exact bad (fun q => by have := q.1; omega)
  rw [if_neg h4]
  by_cases hp : r 4 ≤ 0
  rotate_left
  · rw [if_neg hp]; exact bad (fun q => hp (by rw [← hr4]; exact q.2))
  rw [if_pos hp]
  have hcn4 := hI.1.1
  have hpn : pn = 0 := np_0 hI.1.2.2.2.1 (by have := hI.1.2.1; omega) hp
  have hok : cdOK cn rt := ⟨by omega, by rw [hr4]; exact hp⟩
  have e1 : rc1 (sk tx sz al, 0, -1) = (sN1 tx sz al, 0, -1) := by
    show (sk tx sz al + 1, (0 : Int32), (-1 : Int32)) = _; rw [← hs2]
  have eS : rcS tx sz (sk tx sz al, 0, -1) cn rt = opS tx sz 59 (rc6 tx sz (sk tx sz al, 0, -1)) := if_pos hok
  rw [eS]
  by_cases g1 : nuOK tx sz (sN1 tx sz al) 0 999
  rotate_left
  · rw [if_neg g1]
    have e2 : rc2 tx sz (sk tx sz al, 0, -1) = opN tx sz 0 999 (sN1 tx sz al, 0, -1) := by unfold rc2; rw [e1]
    obtain ⟨a1, a2⟩ := opN_no (s := (sN1 tx sz al, 0, -1)) rfl g1
    rw [← e2] at a1 a2
    have a3 := rc_K2 a2
    obtain ⟨w1, w2⟩ := nuW_no (w := w) g1
    refine Or.inr ⟨rfl, ?_, ?_⟩
    · show ¬ (opS tx sz 59 _).2.1 = 0
      rw [a3]; exact a2
    · show (opS tx sz 59 _).2 = (rcW1 tx sz al w, _)
      rw [a3, a1]; show _ = (nuW tx sz (sN1 tx sz al) 0 999 w, _); rw [w1]
  rw [if_pos g1]
  have e2 : rc2 tx sz (sk tx sz al, 0, -1) = (sN2 tx sz al, 0, -1) := by unfold rc2; rw [e1]; exact opN_ok (s := (sN1 tx sz al, 0, -1)) g1
  by_cases g2 : nuOK tx sz (sN2 tx sz al) 1 999
  rotate_left
  · rw [if_neg g2]
    have e3 : rc3 tx sz (sk tx sz al, 0, -1) = opN tx sz 1 999 (sN2 tx sz al, 0, -1) := by unfold rc3; rw [e2]
    obtain ⟨a1, a2⟩ := opN_no (s := (sN2 tx sz al, 0, -1)) rfl g2
    rw [← e3] at a1 a2
    have a3 := rc_K3 a2
    obtain ⟨w1, w2⟩ := nuW_no (w := rcW1 tx sz al w) g2
    refine Or.inr ⟨rfl, ?_, ?_⟩
    · show ¬ (opS tx sz 59 _).2.1 = 0
      rw [a3]; exact a2
    · show (opS tx sz 59 _).2 = (rcW2 tx sz al w, _)
      rw [a3, a1]; show _ = (nuW tx sz (sN2 tx sz al) 1 999 (rcW1 tx sz al w), _); rw [w1]
  rw [if_pos g2]
  have e3 : rc3 tx sz (sk tx sz al, 0, -1) = (sN3 tx sz al, 0, -1) := by unfold rc3; rw [e2]; exact opN_ok (s := (sN2 tx sz al, 0, -1)) g2
  by_cases g3 : nuOK tx sz (sN3 tx sz al) 1 999
  rotate_left
  · rw [if_neg g3]
    have e4 : rc4 tx sz (sk tx sz al, 0, -1) = opN tx sz 1 999 (sN3 tx sz al, 0, -1) := by unfold rc4; rw [e3]
    obtain ⟨a1, a2⟩ := opN_no (s := (sN3 tx sz al, 0, -1)) rfl g3
    rw [← e4] at a1 a2
    have a3 := rc_K4 a2
    obtain ⟨w1, w2⟩ := nuW_no (w := rcW2 tx sz al w) g3
    refine Or.inr ⟨rfl, ?_, ?_⟩
    · show ¬ (opS tx sz 59 _).2.1 = 0
      rw [a3]; exact a2
    · show (opS tx sz 59 _).2 = (rcW3 tx sz al w, _)
      rw [a3, a1]; show _ = (nuW tx sz (sN3 tx sz al) 1 999 (rcW2 tx sz al w), _); rw [w1]
  rw [if_pos g3]
  have e4 : rc4 tx sz (sk tx sz al, 0, -1) = (sN4 tx sz al, 0, -1) := by unfold rc4; rw [e3]; exact opN_ok (s := (sN3 tx sz al, 0, -1)) g3
  have eR3 : rcR3 tx sz al cn r = upd (upd (upd (upd r 3 (nI (cn + 1))) (5 + cn) (stV tx sz (sN1 tx sz al))) (9 + cn) (stV tx sz (sN2 tx sz al))) (13 + cn) (stV tx sz (sN3 tx sz al)) := by
    show nuR tx sz (sN3 tx sz al) 1 999 (13 + cn) (nuR tx sz (sN2 tx sz al) 1 999 (9 + cn) (nuR tx sz (sN1 tx sz al) 0 999 (5 + cn) _)) = _
    rw [nuR_ok g1, nuR_ok g2, nuR_ok g3]
  have eL : rcR3 tx sz al cn r (9 + cn) = stV tx sz (sN2 tx sz al) := by rw [eR3, upd_ne (by omega), upd_at]
  have eH : rcR3 tx sz al cn r (13 + cn) = stV tx sz (sN3 tx sz al) := by rw [eR3, upd_at]
  rw [eL, eH]
  by_cases g4 : stV tx sz (sN2 tx sz al) ≤ stV tx sz (sN3 tx sz al)
  rotate_left
  · rw [if_neg g4]
    have e5 : rc5 tx sz (sk tx sz al, 0, -1) = (sN4 tx sz al, 4, nI (sk tx sz (sN3 tx sz al))) := by
      unfold rc5; rw [e2, e3, e4, if_pos (i32_nle.mp g4)]; exact opB_z (s := (sN4 tx sz al, 0, -1)) rfl (by decide)
    have a3 := rc_K5 (tx := tx) (sz := sz) (s := (sk tx sz al, 0, -1)) (by rw [e5]; exact (by decide : ¬ (4 : Int32) = 0))
    refine Or.inr ⟨rfl, ?_, ?_⟩
    · show ¬ (opS tx sz 59 _).2.1 = 0
      rw [a3, e5]; exact (by decide : ¬ (4 : Int32) = 0)
    · show (opS tx sz 59 _).2 = _
      rw [a3, e5]
  rw [if_pos g4]
  have e5 : rc5 tx sz (sk tx sz al, 0, -1) = (sN4 tx sz al, 0, -1) := by
    unfold rc5; rw [e2, e3, e4, if_neg (i32_nlt.mpr g4)]
  by_cases g5 : nuOK tx sz (sN4 tx sz al) 1 9
  rotate_left
  · rw [if_neg g5]
    have e6 : rc6 tx sz (sk tx sz al, 0, -1) = opN tx sz 1 9 (sN4 tx sz al, 0, -1) := by unfold rc6; rw [e5]
    obtain ⟨a1, a2⟩ := opN_no (s := (sN4 tx sz al, 0, -1)) rfl g5
    rw [← e6] at a1 a2
    have a3 := opS_K (tx := tx) (sz := sz) (due := 59) a2
    obtain ⟨w1, w2⟩ := nuW_no (w := rcW3 tx sz al w) g5
    refine Or.inr ⟨rfl, ?_, ?_⟩
    · show ¬ (opS tx sz 59 _).2.1 = 0
      rw [a3]; exact a2
    · show (opS tx sz 59 _).2 = (rcW4 tx sz al w, _)
      rw [a3, a1]; show _ = (nuW tx sz (sN4 tx sz al) 1 9 (rcW3 tx sz al w), _); rw [w1]
  rw [if_pos g5]
  have e6 : rc6 tx sz (sk tx sz al, 0, -1) = (sN5 tx sz al, 0, -1) := by unfold rc6; rw [e5]; exact opN_ok (s := (sN4 tx sz al, 0, -1)) g5
  rw [e6]
  by_cases g6 : stS tx sz (sN5 tx sz al) = 59
  rotate_left
  · rw [if_neg g6]
    have h4' : ¬ hv tx sz (sk tx sz (sN5 tx sz al)) = 59 := fun q => g6 ((st_due (by decide) (by decide)).mpr q)
    have h5 := opS_no (s := (sN5 tx sz al, 0, -1)) rfl h4'
    have e : enW tx sz (sN5 tx sz al) (rcW4 tx sz al w) = 1 := if_neg g6
    refine Or.inr ⟨rfl, ?_, ?_⟩
    · show ¬ (opS tx sz 59 _).2.1 = 0
      rw [h5]; exact (by decide : ¬ (1 : Int32) = 0)
    · show (opS tx sz 59 _).2 = _
      rw [h5, e]
  rw [if_pos g6]
  have h4' := (st_due (by decide) (by decide)).mp g6
  rw [opS_ok (s := (sN5 tx sz al, 0, -1)) (by decide) (by decide) h4']
  obtain ⟨pu, -, hpu, epu⟩ := nu_rng (x := 0) (y := 999) (by decide) (by decide) g1
  obtain ⟨lo, hlo1, hlo2, elo⟩ := nu_rng (x := 1) (y := 999) (by decide) (by decide) g2
  obtain ⟨hi, hhi1, hhi2, ehi⟩ := nu_rng (x := 1) (y := 999) (by decide) (by decide) g3
  obtain ⟨g, hg1, hg2, eg⟩ := nu_rng (x := 1) (y := 9) (by decide) (by decide) g5
  rw [elo, ehi, nI_leI (by omega) (by omega)] at g4
  subst hpn
  have hI2 := p_credI hI (by omega : cn < 4) hpu hlo1 g4 hhi2 hg1 hg2
  have eT : rcT tx sz (sk tx sz al, 0, -1) cn rt = upd (upd (upd (upd rt (9 + cn) (nI lo)) (13 + cn) (nI hi)) (17 + cn) (nI g)) 3 (nI (cn + 1)) := by
    unfold rcT; rw [if_pos hok, e2, e3, e5, ← elo, ← ehi, ← eg]
  have eN : rcN tx sz (sk tx sz al, 0, -1) cn rt rn = upd rn (32 + cn) (nI pu) := by
    unfold rcN; rw [if_pos hok, e1, ← epu]
  have eR4 : rcR4 tx sz al cn r = upd (upd (upd (upd (upd r 3 (nI (cn + 1))) (5 + cn) (nI pu)) (9 + cn) (nI lo)) (13 + cn) (nI hi)) (17 + cn) (nI g) := by
    show nuR tx sz (sN4 tx sz al) 1 9 (17 + cn) (rcR3 tx sz al cn r) = _
    rw [nuR_ok g5, eR3, ← epu, ← elo, ← ehi, ← eg]
  have e0 : rcR4 tx sz al cn r 0 = 1 := by
    rw [eR4, upd_ne (by omega), upd_ne (by omega), upd_ne (by omega), upd_ne (by omega), upd_ne (by omega)]; exact h0
  rw [← eT, ← eN, ← eR4] at hI2
  exact Or.inl ⟨rfl, rfl, rfl, e0, cn + 1, 0, hI2⟩
