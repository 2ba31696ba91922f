section LTOWN
variable {l : Launch} {G : gG} {a b : Nat → Nat} {ra : Nat → Nat → Nat} {nR : Nat} {i j t r n d ps im kp tx cd bk py pt mt eo es tc nk d2 rt rn su co mo m0 m1 : Nat → Int32} {s : RSt} {em : Int32} {rg : Nat → Nat → Int32} {nc np un od : Nat}
theorem begI_A {s' : RSt} (h : IvA i tx cd bk s) (hs : s'.2.2 = -1) : IvA (begI (upd (upd i 11 (-1)) 10 0)) tx cd bk s' :=
  ⟨hs, ⟨0, rfl, by omega, fun k hk => absurd hk (by omega), fun k hk => absurd hk (by omega)⟩, ⟨0, rfl, by omega, fun k hk => absurd hk (by omega)⟩, ⟨0, rfl, by omega, fun k hk => absurd hk (by omega)⟩, h.2.2.2.2⟩
theorem flt_A {s' : RSt} {v : Int32} (h : IvA i tx cd bk s) (hs : s'.2.2 = v) : IvA (upd (upd (upd i 11 (-1)) 10 0) 11 v) tx cd bk s' :=
  ⟨hs, h.2.1, h.2.2.1, ⟨0, rfl, by omega, fun k hk => absurd hk (by omega)⟩, h.2.2.2.2⟩
set_option maxRecDepth 100000 in
theorem two_town (hA : IvA i tx cd bk s) (hod : ∃ od : Nat, eo 0 = nI od ∧ od < 30) (hF : ∀ (i' j' r' rt' rn' : Nat → Int32) (s' : RSt) (em' : Int32), i' 5 = i 5 → i' 15 = i 15 → IvA i' tx cd bk s' → LI G a b ra nR (mW G a i' j' t r' n d ps im kp tx cd bk py pt mt ++ dR G b ra nR s' em' i' eo es tc nk d2 tx rt' rn' cd su bk co mo m0 m1 kp rg)) : Two l yX9_town wsX9_town ({ frames := 6, cells := 0, slots := 0, locals := 132 } : Room) yX10_town wsX10_town ({ frames := 5, cells := 0, slots := 0, locals := 111 } : Room) G a b (LI G a b ra nR) (mW G a i j t r n d ps im kp tx cd bk py pt mt ++ dR G b ra nR s em i eo es tc nk d2 tx rt rn cd su bk co mo m0 m1 kp rg) [] := by
  obtain ⟨b1, -, -, ⟨sz, b9, b10, b11⟩, -⟩ := id hA
  obtain ⟨od, o1, o2⟩ := hod
  have c9 := (c_X9_town l G b ra s em i eo es tc nk d2 tx rt rn cd su bk co mo m0 m1 kp sz b9 b10).dR nR rg
  have c10 := c_X10_town l G a i j t r n d ps im kp tx cd bk py pt mt sz b9 b10
  have pt := p_text (rt := rt) (rn := rn) (r := r) (em := em) (w := j 21) b11 b10
  generalize tnX tx sz (sz + 1) ((0, upto r (fun _ => 0) 54, j 21) : TSt) = T at c10 pt
  generalize raX tx sz rt rn em = X at c9 pt
  rcases pt with ⟨q1, q2, q3, cn, pn, q4, q5⟩ | ⟨q1, q2, q3⟩
  · have e9 : X.1.2.1 = 0 := by rw [q2]
    have e9b : X.1.2.2 = -1 := by rw [q2]
    simp only [if_pos e9] at c9
    simp only [if_pos q1] at c10
    obtain ⟨p1, p2, p3, p4⟩ := p_town (t := t) (n := n) q3 q4
    have hi := begI_A (s' := X.1) hA e9b
    refine two_EE c9.toE c10 (p3.1 4 (by omega)) (fun _ => dR_f.trans dR_f.symm) ⟨_, rfl⟩ (fun _ u => ?_)
    rw [dR_i (i := (upd (upd (upd (upd i 10 0) 5 0) 13 0) 15 0)) (i2 := (begI (upd (upd i 11 (-1)) 10 0))) rfl rfl rfl rfl rfl, show upd (upd kp 0 0) 1 0 = begK kp from rfl]
    have hk : ∀ {Q : Prop}, begK kp 0 = 0 ∨ Q := fun {_} => Or.inl rfl
    have hk1 : ∀ {Q : Prop}, begK kp 1 = 0 ∨ Q := fun {_} => Or.inl rfl
    rcases q3 with z | z
    · obtain ⟨rfl, rfl⟩ := q5 z
      have n52 : begN (va_cpy T.2.2.1 t 0 0 54) n 52 = 0 := by rw [begN_hi (by omega) (by omega), if_neg (by omega)]
      have n53 : begN (va_cpy T.2.2.1 t 0 0 54) n 53 = 0 := by rw [begN_hi (by omega) (by omega), if_neg (by omega)]
      exact ⟨_, wQ_rf _, LI_0 hi ⟨p3, p1, (cpy_r (by omega)).trans z, rfl, ⟨od, o1, o2⟩, rfl⟩ ⟨⟨p2, n52, n53⟩, fun p hp => by rw [begN_hi (by omega) (by omega), if_pos (by omega)]⟩ ⟨okS_c (by omega) (fun k hk => (p4 k hk).symm) p2, (p4 52 (by omega)).trans n52, (p4 53 (by omega)).trans n53⟩ ⟨hk, hk1⟩⟩
    · exact ⟨_, wQ_app (wQ_rf _) (dR_n p4), LI_1 (un := 0) (od := od) hi ⟨p3, p1, (cpy_r (by omega)).trans z⟩ ⟨p2, rfl, by omega, o1, o2, fun k hk => absurd hk (by omega), fun k hk => absurd hk (by omega)⟩ ⟨hk, hk1⟩⟩
  · have e10 : ¬ T.1 = true := by rw [q1]; exact Bool.false_ne_true
    simp only [if_neg q2] at c9
    simp only [if_neg e10] at c10
    have hr : -10 - X.1.2.1 = -10 - T.2.2.2 := by rw [q3]
    have hi := flt_A (s' := X.1) (v := nI (sk tx sz T.2.1)) hA (by rw [q3])
    refine two_EE c9.toE c10 hr (fun _ => dR_f.trans dR_f.symm) ⟨_, rfl⟩ (fun _ u => ?_)
    rw [dR_i (i := (upd i 10 0)) (i2 := (upd (upd (upd i 11 (-1)) 10 0) 11 (nI (sk tx sz T.2.1)))) rfl rfl rfl rfl rfl]
    exact ⟨_, wQ_rf _, hF _ _ _ _ _ _ _ rfl rfl hi⟩
theorem two1_town (hnR : nR = 30) (hA : IvA i tx cd bk s) (hT : IvT t tc nc np) (hH : IvH i t n ps eo rg nc np un od) (hI : Imgs t im kp m0 m1 eo nc np) : Two l yX9_town wsX9_town ({ frames := 6, cells := 0, slots := 0, locals := 132 } : Room) yX10_town wsX10_town ({ frames := 5, cells := 0, slots := 0, locals := 111 } : Room) G a b (LI G a b ra nR) (mW G a i j t r n d ps im kp tx cd bk py pt mt ++ dR G b ra nR s em i eo es tc n d2 tx rt rn cd su bk co mo m0 m1 kp rg) [] :=
  two_town hA ⟨od, hH.2.2.2.1, hH.2.2.2.2.1⟩ (fun _ _ _ _ _ _ _ e5 _ h => LI_1 h hT (IvH_c hH e5) hI)
theorem two0_town (hnR : nR = 30) (hA : IvA i tx cd bk s) (hZ : IvZ i t tc eo) (hN : zR t n) (hK : zC t nk) (hI : Imgz t im kp m0 m1 eo) : Two l yX9_town wsX9_town ({ frames := 6, cells := 0, slots := 0, locals := 132 } : Room) yX10_town wsX10_town ({ frames := 5, cells := 0, slots := 0, locals := 111 } : Room) G a b (LI G a b ra nR) (mW G a i j t r n d ps im kp tx cd bk py pt mt ++ dR G b ra nR s em i eo es tc nk d2 tx rt rn cd su bk co mo m0 m1 kp rg) [] :=
  two_town hA hZ.2.2.2.2.1 (fun _ _ _ _ _ _ _ e5 e15 h => LI_0 h (IvZ_c hZ e5 e15) hN hK hI)
end LTOWN
