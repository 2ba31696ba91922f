/-! what each call leaves of it -/
theorem cl_0 : cl (0 : Int32) = 0 := by decide +kernel
theorem cl_1 : cl (1 : Int32) = 1 := by decide +kernel
theorem no01 {x : Int32} (e0 : ¬ x = 0) (e1 : ¬ x = 1) : ¬ inB x 0 1 := fun q => by
  obtain ⟨j, h1, h2, rfl⟩ := inB_rng (a := 0) (b := 1) rfl rfl (by decide) (by decide) q
  rcases (show j = 0 ∨ j = 1 by omega) with rfl | rfl
  · exact e0 rfl
  · exact e1 rfl
theorem is1 {x : Int32} (h : inB x 0 1) (e0 : ¬ x = 0) : x = 1 := by
  by_cases e1 : x = 1
  · exact e1
  · exact absurd h (no01 e0 e1)
theorem wQ_app : ∀ {w w' u u' : va_W}, wQ w w' → wQ u u' → wQ (w ++ u) (w' ++ u')
  | [], [], _, _, _, h => h
  | [], _ :: _, _, _, h, _ => h.elim
  | _ :: _, [], _, _, h, _ => h.elim
  | (_, _) :: _, (_, _) :: _, _, _, h, h2 => ⟨h.1, h.2.1, wQ_app h.2.2 h2⟩
section LKEEP
variable {i i' j t r n d ps im kp tx cd bk py pt mt eo eo' es tc nk d2 rt rn su co mo m0 m1 n' : Nat → Int32} {s : RSt} {em : Int32} {rg : Nat → Nat → Int32} {nc np un od : Nat}
theorem told1 {x : Int32} (h1 : eqN tc t nc) (hT : okT t nc np) (hO : okS t n nc np) (h0 : t 0 = 1) : toldC i tc n np x = toldR i t n x := by
  unfold toldC
  by_cases e : x = 8
  · rw [if_pos e, e]
    show wedS n np = wedS n 8
    exact (wedS_8 hO hT.1.2.2.2 h0).symm
  · rw [if_neg e]; exact toldR_t h1
theorem zR_w (h : ∀ p, p < 8 → n (44 + p) = -1) : wedS n 8 = 0 := by
  have key : ∀ k, k ≤ 8 → wedS n k = 0 := by
    intro k
    induction k with
    | zero => intro _; rfl
    | succ k ih =>
      intro hk
      show (if wedP n k = true then _ else setU (wedP n) k) = 0
      rw [if_neg (by unfold wedP; rw [decide_eq_true_eq]; exact fun q => q (h k (by omega)))]
      exact ih (by omega)
  exact key 8 (Nat.le_refl _)
theorem z_all (h : okS t n 0 0) : allU n 8 = 0 := (allU_8 h (by omega) (by omega)).trans rfl
theorem told0 {x : Int32} (h1 : eqN tc t 0) (hK : zC t nk) (hN : zR t n) : toldC i tc nk 0 x = toldR i t n x := by
  unfold toldC
  by_cases e : x = 8
  · rw [if_pos e, e]
    show (0 : Int32) = wedS n 8
    exact (zR_w hN.2).symm
  · rw [if_neg e, toldR_t h1]
    unfold toldR
    rw [hK.2.2, hK.2.1, hN.1.2.2, hN.1.2.1, z_all hK.1, z_all hN.1.1]
    simp only [e, if_false]
theorem z_ma {x : Int32} (h : nob t) : maR t n 0 0 x = if x = -1 then 0 else cUNK := by
  unfold maR
  by_cases e : x = -1
  · rw [if_neg (fun q => q.1 e), if_pos e, if_pos e]
    have key : mkN t n 0 0 8 0 = 0 := by
      show (if (bpR t n 0 0 (mkT t n 0 0 0)).2.1 = -1 then 0 else mkN t n 0 0 7 1) = 0
      exact if_pos rfl
    exact (congrArg nI key).trans nI_0
  · rw [if_pos ⟨e, fun q => nobP h q.1⟩, if_neg e]
theorem z_ha {cm : Nat} {p c w : Int32} (h : nob t) : haR t cd cm p c w = cUNK := if_pos (fun q => nobP h q.1)
theorem z_lo {cm : Nat} {p c : Int32} (h : nob t) : loR t cd cm p c = cUNK := if_pos (fun q => nobP h q.1)
theorem z_wrR {bm : Nat} {p x : Int32} (h : nob t) : wrR t bm p x = cUNK := if_pos (nobP h)
theorem z_caR {cm : Nat} {p c q : Int32} (h : nob t) : caR t cm p c q = cUNK := if_pos (fun q => nobP h q.1)
theorem un_pos {x : Int32} (h : inB x 1 30) : 1 ≤ cl x := by
  obtain ⟨j, h1, h2, rfl⟩ := inB_rng (a := 1) (b := 30) rfl rfl (by decide) (by decide) h
  rw [cl_nI (by omega)]; exact h1
theorem z_un {x : Int32} : ¬ okUn 0 x := fun q => by
  have h1 := un_pos q.1
  have h2 := q.2
  omega
theorem z_unR {x : Int32} : unR n ps 0 x = if ¬ inB x 1 30 then cOUT else cNOT := by
  unfold unR
  by_cases e : inB x 1 30
  · rw [if_neg (not_not_intro e), if_neg (not_not_intro e), if_pos (fun q => z_un ⟨e, q⟩)]
  · rw [if_pos e, if_pos e]
theorem IvH_c (h : IvH i t n ps eo rg nc np un od) (e5 : i' 5 = i 5) : IvH i' t n ps eo rg nc np un od := ⟨h.1, e5.trans h.2.1, h.2.2⟩
theorem IvZ_c (h : IvZ i t tc eo) (e5 : i' 5 = i 5) (e15 : i' 15 = i 15) : IvZ i' t tc eo := ⟨h.1, h.2.1, h.2.2.1, e5.trans h.2.2.2.1, h.2.2.2.2.1, e15.trans h.2.2.2.2.2⟩
theorem IvZ_c2 (h : IvZ i t tc eo) (e5 : i' 5 = i 5) (e15 : i' 15 = 0) : IvZ i' t tc eo := ⟨h.1, h.2.1, h.2.2.1, e5.trans h.2.2.2.1, h.2.2.2.2.1, e15.trans nI_0.symm⟩
theorem IvA_feed {sz : Nat} {x : Int32} (h : IvA i tx cd bk s) (hs : sz ≤ 240) (ht : okTx tx sz) (e : okFd sz x) : IvA (upd i 10 (nI (sz + 1))) (upd tx sz x) cd bk s := by
  obtain ⟨h1, ⟨cm, h2⟩, ⟨bm, h3⟩, -, h5⟩ := h
  have e2 := e.2
  refine ⟨h1.trans (upd_ne (by decide)).symm, ⟨cm, (upd_ne (by decide)).trans h2.1, h2.2⟩, ⟨bm, (upd_ne (by decide)).trans h3.1, h3.2⟩, ⟨sz + 1, upd_at _ _ _, by omega, fun k hk => ?_⟩, by rw [upd_ne (by decide)]; exact h5⟩
  by_cases ek : k = sz
  · rw [ek, upd_at]; exact Int32.not_lt.mpr e.1.1
  · rw [upd_ne ek]; exact ht k (by omega)
theorem IvA_tear (h : IvA i tx cd bk s) : IvA (upd (upd i 13 0) 15 0) tx cd bk s := by
  obtain ⟨h1, -, -, ⟨sz, h4⟩, h5⟩ := h
  have key : ∀ k, k ≠ 13 → k ≠ 15 → upd (upd i 13 0) 15 0 k = i k := fun k q1 q2 => by rw [upd_ne q2, upd_ne q1]
  refine ⟨h1.trans (key 11 (by decide) (by decide)).symm, ⟨0, (upd_ne (by decide)).trans ((upd_at _ _ _).trans nI_0.symm), by omega, fun k hk => absurd hk (by omega), fun k hk => absurd hk (by omega)⟩, ⟨0, (upd_at _ _ _).trans nI_0.symm, by omega, fun k hk => absurd hk (by omega)⟩, ⟨sz, (key 10 (by decide) (by decide)).trans h4.1, h4.2⟩, by rw [key 8 (by decide) (by decide)]; exact h5⟩
theorem IvA_write {bm : Nat} {p x : Int32} (h : IvA i tx cd bk s) (hT : okT t nc np) (hb : bm ≤ 20) (hk : ∀ k, k < bm → ∃ p, p < 8 ∧ bk (2 * k) = nI p) (e : okWr t bm p x) : IvA (upd i 15 (nI (bm + 1))) tx cd (upd (upd bk (2 * bm) p) (2 * bm + 1) x) s := by
  obtain ⟨h1, ⟨cm, h2⟩, -, ⟨sz, h4⟩, h5⟩ := h
  have q4 := hT.1.2.2.2
  have e3 := e.2.2
  refine ⟨h1.trans (upd_ne (by decide)).symm, ⟨cm, (upd_ne (by decide)).trans h2.1, h2.2⟩, ⟨bm + 1, upd_at _ _ _, by omega, fun k hk' => ?_⟩, ⟨sz, (upd_ne (by decide)).trans h4.1, h4.2⟩, by rw [upd_ne (by decide)]; exact h5⟩
  by_cases ek : k = bm
  · obtain ⟨pp, hpp, ep⟩ := inB_nat hT.1.2.1 (by omega) e.1
    rw [ek, upd_ne (by omega), upd_at]; exact ⟨pp, by omega, ep⟩
  · rw [upd_ne (by omega), upd_ne (by omega)]; exact hk k (by omega)
theorem IvA_card {cm : Nat} {p c q : Int32} {v : Prop} [Decidable v] (h : IvA i tx cd bk s) (hb : cm ≤ 6) (hq : ∀ k, k < cm → ∃ q, q ≤ 12 ∧ cd (4 * k + 2) = nI q) (h3 : ∀ k, k < cm → cd (4 * k + 3) = 0 ∨ cd (4 * k + 3) = 1) (e : okCd t cm p c q) : IvA (upd i 13 (nI (cm + 1))) tx (caF cd cm p c q (bI v)) bk s := by
  obtain ⟨h1, -, ⟨bm, h2⟩, ⟨sz, h4⟩, h5⟩ := h
  have e3 := e.2.2.2
  refine ⟨h1.trans (upd_ne (by decide)).symm, ⟨cm + 1, upd_at _ _ _, by omega, fun k hk => ?_, fun k hk => ?_⟩, ⟨bm, (upd_ne (by decide)).trans h2.1, h2.2⟩, ⟨sz, (upd_ne (by decide)).trans h4.1, h4.2⟩, by rw [upd_ne (by decide)]; exact h5⟩
  · unfold caF
    by_cases ek : k = cm
    · obtain ⟨qq, a1, a2, ep⟩ := inB_rng (a := 0) (b := 12) rfl rfl (by decide) (by decide) e.2.2.1
      rw [ek, upd_ne (by omega), upd_at]; exact ⟨qq, a2, ep⟩
    · rw [upd_ne (by omega), upd_ne (by omega), upd_ne (by omega), upd_ne (by omega)]; exact hq k (by omega)
  · unfold caF
    by_cases ek : k = cm
    · rw [ek, upd_at]
      by_cases hv : v
      · exact Or.inr (bI_t hv)
      · exact Or.inl (bI_f hv)
    · rw [upd_ne (by omega), upd_ne (by omega), upd_ne (by omega), upd_ne (by omega)]; exact h3 k (by omega)
theorem IvH_quarter (hT : IvT t tc nc np) (h : IvH i t n ps eo rg nc np un od) (k : Nat) : IvH (upd i 5 (nI (unQ un k))) t (nQ t nc np n k) (psQ t nc np n ps un k) (upd eo 0 (nI (odQ od un k))) (rgQ tc nc np n rg od un k) nc np (unQ un k) (odQ od un k) := by
  obtain ⟨g1, g2, g3, g4, g5, g6, g7⟩ := h
  refine ⟨okS_nQ hT.2.1 g1 k, upd_at _ _ _, unQ_le g3 k, upd_at _ _ _, odQ_lt g5 k, ?_, Past_Q hT.2.1 g7 g1 g3 k⟩
  have := ring_Q (t := tc) (nc := nc) (np := np) (n := n) g6 g3 g5 k
  rw [psQ_t hT.1] at this; exact this
theorem IvH_drift {sd : Nat} {v : Int32} (hT : IvT t tc nc np) (h : IvH i t n ps eo rg nc np un od) (k : Nat) : IvH (upd (upd i 5 (nI (unQ un k))) 8 v) t (nD t nc np n sd k) (psD t nc np n ps sd un k) (upd eo 0 (nI (odQ od un k))) (rgD tc nc np n rg sd od un k) nc np (unQ un k) (odQ od un k) := by
  obtain ⟨g1, g2, g3, g4, g5, g6, g7⟩ := h
  refine ⟨okS_nD hT.2.1 g1 k, (upd_ne (by decide)).trans (upd_at _ _ _), unQ_le g3 k, upd_at _ _ _, odQ_lt g5 k, ?_, Past_D hT.2.1 g7 g1 g3 k⟩
  have := ring_D (t := tc) (nc := nc) (np := np) (n := n) (sd := sd) g6 g3 g5 k
  rw [psD_t hT.1] at this; exact this
theorem IvH_undo {x : Int32} (hT : IvT t tc nc np) (h : IvH i t n ps eo rg nc np un od) (e : okUn un x) : IvH (upd i 5 (nI (un - cl x))) t (va_cpy ps n (54 * (un - cl x)) 0 54) ps eo rg nc np (un - cl x) od := by
  obtain ⟨g1, g2, g3, g4, g5, g6, g7⟩ := h
  have e1 := un_pos e.1
  have e2 := e.2
  exact ⟨okS_un hT.2.1 g7 (by omega), upd_at _ _ _, by omega, g4, g5, fun k hk => g6 k (by omega), fun k hk => g7 k (by omega)⟩
theorem IvH_keep (h : IvH i t n ps eo rg nc np un od) (e : eo' 0 = eo 0) : IvH (upd i 5 0) t n ps eo' rg nc np 0 od := by
  obtain ⟨g1, g2, g3, g4, g5, g6, g7⟩ := h
  exact ⟨g1, (upd_at _ _ _).trans nI_0.symm, by omega, e.trans g4, g5, fun k hk => absurd hk (by omega), fun k hk => absurd hk (by omega)⟩
theorem IvZ_keep (h : IvZ i t tc eo) (e : eo' 0 = eo 0) : IvZ (upd i 5 0) t tc eo' := by
  obtain ⟨h1, h2, h3, h4, ⟨od, h5, h6⟩, h7⟩ := h
  exact ⟨h1, h2, h3, (upd_at _ _ _).trans nI_0.symm, ⟨od, e.trans h5, h6⟩, (upd_ne (by decide)).trans h7⟩
theorem IvH_gb {v : Int32} (h : IvH i t n ps eo rg nc np un od) (hO : okS t n' nc np) : IvH (upd (upd i 8 v) 5 0) t n' ps eo rg nc np 0 od := by
  obtain ⟨g1, g2, g3, g4, g5, g6, g7⟩ := h
  exact ⟨hO, (upd_at _ _ _).trans nI_0.symm, by omega, g4, g5, fun k hk => absurd hk (by omega), fun k hk => absurd hk (by omega)⟩
theorem IvZ_gb {v : Int32} (h : IvZ i t tc eo) : IvZ (upd (upd i 8 v) 5 0) t tc eo := by
  obtain ⟨h1, h2, h3, h4, h5, h7⟩ := h
  exact ⟨h1, h2, h3, (upd_at _ _ _).trans nI_0.symm, h5, (upd_ne (by decide)).trans ((upd_ne (by decide)).trans h7)⟩
theorem gb_eq0 (h : eq54 m0 im) : eq54 m0 (va_cpy im n (55 * 0) 0 54) := fun k hk => by
  rw [h k hk]; unfold va_cpy; rw [if_pos (by omega)]; exact congrArg im (show _ = _ by omega)
theorem gb_eq1 (h : eq54 m1 (fun k => im (55 + k))) : eq54 m1 (va_cpy im n (55 * 1) 0 54) := fun k hk => by
  rw [h k hk]; unfold va_cpy; rw [if_pos (by omega)]; exact congrArg im (show _ = _ by omega)
theorem zR_c {f g : Nat → Int32} (h : eq54 f g) (hz : zR t f) : zR t g :=
  ⟨⟨okS_c (by omega) h hz.1.1, (h 52 (by omega)).symm.trans hz.1.2.1, (h 53 (by omega)).symm.trans hz.1.2.2⟩, fun p hp => (h (44 + p) (by omega)).symm.trans (hz.2 p hp)⟩
theorem gb_z0 (h : zR t im) : zR t (va_cpy im n (55 * 0) 0 54) := zR_c (gb_eq0 (fun _ _ => rfl)) h
theorem gb_z1 (h : zR t (fun k => im (55 + k))) : zR t (va_cpy im n (55 * 1) 0 54) := zR_c (gb_eq1 (m1 := fun k => im (55 + k)) (fun _ _ => rfl)) h
/-! images -/
theorem kp0_lo {v : Int32} : eq54 n (kpF n im v 0) := fun k hk => by
  unfold kpF; rw [upd_ne (by omega)]; unfold va_cpy; rw [if_pos (by omega)]; exact congrArg n (show _ = _ by omega)
theorem kp0_54 {v : Int32} : kpF n im v 0 54 = v := upd_at _ _ _
theorem kp0_hi {v : Int32} {k : Nat} (hk : 55 ≤ k) : kpF n im v 0 k = im k := by
  unfold kpF; rw [upd_ne (by omega)]; unfold va_cpy; rw [if_neg (by omega)]
theorem kp1_hi {v : Int32} : eq54 n (fun k => kpF n im v 1 (55 + k)) := fun k hk => by
  show n k = kpF n im v 1 (55 + k)
  unfold kpF; rw [upd_ne (by omega)]; unfold va_cpy; rw [if_pos (by omega)]; exact congrArg n (show _ = _ by omega)
theorem kp1_109 {v : Int32} : kpF n im v 1 109 = v := upd_at _ _ _
theorem kp1_lo {v : Int32} {k : Nat} (hk : k ≤ 54) : kpF n im v 1 k = im k := by
  unfold kpF; rw [upd_ne (by omega)]; unfold va_cpy; rw [if_neg (by omega)]
theorem Imgs_k0 (hA : IvA i tx cd bk s) (hH : IvH i t n ps eo rg nc np un od) (h : Imgs t im kp m0 m1 eo nc np) : Imgs t (kpF n im (i 8) 0) (upd kp 0 1) n m1 (upd eo 1 (i 8)) nc np := by
  refine ⟨Or.inr ⟨kp0_lo, hH.1, (upd_at _ _ _).trans kp0_54.symm, by rw [kp0_54]; exact hA.2.2.2.2⟩, ?_⟩
  rcases h.2 with q | ⟨q1, q2, q3, q4⟩
  · exact Or.inl ((upd_ne (by decide)).trans q)
  · exact Or.inr ⟨fun k hk => (q1 k hk).trans (kp0_hi (by omega)).symm, q2, (upd_ne (by decide)).trans (q3.trans (kp0_hi (by omega)).symm), by rw [kp0_hi (by omega)]; exact q4⟩
theorem Imgs_k1 (hA : IvA i tx cd bk s) (hH : IvH i t n ps eo rg nc np un od) (h : Imgs t im kp m0 m1 eo nc np) : Imgs t (kpF n im (i 8) 1) (upd kp 1 1) m0 n (upd eo 2 (i 8)) nc np := by
  refine ⟨?_, Or.inr ⟨kp1_hi, hH.1, (upd_at _ _ _).trans kp1_109.symm, by rw [kp1_109]; exact hA.2.2.2.2⟩⟩
  rcases h.1 with q | ⟨q1, q2, q3, q4⟩
  · exact Or.inl ((upd_ne (by decide)).trans q)
  · exact Or.inr ⟨fun k hk => (q1 k hk).trans (kp1_lo (by omega)).symm, q2, (upd_ne (by decide)).trans (q3.trans (kp1_lo (by omega)).symm), by rw [kp1_lo (by omega)]; exact q4⟩
theorem Imgz_k0 (hA : IvA i tx cd bk s) (hN : zR t n) (hK : zC t nk) (h : Imgz t im kp m0 m1 eo) : Imgz t (kpF n im (i 8) 0) (upd kp 0 1) nk m1 (upd eo 1 (i 8)) := by
  refine ⟨Or.inr ⟨hK, zR_c kp0_lo hN, (upd_at _ _ _).trans kp0_54.symm, by rw [kp0_54]; exact hA.2.2.2.2⟩, ?_⟩
  rcases h.2 with q | ⟨q1, q2, q3, q4⟩
  · exact Or.inl ((upd_ne (by decide)).trans q)
  · exact Or.inr ⟨q1, zR_c (fun k hk => (kp0_hi (by omega)).symm) q2, (upd_ne (by decide)).trans (q3.trans (kp0_hi (by omega)).symm), by rw [kp0_hi (by omega)]; exact q4⟩
theorem Imgz_k1 (hA : IvA i tx cd bk s) (hN : zR t n) (hK : zC t nk) (h : Imgz t im kp m0 m1 eo) : Imgz t (kpF n im (i 8) 1) (upd kp 1 1) m0 nk (upd eo 2 (i 8)) := by
  refine ⟨?_, Or.inr ⟨hK, zR_c kp1_hi hN, (upd_at _ _ _).trans kp1_109.symm, by rw [kp1_109]; exact hA.2.2.2.2⟩⟩
  rcases h.1 with q | ⟨q1, q2, q3, q4⟩
  · exact Or.inl ((upd_ne (by decide)).trans q)
  · exact Or.inr ⟨q1, zR_c (fun k hk => (kp1_lo (by omega)).symm) q2, (upd_ne (by decide)).trans (q3.trans (kp1_lo (by omega)).symm), by rw [kp1_lo (by omega)]; exact q4⟩
end LKEEP
