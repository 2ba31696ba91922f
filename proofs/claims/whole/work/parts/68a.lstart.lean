theorem kn_arr {U : State} {args : Array Value} {ty : FieldType} (h : (Cond.arrayClass ty).before args U = true) : ∃ cA : ClassId, ArrOfT U cA ty ∧ U.vm.findClass ("[" ++ ty.toString) = some cA := by
  obtain ⟨c, k, comp, h1, h2, h3⟩ := Cond.arrayClass_spec h
  exact ⟨c, fun N z => ⟨(fun k h => by cases h), k, h2, comp, h3⟩, h1⟩
theorem kn_ref {U : State} {C : String} (h : va_AO C U) : ∃ cA : ClassId, ArrOfT U cA (.object C) ∧ va_RA U cA (.object C) := by
  obtain ⟨comp, c, k, h1, h2, h3, h4, h5⟩ := Cond.arrayOver_spec h
  exact ⟨c, fun N z => ⟨(fun k h => by cases h), k, h3, comp, h4⟩, k, comp, h3, h4, h1, h5⟩
set_option maxRecDepth 100000 in
theorem all_O {s : State} {args : Array Value} (hts : ∀ w ∈ lw_tbl, w.before args s = true) : mkO s :=
  ⟨va_AO.of (hts (.arrayOver (.object RX7)) (by decide +kernel)), va_AO.of (hts (.arrayOver (.object RX3)) (by decide +kernel)), va_Nw.of rfl (hts (.methodLinkNest RX6 11 yX8_init RX9) (by decide +kernel)), va_Nw.of rfl (hts (.methodLinkNest RX9 9 yX6_init RX9) (by decide +kernel)), va_Nw.of rfl (hts (.methodLinkNest RX9 18 yX8_init RX9) (by decide +kernel)), va_Nw.of rfl (hts (.methodLinkNest RX9 44 yX4_init RX9) (by decide +kernel)), va_Nw.of rfl (hts (.methodLinkNest RX9 51 yX5_init RX9) (by decide +kernel)), va_Nw.of rfl (hts (.methodLinkNest RX9 58 yX1_init RX9) (by decide +kernel)), va_Nw.of rfl (hts (.methodLinkNest RX9 65 yX0_init RX9) (by decide +kernel))⟩
set_option maxRecDepth 100000 in
theorem all_K {s : State} {args : Array Value} (hts : ∀ w ∈ lw_tbl, w.before args s = true) : ∃ G : gG, va_K G.1 vwCl (tyS G) s := by
  have hts2 : ∀ w ∈ wsL_law, w.before args s = true := fun w h => hts w (wsL_law_in w h)
  obtain ⟨c0, i0, k0⟩ := u_known (C := RX0) (T := TX0) (N := 3) (n := 3) hts2 inlX0 (hts2 (.instantiable RX0 3) (by decide +kernel))
  obtain ⟨c1, i1, k1⟩ := u_known (C := RX1) (T := TX1) (N := 7) (n := 7) hts2 inlX1 (hts2 (.instantiable RX1 7) (by decide +kernel))
  obtain ⟨c2, i2, k2⟩ := u_known (C := RX2) (T := TX2) (N := 3) (n := 3) hts2 inlX2 (hts2 (.instantiable RX2 3) (by decide +kernel))
  obtain ⟨c3, i3, k3⟩ := u_known (C := RX3) (T := TX3) (N := 3) (n := 3) hts2 inlX3 (hts2 (.instantiable RX3 3) (by decide +kernel))
  obtain ⟨c4, i4, k4⟩ := u_known (C := RX4) (T := TX4) (N := 1) (n := 1) hts2 inlX4 (hts2 (.instantiable RX4 1) (by decide +kernel))
  obtain ⟨c5, i5, k5⟩ := u_known (C := RX5) (T := TX5) (N := 3) (n := 3) hts2 inlX5 (hts2 (.instantiable RX5 3) (by decide +kernel))
  obtain ⟨c6, i6, k6⟩ := u_known (C := RX6) (T := TX6) (N := 8) (n := 8) hts2 inlX6 (hts2 (.instantiable RX6 8) (by decide +kernel))
  obtain ⟨c7, i7, k7⟩ := u_known (C := RX7) (T := TX7) (N := 7) (n := 7) hts2 inlX7 (hts2 (.instantiable RX7 7) (by decide +kernel))
  obtain ⟨c8, i8, k8⟩ := u_known (C := RX8) (T := TX8) (N := 9) (n := 9) hts2 inlX8 (hts2 (.instantiable RX8 9) (by decide +kernel))
  obtain ⟨c9, i9, k9⟩ := u_known (C := RX9) (T := TX9) (N := 11) (n := 11) hts2 inlX9 (hts2 (.instantiable RX9 11) (by decide +kernel))
  obtain ⟨c10, i10, k10⟩ := u_known (C := RX10) (T := TX10) (N := 25) (n := 25) hts2 inlX10 (hts2 (.instantiable RX10 25) (by decide +kernel))
  obtain ⟨g1, a1, r1⟩ := kn_arr (ty := .int) (hts2 (.arrayClass .int) (by decide +kernel))
  obtain ⟨g2, a2, r2⟩ := kn_arr (ty := .boolean) (hts2 (.arrayClass .boolean) (by decide +kernel))
  obtain ⟨g3, a3, r3⟩ := kn_ref (all_O hts).1
  obtain ⟨g4, a4, r4⟩ := kn_ref (all_O hts).2.1
  refine ⟨(((fun k => match k with | 0 => c0 | 1 => c1 | 2 => c2 | 3 => c3 | 4 => c4 | 5 => c5 | 6 => c6 | 7 => c7 | 8 => c8 | 9 => c9 | _ => c10), (fun k => match k with | 0 => i0 | 1 => i1 | 2 => i2 | 3 => i3 | 4 => i4 | 5 => i5 | 6 => i6 | 7 => i7 | 8 => i8 | 9 => i9 | _ => i10)), g1, g2, g3, g4), fun k q hq => ?_, fun k q hq => ?_⟩
  · match k, hq with
    | 0, hq => cases hq; exact k0
    | 1, hq => cases hq; exact k1
    | 2, hq => cases hq; exact k2
    | 3, hq => cases hq; exact k3
    | 4, hq => cases hq; exact k4
    | 5, hq => cases hq; exact k5
    | 6, hq => cases hq; exact k6
    | 7, hq => cases hq; exact k7
    | 8, hq => cases hq; exact k8
    | 9, hq => cases hq; exact k9
    | 10, hq => cases hq; exact k10
    | k + 11, hq => simp [vwCl] at hq
  · match k, hq with
    | 0, hq => cases hq; exact ⟨a1, r1⟩
    | 1, hq => cases hq; exact ⟨a2, r2⟩
    | 2, hq => cases hq; exact ⟨a3, r3⟩
    | 3, hq => cases hq; exact ⟨a4, r4⟩
    | k + 4, hq => simp [tyS] at hq
theorem P_swap {G : gG} {w u : va_W} {H : Heap} (h : va_P G.1 vwCl (w ++ u) H) : va_P G.1 vwCl (u ++ w) H := (P_r h).app (P_l h)
theorem D_swap {A : Nat → Prop} {w u : va_W} (h : va_D A (w ++ u)) : va_D A (u ++ w) := (D_r h).app (D_l h) (fun i j x y hx hy e => D_x h hy hx e.symm)
theorem begK0 : begK (fun _ => 0) = fun _ => 0 := by
  funext k
  unfold begK upd
  by_cases h1 : k = 1
  · rw [if_pos h1]
  · rw [if_neg h1]
    by_cases h0 : k = 0
    · rw [if_pos h0]
    · rw [if_neg h0]
theorem okT0 : okT (fun _ => 0) 0 0 := ⟨⟨rfl, rfl, by omega, by omega⟩, ⟨0, by omega, rfl⟩, fun h => h, Or.inl rfl, fun c hc => absurd hc (by omega)⟩
theorem okS0 : okS (fun _ => 0) (fun _ => 0) 0 0 := ⟨fun _ _ _ _ _ => rfl, fun _ _ _ => ⟨rfl, Or.inr rfl⟩, fun _ _ => ⟨0, by omega, rfl⟩, ⟨0, by decide, rfl⟩, fun p hp => absurd hp (by omega), fun p c hp => absurd hp (by omega)⟩
theorem okS0N : okS (fun _ => 0) (begN (fun _ => 0) (fun _ => 0)) 0 0 := by
  refine ⟨fun p c h1 h2 _ => by rw [begN_lo (by omega)], fun p _ hp => ⟨by rw [begN_hi (by omega) (by omega), if_neg (by omega)], Or.inr rfl⟩, fun k hk => ?_, ⟨0, by decide, by rw [begN_hi (by omega) (by omega), if_neg (by omega)]; rfl⟩, fun p hp => absurd hp (by omega), fun p c hp => absurd hp (by omega)⟩
  by_cases h : k < 32
  · exact ⟨0, by omega, by rw [begN_lo h]; rfl⟩
  · have e := begN_pu (t := fun _ => 0) (n := fun _ => 0) (c := k - 32) (by omega)
    rw [show 32 + (k - 32) = k by omega] at e
    exact ⟨0, by omega, e⟩
theorem LI_start {G : gG} {a b : Nat → Nat} {ra : Nat → Nat → Nat} {nR : Nat} : LI G a b ra nR (mW G a (begI (fun k => if k = 11 then -1 else 0)) (fun _ => 0) (fun _ => 0) (fun _ => 0) (begN (fun _ => 0) (fun _ => 0)) (fun _ => 0) (fun _ => 0) (fun _ => 0) (begK (fun _ => 0)) (fun _ => 0) (fun _ => 0) (fun _ => 0) (fun _ => 0) (fun _ => 0) (fun _ => 0) ++ dR G b ra nR (0, 0, -1) 0 (fun _ => 0) (fun _ => 0) (fun _ => 0) (fun _ => 0) (fun _ => 0) (fun _ => 0) (fun _ => 0) (fun _ => 0) (fun _ => 0) (fun _ => 0) (fun _ => 0) (fun _ => 0) (fun _ => 0) (fun _ => 0) (fun _ => 0) (fun _ => 0) (fun _ => 0) (fun _ _ => 0)) := by
  rw [begK0, dR_i (i := fun _ => 0) (i2 := begI (fun k => if k = 11 then -1 else 0)) rfl rfl rfl rfl rfl]
  exact LI_0 ⟨rfl, ⟨0, rfl, by omega, fun k hk => absurd hk (by omega), fun k hk => absurd hk (by omega)⟩, ⟨0, rfl, by omega, fun k hk => absurd hk (by omega)⟩, ⟨0, rfl, by omega, fun k hk => absurd hk (by omega)⟩, ⟨0, rfl, by omega⟩⟩ ⟨⟨fun _ _ => rfl, rfl, fun c hc => absurd hc (by omega)⟩, okT0, rfl, rfl, ⟨0, rfl, by omega⟩, rfl⟩ ⟨⟨okS0N, by rw [begN_hi (by omega) (by omega), if_neg (by omega)], by rw [begN_hi (by omega) (by omega), if_neg (by omega)]⟩, fun p hp => by rw [begN_hi (by omega) (by omega), if_pos (by omega)]⟩ ⟨okS0, rfl, rfl⟩ ⟨Or.inl rfl, Or.inl rfl⟩
