section L1
variable {l : Launch} {G : gG} {a b : Nat → Nat} {ra : Nat → Nat → Nat} {nR : Nat} {i j t r n d ps im kp tx cd bk py pt mt eo es tc nk d2 rt rn su co mo m0 m1 : Nat → Int32} {s : RSt} {em : Int32} {rg : Nat → Nat → Int32} {nc np un od : Nat}
set_option maxRecDepth 100000 in
theorem two1_fault (hnR : nR = 30) (hA : IvA i tx cd bk s) (hT : IvT t tc nc np) (hH : IvH i t n ps eo rg nc np un od) (hI : Imgs t im kp m0 m1 eo nc np) : Two l yX9_fault wsX9_fault ({ frames := 0, cells := 0, slots := 0, locals := 0 } : Room) yX10_fault wsX10_fault ({ frames := 0, cells := 0, slots := 0, locals := 0 } : Room) G a b (LI G a b ra nR) (mW G a i j t r n d ps im kp tx cd bk py pt mt ++ dR G b ra nR s em i eo es tc n d2 tx rt rn cd su bk co mo m0 m1 kp rg) [] := by
  obtain ⟨h1, h2, h3⟩ := id hT
  obtain ⟨g1, g2, g3, g4, g5, g6, g7⟩ := id hH
  have k1 := okT_t h1 h2
  have k2 := okS_t h1 g1
  obtain ⟨b1, ⟨cm, b2, b3, b4, b5⟩, ⟨bm, b6, b7, b8⟩, ⟨sz, b9, b10, b11⟩, ⟨sd, b12, b13⟩⟩ := id hA
  have c9 := c_X9_fault l G b ra s em i eo es tc n d2 tx rt rn cd su bk co mo m0 m1 kp 
  have c10 := c_X10_fault l G a i j t r n d ps im kp tx cd bk py pt mt 
  have c9 := (c9.dR nR rg).toE
  have c10 := c10.toE
  exact two_EE c9 c10 (b1) (fun _ => rfl) ⟨_, rfl⟩ (fun _ _ => ⟨_, wQ_rf _, LI_1 hA hT hH hI⟩)
set_option maxRecDepth 100000 in
theorem two1_told (hnR : nR = 30) (hA : IvA i tx cd bk s) (hT : IvT t tc nc np) (hH : IvH i t n ps eo rg nc np un od) (hI : Imgs t im kp m0 m1 eo nc np) (x : Int32) : Two l yX9_told wsX9_told ({ frames := 3, cells := 0, slots := 0, locals := 67 } : Room) yX10_told wsX10_told ({ frames := 2, cells := 0, slots := 0, locals := 46 } : Room) G a b (LI G a b ra nR) (mW G a i j t r n d ps im kp tx cd bk py pt mt ++ dR G b ra nR s em i eo es tc n d2 tx rt rn cd su bk co mo m0 m1 kp rg) [.int x] := by
  obtain ⟨h1, h2, h3⟩ := id hT
  obtain ⟨g1, g2, g3, g4, g5, g6, g7⟩ := id hH
  have k1 := okT_t h1 h2
  have k2 := okS_t h1 g1
  obtain ⟨b1, ⟨cm, b2, b3, b4, b5⟩, ⟨bm, b6, b7, b8⟩, ⟨sz, b9, b10, b11⟩, ⟨sd, b12, b13⟩⟩ := id hA
  have c9 := c_X9_told l G b ra s em i eo es tc n d2 tx rt rn cd su bk co mo m0 m1 kp nc np x k1 k2
  have c10 := c_X10_told l G a i j t r n d ps im kp tx cd bk py pt mt x
  have c9 := (c9.dR nR rg).toE
  have c10 := c10.toE
  exact two_EE c9 c10 (told1 h1 h2 g1 h3) (fun _ => rfl) ⟨_, rfl⟩ (fun _ _ => ⟨_, wQ_rf _, LI_1 hA hT hH hI⟩)
set_option maxRecDepth 100000 in
theorem two1_creditor (hnR : nR = 30) (hA : IvA i tx cd bk s) (hT : IvT t tc nc np) (hH : IvH i t n ps eo rg nc np un od) (hI : Imgs t im kp m0 m1 eo nc np) (c x : Int32) : Two l yX9_creditor wsX9_creditor ({ frames := 4, cells := 0, slots := 0, locals := 90 } : Room) yX10_creditor wsX10_creditor ({ frames := 3, cells := 0, slots := 0, locals := 69 } : Room) G a b (LI G a b ra nR) (mW G a i j t r n d ps im kp tx cd bk py pt mt ++ dR G b ra nR s em i eo es tc n d2 tx rt rn cd su bk co mo m0 m1 kp rg) [.int c, .int x] := by
  obtain ⟨h1, h2, h3⟩ := id hT
  obtain ⟨g1, g2, g3, g4, g5, g6, g7⟩ := id hH
  have k1 := okT_t h1 h2
  have k2 := okS_t h1 g1
  obtain ⟨b1, ⟨cm, b2, b3, b4, b5⟩, ⟨bm, b6, b7, b8⟩, ⟨sz, b9, b10, b11⟩, ⟨sd, b12, b13⟩⟩ := id hA
  have c9 := (c_X9_creditor l G b i tc n nc np c x k1 k2).big (ws := dR G b ra nR s em i eo es tc n d2 tx rt rn cd su bk co mo m0 m1 kp rg) [0, 1, 2, 3, 4, 5, 6, 7, 8, 9] rfl
  have c10 := c_X10_creditor l G a i j t r n d ps im kp tx cd bk py pt mt nc np c x h2.1
  have c9 := c9.toE
  have c10 := c10.toE
  exact two_EE c9 c10 (crR_t h1 h2) (fun _ => rfl) ⟨_, rfl⟩ (fun _ _ => ⟨_, wQ_rf _, LI_1 hA hT hH hI⟩)
set_option maxRecDepth 100000 in
theorem two1_person (hnR : nR = 30) (hA : IvA i tx cd bk s) (hT : IvT t tc nc np) (hH : IvH i t n ps eo rg nc np un od) (hI : Imgs t im kp m0 m1 eo nc np) (p x : Int32) : Two l yX9_person wsX9_person ({ frames := 4, cells := 0, slots := 0, locals := 89 } : Room) yX10_person wsX10_person ({ frames := 3, cells := 0, slots := 0, locals := 70 } : Room) G a b (LI G a b ra nR) (mW G a i j t r n d ps im kp tx cd bk py pt mt ++ dR G b ra nR s em i eo es tc n d2 tx rt rn cd su bk co mo m0 m1 kp rg) [.int p, .int x] := by
  obtain ⟨h1, h2, h3⟩ := id hT
  obtain ⟨g1, g2, g3, g4, g5, g6, g7⟩ := id hH
  have k1 := okT_t h1 h2
  have k2 := okS_t h1 g1
  obtain ⟨b1, ⟨cm, b2, b3, b4, b5⟩, ⟨bm, b6, b7, b8⟩, ⟨sz, b9, b10, b11⟩, ⟨sd, b12, b13⟩⟩ := id hA
  have c9 := (c_X9_person l G b i tc n nc np p x k1 k2).big (ws := dR G b ra nR s em i eo es tc n d2 tx rt rn cd su bk co mo m0 m1 kp rg) [0, 1, 2, 3, 4, 5, 6, 7, 8, 9] rfl
  have c10 := c_X10_person l G a i j t r n d ps im kp tx cd bk py pt mt nc np p x h2.1
  have c9 := c9.toE
  have c10 := c10.toE
  exact two_EE c9 c10 (peR_t h1) (fun _ => rfl) ⟨_, rfl⟩ (fun _ _ => ⟨_, wQ_rf _, LI_1 hA hT hH hI⟩)
set_option maxRecDepth 100000 in
theorem two1_owes (hnR : nR = 30) (hA : IvA i tx cd bk s) (hT : IvT t tc nc np) (hH : IvH i t n ps eo rg nc np un od) (hI : Imgs t im kp m0 m1 eo nc np) (p c : Int32) : Two l yX9_owes wsX9_owes ({ frames := 2, cells := 0, slots := 0, locals := 43 } : Room) yX10_owes wsX10_owes ({ frames := 2, cells := 0, slots := 0, locals := 46 } : Room) G a b (LI G a b ra nR) (mW G a i j t r n d ps im kp tx cd bk py pt mt ++ dR G b ra nR s em i eo es tc n d2 tx rt rn cd su bk co mo m0 m1 kp rg) [.int p, .int c] := by
  obtain ⟨h1, h2, h3⟩ := id hT
  obtain ⟨g1, g2, g3, g4, g5, g6, g7⟩ := id hH
  have k1 := okT_t h1 h2
  have k2 := okS_t h1 g1
  obtain ⟨b1, ⟨cm, b2, b3, b4, b5⟩, ⟨bm, b6, b7, b8⟩, ⟨sz, b9, b10, b11⟩, ⟨sd, b12, b13⟩⟩ := id hA
  have c9 := (c_X9_owes l G b i tc n nc np p c k1 k2).big (ws := dR G b ra nR s em i eo es tc n d2 tx rt rn cd su bk co mo m0 m1 kp rg) [0, 1, 2, 3, 4, 5, 6, 7, 8, 9] rfl
  have c10 := c_X10_owes l G a i j t r n d ps im kp tx cd bk py pt mt nc np p c h2.1
  have c9 := c9.toE
  have c10 := c10.toE
  exact two_EE c9 c10 (owR_t h1) (fun _ => rfl) ⟨_, rfl⟩ (fun _ _ => ⟨_, wQ_rf _, LI_1 hA hT hH hI⟩)
set_option maxRecDepth 100000 in
theorem two1_temper (hnR : nR = 30) (hA : IvA i tx cd bk s) (hT : IvT t tc nc np) (hH : IvH i t n ps eo rg nc np un od) (hI : Imgs t im kp m0 m1 eo nc np) (p c : Int32) : Two l yX9_temper wsX9_temper ({ frames := 3, cells := 0, slots := 0, locals := 66 } : Room) yX10_temper wsX10_temper ({ frames := 2, cells := 0, slots := 0, locals := 46 } : Room) G a b (LI G a b ra nR) (mW G a i j t r n d ps im kp tx cd bk py pt mt ++ dR G b ra nR s em i eo es tc n d2 tx rt rn cd su bk co mo m0 m1 kp rg) [.int p, .int c] := by
  obtain ⟨h1, h2, h3⟩ := id hT
  obtain ⟨g1, g2, g3, g4, g5, g6, g7⟩ := id hH
  have k1 := okT_t h1 h2
  have k2 := okS_t h1 g1
  obtain ⟨b1, ⟨cm, b2, b3, b4, b5⟩, ⟨bm, b6, b7, b8⟩, ⟨sz, b9, b10, b11⟩, ⟨sd, b12, b13⟩⟩ := id hA
  have c9 := (c_X9_temper l G b i tc n nc np p c k1 k2).big (ws := dR G b ra nR s em i eo es tc n d2 tx rt rn cd su bk co mo m0 m1 kp rg) [0, 1, 2, 3, 4, 5, 6, 7, 8, 9] rfl
  have c10 := c_X10_temper l G a i j t r n d ps im kp tx cd bk py pt mt nc np p c h2.1
  have c9 := c9.toE
  have c10 := c10.toE
  exact two_EE c9 c10 (teR_t h1 h2) (fun _ => rfl) ⟨_, rfl⟩ (fun _ _ => ⟨_, wQ_rf _, LI_1 hA hT hH hI⟩)
set_option maxRecDepth 100000 in
theorem two1_joined (hnR : nR = 30) (hA : IvA i tx cd bk s) (hT : IvT t tc nc np) (hH : IvH i t n ps eo rg nc np un od) (hI : Imgs t im kp m0 m1 eo nc np) (g m : Int32) : Two l yX9_joined wsX9_joined ({ frames := 3, cells := 0, slots := 0, locals := 70 } : Room) yX10_joined wsX10_joined ({ frames := 4, cells := 0, slots := 0, locals := 92 } : Room) G a b (LI G a b ra nR) (mW G a i j t r n d ps im kp tx cd bk py pt mt ++ dR G b ra nR s em i eo es tc n d2 tx rt rn cd su bk co mo m0 m1 kp rg) [.int g, .int m] := by
  obtain ⟨h1, h2, h3⟩ := id hT
  obtain ⟨g1, g2, g3, g4, g5, g6, g7⟩ := id hH
  have k1 := okT_t h1 h2
  have k2 := okS_t h1 g1
  obtain ⟨b1, ⟨cm, b2, b3, b4, b5⟩, ⟨bm, b6, b7, b8⟩, ⟨sz, b9, b10, b11⟩, ⟨sd, b12, b13⟩⟩ := id hA
  have c9 := (c_X9_joined l G b i tc n nc np g m k1 k2).big (ws := dR G b ra nR s em i eo es tc n d2 tx rt rn cd su bk co mo m0 m1 kp rg) [0, 1, 2, 3, 4, 5, 6, 7, 8, 9] rfl
  have c10 := c_X10_joined l G a i j t r n d ps im kp tx cd bk py pt mt nc np g m h2.1
  have c9 := c9.toE
  exact two_EE c9 c10 (joR_t h1) (fun _ => rfl) ⟨_, rfl⟩ (fun _ _ => ⟨_, wQ_rf _, LI_1 hA hT hH hI⟩)
set_option maxRecDepth 100000 in
theorem two1_least (hnR : nR = 30) (hA : IvA i tx cd bk s) (hT : IvT t tc nc np) (hH : IvH i t n ps eo rg nc np un od) (hI : Imgs t im kp m0 m1 eo nc np) (p x w : Int32) : Two l yX9_least wsX9_least ({ frames := 6, cells := 0, slots := 0, locals := 137 } : Room) yX10_least wsX10_least ({ frames := 4, cells := 0, slots := 0, locals := 88 } : Room) G a b (LI G a b ra nR) (mW G a i j t r n d ps im kp tx cd bk py pt mt ++ dR G b ra nR s em i eo es tc n d2 tx rt rn cd su bk co mo m0 m1 kp rg) [.int p, .int x, .int w] := by
  obtain ⟨h1, h2, h3⟩ := id hT
  obtain ⟨g1, g2, g3, g4, g5, g6, g7⟩ := id hH
  have k1 := okT_t h1 h2
  have k2 := okS_t h1 g1
  obtain ⟨b1, ⟨cm, b2, b3, b4, b5⟩, ⟨bm, b6, b7, b8⟩, ⟨sz, b9, b10, b11⟩, ⟨sd, b12, b13⟩⟩ := id hA
  have c9 := (c_X9_least l G b i tc n nc np p x w k1 k2).big (ws := dR G b ra nR s em i eo es tc n d2 tx rt rn cd su bk co mo m0 m1 kp rg) [0, 1, 2, 3, 4, 5, 6, 7, 8, 9] rfl
  have c10 := c_X10_least l G a i j t r n d ps im kp tx cd bk py pt mt nc np p x w h2.1
  have c9 := c9.toE
  exact two_EE c9 c10 (leR_t h1) (fun _ => rfl) ⟨_, rfl⟩ (fun _ _ => ⟨_, wQ_rf _, LI_1 hA hT hH hI⟩)
set_option maxRecDepth 100000 in
theorem two1_plan (hnR : nR = 30) (hA : IvA i tx cd bk s) (hT : IvT t tc nc np) (hH : IvH i t n ps eo rg nc np un od) (hI : Imgs t im kp m0 m1 eo nc np) (p c x w : Int32) : Two l yX9_plan wsX9_plan ({ frames := 5, cells := 0, slots := 0, locals := 119 } : Room) yX10_plan wsX10_plan ({ frames := 3, cells := 0, slots := 0, locals := 66 } : Room) G a b (LI G a b ra nR) (mW G a i j t r n d ps im kp tx cd bk py pt mt ++ dR G b ra nR s em i eo es tc n d2 tx rt rn cd su bk co mo m0 m1 kp rg) [.int p, .int c, .int x, .int w] := by
  obtain ⟨h1, h2, h3⟩ := id hT
  obtain ⟨g1, g2, g3, g4, g5, g6, g7⟩ := id hH
  have k1 := okT_t h1 h2
  have k2 := okS_t h1 g1
  obtain ⟨b1, ⟨cm, b2, b3, b4, b5⟩, ⟨bm, b6, b7, b8⟩, ⟨sz, b9, b10, b11⟩, ⟨sd, b12, b13⟩⟩ := id hA
  have c9 := c_X9_plan l G b ra s em i eo es tc n d2 tx rt rn cd su bk co mo m0 m1 kp nc np p c x w k1 k2
  have c10 := c_X10_plan l G a i j t r n d ps im kp tx cd bk py pt mt nc np p c x w h2.1 (okT_L h2) (fun k hk => g1.2.2.1 k (by omega))
  have c9 := (c9.appL (rgW G (b 1) ra rg nR)).eqw dR_dW (fun _ => dR_dW)
  exact two_EE c9 c10 (plR_t h1 h2) (fun _ => dR_f.trans dR_f.symm) ⟨_, rfl⟩ (fun _ _ => ⟨_, wQ_rf _, LI_1 hA hT hH hI⟩)
set_option maxRecDepth 100000 in
theorem two1_matches (hnR : nR = 30) (hA : IvA i tx cd bk s) (hT : IvT t tc nc np) (hH : IvH i t n ps eo rg nc np un od) (hI : Imgs t im kp m0 m1 eo nc np) (x : Int32) : Two l yX9_matches wsX9_matches ({ frames := 6, cells := 0, slots := 0, locals := 143 } : Room) yX10_matches wsX10_matches ({ frames := 5, cells := 0, slots := 0, locals := 122 } : Room) G a b (LI G a b ra nR) (mW G a i j t r n d ps im kp tx cd bk py pt mt ++ dR G b ra nR s em i eo es tc n d2 tx rt rn cd su bk co mo m0 m1 kp rg) [.int x] := by
  obtain ⟨h1, h2, h3⟩ := id hT
  obtain ⟨g1, g2, g3, g4, g5, g6, g7⟩ := id hH
  have k1 := okT_t h1 h2
  have k2 := okS_t h1 g1
  obtain ⟨b1, ⟨cm, b2, b3, b4, b5⟩, ⟨bm, b6, b7, b8⟩, ⟨sz, b9, b10, b11⟩, ⟨sd, b12, b13⟩⟩ := id hA
  have c9 := c_X9_matches l G b ra s em i eo es tc n d2 tx rt rn cd su bk co mo m0 m1 kp nc np x k1 k2 ((h1.1 0 (by omega)).trans h3)
  have c10 := c_X10_matches l G a i j t r n d ps im kp tx cd bk py pt mt nc np x h2.1
  have c9 := (c9.appL (rgW G (b 1) ra rg nR)).eqw dR_dW (fun _ => dR_dW)
  exact two_EE c9 c10 (maR_t h1) (fun _ => dR_f.trans dR_f.symm) ⟨_, rfl⟩ (fun _ _ => ⟨_, wQ_rf _, LI_1 hA hT hH hI⟩)
set_option maxRecDepth 100000 in
theorem two1_failing (hnR : nR = 30) (hA : IvA i tx cd bk s) (hT : IvT t tc nc np) (hH : IvH i t n ps eo rg nc np un od) (hI : Imgs t im kp m0 m1 eo nc np) : Two l yX9_failing wsX9_failing ({ frames := 5, cells := 0, slots := 0, locals := 111 } : Room) yX10_failing wsX10_failing ({ frames := 4, cells := 0, slots := 0, locals := 92 } : Room) G a b (LI G a b ra nR) (mW G a i j t r n d ps im kp tx cd bk py pt mt ++ dR G b ra nR s em i eo es tc n d2 tx rt rn cd su bk co mo m0 m1 kp rg) [] := by
  obtain ⟨h1, h2, h3⟩ := id hT
  obtain ⟨g1, g2, g3, g4, g5, g6, g7⟩ := id hH
  have k1 := okT_t h1 h2
  have k2 := okS_t h1 g1
  obtain ⟨b1, ⟨cm, b2, b3, b4, b5⟩, ⟨bm, b6, b7, b8⟩, ⟨sz, b9, b10, b11⟩, ⟨sd, b12, b13⟩⟩ := id hA
  have c9 := c_X9_failing l G b ra s em i eo es tc n d2 tx rt rn cd su bk co mo m0 m1 kp nc np k1 k2
  have c10 := c_X10_failing l G a i j t r n d ps im kp tx cd bk py pt mt nc np h2.1
  have c9 := (c9.appL (rgW G (b 1) ra rg nR)).eqw dR_dW (fun _ => dR_dW)
  exact two_EE c9 c10 (by rw [qgF_t h1]) (fun _ => dR_f.trans dR_f.symm) ⟨_, rfl⟩ (fun _ _ => ⟨_, wQ_rf _, LI_1 hA hT hH hI⟩)
set_option maxRecDepth 100000 in
theorem two1_run (hnR : nR = 30) (hA : IvA i tx cd bk s) (hT : IvT t tc nc np) (hH : IvH i t n ps eo rg nc np un od) (hI : Imgs t im kp m0 m1 eo nc np) (x : Int32) : Two l yX9_run wsX9_run ({ frames := 5, cells := 0, slots := 0, locals := 111 } : Room) yX10_run wsX10_run ({ frames := 4, cells := 0, slots := 0, locals := 92 } : Room) G a b (LI G a b ra nR) (mW G a i j t r n d ps im kp tx cd bk py pt mt ++ dR G b ra nR s em i eo es tc n d2 tx rt rn cd su bk co mo m0 m1 kp rg) [.int x] := by
  obtain ⟨h1, h2, h3⟩ := id hT
  obtain ⟨g1, g2, g3, g4, g5, g6, g7⟩ := id hH
  have k1 := okT_t h1 h2
  have k2 := okS_t h1 g1
  obtain ⟨b1, ⟨cm, b2, b3, b4, b5⟩, ⟨bm, b6, b7, b8⟩, ⟨sz, b9, b10, b11⟩, ⟨sd, b12, b13⟩⟩ := id hA
  have c9 := c_X9_run l G b ra s em i eo es tc n d2 tx rt rn cd su bk co mo m0 m1 kp nc np x k1 k2
  have c10 := c_X10_run l G a i j t r n d ps im kp tx cd bk py pt mt nc np x h2.1
  have c9 := (c9.appL (rgW G (b 1) ra rg nR)).eqw dR_dW (fun _ => dR_dW)
  exact two_EE c9 c10 (by rw [nQ_t h1]) (fun _ => dR_f.trans dR_f.symm) ⟨_, rfl⟩ (fun _ _ => ⟨_, wQ_rf _, LI_1 hA hT hH hI⟩)
set_option maxRecDepth 100000 in
theorem two1_credit (hnR : nR = 30) (hA : IvA i tx cd bk s) (hT : IvT t tc nc np) (hH : IvH i t n ps eo rg nc np un od) (hI : Imgs t im kp m0 m1 eo nc np) (p c : Int32) : Two l yX9_credit wsX9_credit ({ frames := 4, cells := 0, slots := 0, locals := 86 } : Room) yX10_credit wsX10_credit ({ frames := 5, cells := 0, slots := 0, locals := 111 } : Room) G a b (LI G a b ra nR) (mW G a i j t r n d ps im kp tx cd bk py pt mt ++ dR G b ra nR s em i eo es tc n d2 tx rt rn cd su bk co mo m0 m1 kp rg) [.int p, .int c] := by
  obtain ⟨h1, h2, h3⟩ := id hT
  obtain ⟨g1, g2, g3, g4, g5, g6, g7⟩ := id hH
  have k1 := okT_t h1 h2
  have k2 := okS_t h1 g1
  obtain ⟨b1, ⟨cm, b2, b3, b4, b5⟩, ⟨bm, b6, b7, b8⟩, ⟨sz, b9, b10, b11⟩, ⟨sd, b12, b13⟩⟩ := id hA
  have c9 := (c_X9_credit l G b i tc n nc np p c k1 k2).big (ws := dR G b ra nR s em i eo es tc n d2 tx rt rn cd su bk co mo m0 m1 kp rg) [0, 1, 2, 3, 4, 5, 6, 7, 8, 9] rfl
  have c10 := c_X10_credit l G a i j t r n d ps im kp tx cd bk py pt mt nc np p c h2.1
  have c9 := c9.toE
  exact two_EE c9 c10 (cdR_t h1 h2) (fun _ => rfl) ⟨_, rfl⟩ (fun _ _ => ⟨_, wQ_rf _, LI_1 hA hT hH hI⟩)
set_option maxRecDepth 100000 in
theorem two1_rumours (hnR : nR = 30) (hA : IvA i tx cd bk s) (hT : IvT t tc nc np) (hH : IvH i t n ps eo rg nc np un od) (hI : Imgs t im kp m0 m1 eo nc np) (x q : Int32) : Two l yX9_rumours wsX9_rumours ({ frames := 0, cells := 0, slots := 0, locals := 0 } : Room) yX10_rumours wsX10_rumours ({ frames := 1, cells := 0, slots := 0, locals := 25 } : Room) G a b (LI G a b ra nR) (mW G a i j t r n d ps im kp tx cd bk py pt mt ++ dR G b ra nR s em i eo es tc n d2 tx rt rn cd su bk co mo m0 m1 kp rg) [.int x, .int q] := by
  obtain ⟨h1, h2, h3⟩ := id hT
  obtain ⟨g1, g2, g3, g4, g5, g6, g7⟩ := id hH
  have k1 := okT_t h1 h2
  have k2 := okS_t h1 g1
  obtain ⟨b1, ⟨cm, b2, b3, b4, b5⟩, ⟨bm, b6, b7, b8⟩, ⟨sz, b9, b10, b11⟩, ⟨sd, b12, b13⟩⟩ := id hA
  have c9 := (c_X9_rumours l G b i x q).big (ws := dR G b ra nR s em i eo es tc n d2 tx rt rn cd su bk co mo m0 m1 kp rg) [0] rfl
  have c10 := c_X10_rumours l G a i j t r n d ps im kp tx cd bk py pt mt x q
  have c9 := c9.toE
  have c10 := c10.toE
  exact two_EE c9 c10 (rfl) (fun _ => rfl) ⟨_, rfl⟩ (fun _ _ => ⟨_, wQ_rf _, LI_1 hA hT hH hI⟩)
set_option maxRecDepth 100000 in
theorem two1_had (hnR : nR = 30) (hA : IvA i tx cd bk s) (hT : IvT t tc nc np) (hH : IvH i t n ps eo rg nc np un od) (hI : Imgs t im kp m0 m1 eo nc np) (p c w : Int32) : Two l yX9_had wsX9_had ({ frames := 5, cells := 0, slots := 0, locals := 116 } : Room) yX10_had wsX10_had ({ frames := 4, cells := 0, slots := 0, locals := 92 } : Room) G a b (LI G a b ra nR) (mW G a i j t r n d ps im kp tx cd bk py pt mt ++ dR G b ra nR s em i eo es tc n d2 tx rt rn cd su bk co mo m0 m1 kp rg) [.int p, .int c, .int w] := by
  obtain ⟨h1, h2, h3⟩ := id hT
  obtain ⟨g1, g2, g3, g4, g5, g6, g7⟩ := id hH
  have k1 := okT_t h1 h2
  have k2 := okS_t h1 g1
  obtain ⟨b1, ⟨cm, b2, b3, b4, b5⟩, ⟨bm, b6, b7, b8⟩, ⟨sz, b9, b10, b11⟩, ⟨sd, b12, b13⟩⟩ := id hA
  have c9 := c_X9_had l G b ra s em i eo es tc n d2 tx rt rn cd su bk co mo m0 m1 kp nc np cm p c w k1 k2 b2 b3 b4 b5
  have c10 := c_X10_had l G a i j t r n d ps im kp tx cd bk py pt mt nc np cm p c w h2.1 b2 b3 b4
  have c9 := (c9.appL (rgW G (b 1) ra rg nR)).eqw dR_dW (fun _ => dR_dW)
  have c10 := c10.toE
  exact two_EE c9 c10 (haR_t h1 h2) (fun _ => dR_f.trans dR_f.symm) ⟨_, rfl⟩ (fun _ _ => ⟨_, wQ_rf _, LI_1 hA hT hH hI⟩)
set_option maxRecDepth 100000 in
theorem two1_lookAt (hnR : nR = 30) (hA : IvA i tx cd bk s) (hT : IvT t tc nc np) (hH : IvH i t n ps eo rg nc np un od) (hI : Imgs t im kp m0 m1 eo nc np) (p c : Int32) : Two l yX9_lookAt wsX9_lookAt ({ frames := 5, cells := 0, slots := 0, locals := 116 } : Room) yX10_lookAt wsX10_lookAt ({ frames := 5, cells := 0, slots := 0, locals := 119 } : Room) G a b (LI G a b ra nR) (mW G a i j t r n d ps im kp tx cd bk py pt mt ++ dR G b ra nR s em i eo es tc n d2 tx rt rn cd su bk co mo m0 m1 kp rg) [.int p, .int c] := by
  obtain ⟨h1, h2, h3⟩ := id hT
  obtain ⟨g1, g2, g3, g4, g5, g6, g7⟩ := id hH
  have k1 := okT_t h1 h2
  have k2 := okS_t h1 g1
  obtain ⟨b1, ⟨cm, b2, b3, b4, b5⟩, ⟨bm, b6, b7, b8⟩, ⟨sz, b9, b10, b11⟩, ⟨sd, b12, b13⟩⟩ := id hA
  have c9 := c_X9_lookAt l G b ra s em i eo es tc n d2 tx rt rn cd su bk co mo m0 m1 kp nc np cm p c k1 k2 b2 b3 b4 b5
  have c10 := c_X10_lookAt l G a i j t r n d ps im kp tx cd bk py pt mt nc np cm p c h2.1 b2 b3 b4
  have c9 := (c9.appL (rgW G (b 1) ra rg nR)).eqw dR_dW (fun _ => dR_dW)
  have c10 := c10.toE
  exact two_EE c9 c10 (loR_t h1 h2) (fun _ => dR_f.trans dR_f.symm) ⟨_, rfl⟩ (fun _ _ => ⟨_, wQ_rf _, LI_1 hA hT hH hI⟩)
set_option maxRecDepth 100000 in
theorem two1_judge (hnR : nR = 30) (hA : IvA i tx cd bk s) (hT : IvT t tc nc np) (hH : IvH i t n ps eo rg nc np un od) (hI : Imgs t im kp m0 m1 eo nc np) : Two l yX9_judge wsX9_judge ({ frames := 5, cells := 0, slots := 0, locals := 111 } : Room) yX10_judge wsX10_judge ({ frames := 3, cells := 0, slots := 0, locals := 70 } : Room) G a b (LI G a b ra nR) (mW G a i j t r n d ps im kp tx cd bk py pt mt ++ dR G b ra nR s em i eo es tc n d2 tx rt rn cd su bk co mo m0 m1 kp rg) [] := by
  obtain ⟨h1, h2, h3⟩ := id hT
  obtain ⟨g1, g2, g3, g4, g5, g6, g7⟩ := id hH
  have k1 := okT_t h1 h2
  have k2 := okS_t h1 g1
  obtain ⟨b1, ⟨cm, b2, b3, b4, b5⟩, ⟨bm, b6, b7, b8⟩, ⟨sz, b9, b10, b11⟩, ⟨sd, b12, b13⟩⟩ := id hA
  have c9 := c_X9_judge l G b ra s em i eo es tc n d2 tx rt rn cd su bk co mo m0 m1 kp nc np bm k1 k2 b6 b7 b8
  have c10 := c_X10_judge l G a i j t r n d ps im kp tx cd bk py pt mt nc np bm h2.1 b6 b7 b8
  have c9 := (c9.dR nR rg).toE
  have c10 := c10.toE
  exact two_EE c9 c10 (juU_t h1 bm 0) (fun _ => rfl) ⟨_, rfl⟩ (fun _ _ => ⟨_, wQ_rf _, LI_1 hA hT hH hI⟩)
set_option maxRecDepth 100000 in
theorem two1_borrow (hnR : nR = 30) (hA : IvA i tx cd bk s) (hT : IvT t tc nc np) (hH : IvH i t n ps eo rg nc np un od) (hI : Imgs t im kp m0 m1 eo nc np) (p c k : Int32) : Two l yX9_borrow wsX9_borrow ({ frames := 4, cells := 0, slots := 0, locals := 86 } : Room) yX10_borrow wsX10_borrow ({ frames := 5, cells := 0, slots := 0, locals := 111 } : Room) G a b (LI G a b ra nR) (mW G a i j t r n d ps im kp tx cd bk py pt mt ++ dR G b ra nR s em i eo es tc n d2 tx rt rn cd su bk co mo m0 m1 kp rg) [.int p, .int c, .int k] := by
  obtain ⟨h1, h2, h3⟩ := id hT
  obtain ⟨g1, g2, g3, g4, g5, g6, g7⟩ := id hH
  have k1 := okT_t h1 h2
  have k2 := okS_t h1 g1
  obtain ⟨b1, ⟨cm, b2, b3, b4, b5⟩, ⟨bm, b6, b7, b8⟩, ⟨sz, b9, b10, b11⟩, ⟨sd, b12, b13⟩⟩ := id hA
  have c9 := c_X9_borrow l G b ra nR s em i eo es tc n d2 tx rt rn cd su bk co mo m0 m1 kp rg nc np un od p c k k1 k2 g2 g3 g4 g5 hnR
  have c10 := c_X10_borrow l G a i j t r n d ps im kp tx cd bk py pt mt nc np un p c k h2.1 g2 g3
  rw [borR_t h1] at c9
  by_cases e : okBor t n p c k
  · have e9 := (okBor_t h1).mpr e
    simp only [if_pos e9] at c9
    simp only [if_pos e] at c10
    exact two_EE c9.toE c10.toE rfl (fun _ => dR_f.trans dR_f.symm) ⟨_, rfl⟩ (fun _ _ => ⟨_, wQ_rf _, LI_1 (IvA_5 hA _) hT (IvH_note h2 hH (okS_bor h2 g1 e)) (Imgs_eo hI _)⟩)
  · have e9 := fun q => e ((okBor_t h1).mp q)
    simp only [if_neg e9] at c9
    simp only [if_neg e] at c10
    exact two_EE c9.toE c10.toE rfl (fun _ => rfl) ⟨_, rfl⟩ (fun _ _ => ⟨_, wQ_rf _, LI_1 hA hT hH hI⟩)
set_option maxRecDepth 100000 in
theorem two1_pay (hnR : nR = 30) (hA : IvA i tx cd bk s) (hT : IvT t tc nc np) (hH : IvH i t n ps eo rg nc np un od) (hI : Imgs t im kp m0 m1 eo nc np) (p c k : Int32) : Two l yX9_pay wsX9_pay ({ frames := 3, cells := 0, slots := 0, locals := 68 } : Room) yX10_pay wsX10_pay ({ frames := 2, cells := 0, slots := 0, locals := 46 } : Room) G a b (LI G a b ra nR) (mW G a i j t r n d ps im kp tx cd bk py pt mt ++ dR G b ra nR s em i eo es tc n d2 tx rt rn cd su bk co mo m0 m1 kp rg) [.int p, .int c, .int k] := by
  obtain ⟨h1, h2, h3⟩ := id hT
  obtain ⟨g1, g2, g3, g4, g5, g6, g7⟩ := id hH
  have k1 := okT_t h1 h2
  have k2 := okS_t h1 g1
  obtain ⟨b1, ⟨cm, b2, b3, b4, b5⟩, ⟨bm, b6, b7, b8⟩, ⟨sz, b9, b10, b11⟩, ⟨sd, b12, b13⟩⟩ := id hA
  have c9 := c_X9_pay l G b ra nR s em i eo es tc n d2 tx rt rn cd su bk co mo m0 m1 kp rg nc np un od p c k k1 k2 g2 g3 g4 g5 hnR
  have c10 := c_X10_pay l G a i j t r n d ps im kp tx cd bk py pt mt nc np un p c k h2.1 g2 g3
  rw [payR_t h1] at c9
  by_cases e : okPay t n p c k
  · have e9 := (okPay_t h1).mpr e
    simp only [if_pos e9] at c9
    simp only [if_pos e] at c10
    rw [payF_t h1] at c9
    exact two_EE c9.toE c10.toE rfl (fun _ => dR_f.trans dR_f.symm) ⟨_, rfl⟩ (fun _ _ => ⟨_, wQ_rf _, LI_1 (IvA_5 hA _) hT (IvH_note h2 hH (okS_pay h2 g1 e)) (Imgs_eo hI _)⟩)
  · have e9 := fun q => e ((okPay_t h1).mp q)
    simp only [if_neg e9] at c9
    simp only [if_neg e] at c10
    exact two_EE c9.toE c10.toE rfl (fun _ => rfl) ⟨_, rfl⟩ (fun _ _ => ⟨_, wQ_rf _, LI_1 hA hT hH hI⟩)
set_option maxRecDepth 100000 in
theorem two1_wed (hnR : nR = 30) (hA : IvA i tx cd bk s) (hT : IvT t tc nc np) (hH : IvH i t n ps eo rg nc np un od) (hI : Imgs t im kp m0 m1 eo nc np) (g m : Int32) : Two l yX9_wed wsX9_wed ({ frames := 4, cells := 0, slots := 0, locals := 89 } : Room) yX10_wed wsX10_wed ({ frames := 3, cells := 0, slots := 0, locals := 70 } : Room) G a b (LI G a b ra nR) (mW G a i j t r n d ps im kp tx cd bk py pt mt ++ dR G b ra nR s em i eo es tc n d2 tx rt rn cd su bk co mo m0 m1 kp rg) [.int g, .int m] := by
  obtain ⟨h1, h2, h3⟩ := id hT
  obtain ⟨g1, g2, g3, g4, g5, g6, g7⟩ := id hH
  have k1 := okT_t h1 h2
  have k2 := okS_t h1 g1
  obtain ⟨b1, ⟨cm, b2, b3, b4, b5⟩, ⟨bm, b6, b7, b8⟩, ⟨sz, b9, b10, b11⟩, ⟨sd, b12, b13⟩⟩ := id hA
  have c9 := c_X9_wed l G b ra nR s em i eo es tc n d2 tx rt rn cd su bk co mo m0 m1 kp rg nc np un od g m k1 k2 g2 g3 g4 g5 hnR
  have c10 := c_X10_wed l G a i j t r n d ps im kp tx cd bk py pt mt nc np un g m h2.1 g2 g3
  rw [weR_t h1] at c9
  by_cases e : (isG t g ∧ isM t m ∧ n (44 + cl g) = -1 ∧ n (44 + cl m) = -1)
  · have e9 := (okW_t h1).mpr e
    simp only [if_pos e9] at c9
    simp only [if_pos e] at c10
    exact two_EE c9.toE c10.toE rfl (fun _ => dR_f.trans dR_f.symm) ⟨_, rfl⟩ (fun _ _ => ⟨_, wQ_rf _, LI_1 (IvA_5 hA _) hT (IvH_note h2 hH (okS_wed h2 g1 e)) (Imgs_eo hI _)⟩)
  · have e9 := fun q => e ((okW_t h1).mp q)
    simp only [if_neg e9] at c9
    simp only [if_neg e] at c10
    exact two_EE c9.toE c10.toE rfl (fun _ => rfl) ⟨_, rfl⟩ (fun _ _ => ⟨_, wQ_rf _, LI_1 hA hT hH hI⟩)
set_option maxRecDepth 100000 in
theorem two1_divorce (hnR : nR = 30) (hA : IvA i tx cd bk s) (hT : IvT t tc nc np) (hH : IvH i t n ps eo rg nc np un od) (hI : Imgs t im kp m0 m1 eo nc np) (g : Int32) : Two l yX9_divorce wsX9_divorce ({ frames := 3, cells := 0, slots := 0, locals := 68 } : Room) yX10_divorce wsX10_divorce ({ frames := 3, cells := 0, slots := 0, locals := 67 } : Room) G a b (LI G a b ra nR) (mW G a i j t r n d ps im kp tx cd bk py pt mt ++ dR G b ra nR s em i eo es tc n d2 tx rt rn cd su bk co mo m0 m1 kp rg) [.int g] := by
  obtain ⟨h1, h2, h3⟩ := id hT
  obtain ⟨g1, g2, g3, g4, g5, g6, g7⟩ := id hH
  have k1 := okT_t h1 h2
  have k2 := okS_t h1 g1
  obtain ⟨b1, ⟨cm, b2, b3, b4, b5⟩, ⟨bm, b6, b7, b8⟩, ⟨sz, b9, b10, b11⟩, ⟨sd, b12, b13⟩⟩ := id hA
  have c9 := c_X9_divorce l G b ra nR s em i eo es tc n d2 tx rt rn cd su bk co mo m0 m1 kp rg nc np un od g k1 k2 g2 g3 g4 g5 hnR
  have c10 := c_X10_divorce l G a i j t r n d ps im kp tx cd bk py pt mt nc np un g h2.1 g2 g3 (okS_mate h2 g1 h3)
  rw [dvR_t h1] at c9
  by_cases e : (isG t g ∧ ¬ n (44 + cl g) = -1)
  · have e9 := (and_congr (isG_t h1 g) Iff.rfl).mpr e
    simp only [if_pos e9] at c9
    simp only [if_pos e] at c10
    exact two_EE c9.toE c10.toE rfl (fun _ => dR_f.trans dR_f.symm) ⟨_, rfl⟩ (fun _ _ => ⟨_, wQ_rf _, LI_1 (IvA_5 hA _) hT (IvH_note h2 hH (okS_div h2 g1 e)) (Imgs_eo hI _)⟩)
  · have e9 := fun q => e ((and_congr (isG_t h1 g) Iff.rfl).mp q)
    simp only [if_neg e9] at c9
    simp only [if_neg e] at c10
    exact two_EE c9.toE c10.toE rfl (fun _ => rfl) ⟨_, rfl⟩ (fun _ _ => ⟨_, wQ_rf _, LI_1 hA hT hH hI⟩)
set_option maxRecDepth 100000 in
theorem two1_quarter (hnR : nR = 30) (hA : IvA i tx cd bk s) (hT : IvT t tc nc np) (hH : IvH i t n ps eo rg nc np un od) (hI : Imgs t im kp m0 m1 eo nc np) (x : Int32) : Two l yX9_quarter wsX9_quarter ({ frames := 5, cells := 0, slots := 0, locals := 111 } : Room) yX10_quarter wsX10_quarter ({ frames := 4, cells := 0, slots := 0, locals := 92 } : Room) G a b (LI G a b ra nR) (mW G a i j t r n d ps im kp tx cd bk py pt mt ++ dR G b ra nR s em i eo es tc n d2 tx rt rn cd su bk co mo m0 m1 kp rg) [.int x] := by
  obtain ⟨h1, h2, h3⟩ := id hT
  obtain ⟨g1, g2, g3, g4, g5, g6, g7⟩ := id hH
  have k1 := okT_t h1 h2
  have k2 := okS_t h1 g1
  obtain ⟨b1, ⟨cm, b2, b3, b4, b5⟩, ⟨bm, b6, b7, b8⟩, ⟨sz, b9, b10, b11⟩, ⟨sd, b12, b13⟩⟩ := id hA
  have c9 := c_X9_quarter l G b ra nR s em i eo es tc n d2 tx rt rn cd su bk co mo m0 m1 kp rg nc np un od x k1 k2 g2 g3 g4 g5 hnR
  have c10 := c_X10_quarter l G a i j t r n d ps im kp tx cd bk py pt mt nc np un x h2.1 g2 g3 g1.2.2.2.1
  rw [quR_t h1] at c9
  by_cases e : rfR t n x = 0
  · have e9 := ((show rfR tc n x = 0 ↔ rfR t n x = 0 by rw [rfR_t h1])).mpr e
    simp only [if_pos e9] at c9
    simp only [if_pos e] at c10
    rw [nQ_t h1] at c9
    exact two_EE c9.toE c10.toE rfl (fun _ => dR_f.trans dR_f.symm) ⟨_, rfl⟩ (fun _ _ => ⟨_, wQ_rf _, LI_1 (IvA_5 hA _) hT (IvH_quarter hT hH _) (Imgs_eo hI _)⟩)
  · have e9 := fun q => e (((show rfR tc n x = 0 ↔ rfR t n x = 0 by rw [rfR_t h1])).mp q)
    simp only [if_neg e9] at c9
    simp only [if_neg e] at c10
    exact two_EE c9.toE c10.toE rfl (fun _ => rfl) ⟨_, rfl⟩ (fun _ _ => ⟨_, wQ_rf _, LI_1 hA hT hH hI⟩)
set_option maxRecDepth 100000 in
theorem two1_drift (hnR : nR = 30) (hA : IvA i tx cd bk s) (hT : IvT t tc nc np) (hH : IvH i t n ps eo rg nc np un od) (hI : Imgs t im kp m0 m1 eo nc np) (x : Int32) : Two l yX9_drift wsX9_drift ({ frames := 5, cells := 0, slots := 0, locals := 111 } : Room) yX10_drift wsX10_drift ({ frames := 5, cells := 0, slots := 0, locals := 111 } : Room) G a b (LI G a b ra nR) (mW G a i j t r n d ps im kp tx cd bk py pt mt ++ dR G b ra nR s em i eo es tc n d2 tx rt rn cd su bk co mo m0 m1 kp rg) [.int x] := by
  obtain ⟨h1, h2, h3⟩ := id hT
  obtain ⟨g1, g2, g3, g4, g5, g6, g7⟩ := id hH
  have k1 := okT_t h1 h2
  have k2 := okS_t h1 g1
  obtain ⟨b1, ⟨cm, b2, b3, b4, b5⟩, ⟨bm, b6, b7, b8⟩, ⟨sz, b9, b10, b11⟩, ⟨sd, b12, b13⟩⟩ := id hA
  have c9 := c_X9_drift l G b ra nR s em i eo es tc n d2 tx rt rn cd su bk co mo m0 m1 kp rg nc np un od sd x k1 k2 g2 g3 g4 g5 hnR b12 b13
  have c10 := c_X10_drift l G a i j t r n d ps im kp tx cd bk py pt mt nc np un sd x h2.1 g2 g3 b12 b13 h2.2.2.1
  rw [drR_t h1] at c9
  by_cases e : rfR t n x = 0
  · have e9 := ((show rfR tc n x = 0 ↔ rfR t n x = 0 by rw [rfR_t h1])).mpr e
    simp only [if_pos e9] at c9
    simp only [if_pos e] at c10
    rw [nD_t h1] at c9
    exact two_EE c9.toE c10.toE rfl (fun _ => dR_f.trans dR_f.symm) ⟨_, rfl⟩ (fun _ _ => ⟨_, wQ_rf _, LI_1 (IvA_8 (IvA_5 hA _) ⟨_, rfl, sD_lt b13 _⟩) hT (IvH_drift hT hH _) (Imgs_eo hI _)⟩)
  · have e9 := fun q => e (((show rfR tc n x = 0 ↔ rfR t n x = 0 by rw [rfR_t h1])).mp q)
    simp only [if_neg e9] at c9
    simp only [if_neg e] at c10
    exact two_EE c9.toE c10.toE rfl (fun _ => rfl) ⟨_, rfl⟩ (fun _ _ => ⟨_, wQ_rf _, LI_1 hA hT hH hI⟩)
set_option maxRecDepth 100000 in
theorem two1_undo (hnR : nR = 30) (hA : IvA i tx cd bk s) (hT : IvT t tc nc np) (hH : IvH i t n ps eo rg nc np un od) (hI : Imgs t im kp m0 m1 eo nc np) (x : Int32) : Two l yX9_undo wsX9_undo ({ frames := 3, cells := 0, slots := 0, locals := 64 } : Room) yX10_undo wsX10_undo ({ frames := 1, cells := 0, slots := 0, locals := 25 } : Room) G a b (LI G a b ra nR) (mW G a i j t r n d ps im kp tx cd bk py pt mt ++ dR G b ra nR s em i eo es tc n d2 tx rt rn cd su bk co mo m0 m1 kp rg) [.int x] := by
  obtain ⟨h1, h2, h3⟩ := id hT
  obtain ⟨g1, g2, g3, g4, g5, g6, g7⟩ := id hH
  have k1 := okT_t h1 h2
  have k2 := okS_t h1 g1
  obtain ⟨b1, ⟨cm, b2, b3, b4, b5⟩, ⟨bm, b6, b7, b8⟩, ⟨sz, b9, b10, b11⟩, ⟨sd, b12, b13⟩⟩ := id hA
  have c9 := c_X9_undo l G b ra nR s em i eo es tc n d2 tx rt rn cd su bk co mo m0 m1 kp rg un od ps x g2 g3 g4 g5 hnR g6
  have c10 := c_X10_undo l G a i j t r n d ps im kp tx cd bk py pt mt un x g2 g3
  by_cases e : okUn un x
  · simp only [if_pos e] at c9 c10
    exact two_EE c9.toE c10.toE rfl (fun _ => dR_f.trans dR_f.symm) ⟨_, rfl⟩ (fun _ _ => ⟨_, wQ_rf _, LI_1 (IvA_5 hA _) hT (IvH_undo hT hH e) hI⟩)
  · simp only [if_neg e] at c9 c10
    exact two_EE c9.toE c10.toE rfl (fun _ => rfl) ⟨_, rfl⟩ (fun _ _ => ⟨_, wQ_rf _, LI_1 hA hT hH hI⟩)
set_option maxRecDepth 100000 in
theorem two1_feed (hnR : nR = 30) (hA : IvA i tx cd bk s) (hT : IvT t tc nc np) (hH : IvH i t n ps eo rg nc np un od) (hI : Imgs t im kp m0 m1 eo nc np) (x : Int32) : Two l yX9_feed wsX9_feed ({ frames := 1, cells := 0, slots := 0, locals := 21 } : Room) yX10_feed wsX10_feed ({ frames := 1, cells := 0, slots := 0, locals := 25 } : Room) G a b (LI G a b ra nR) (mW G a i j t r n d ps im kp tx cd bk py pt mt ++ dR G b ra nR s em i eo es tc n d2 tx rt rn cd su bk co mo m0 m1 kp rg) [.int x] := by
  obtain ⟨h1, h2, h3⟩ := id hT
  obtain ⟨g1, g2, g3, g4, g5, g6, g7⟩ := id hH
  have k1 := okT_t h1 h2
  have k2 := okS_t h1 g1
  obtain ⟨b1, ⟨cm, b2, b3, b4, b5⟩, ⟨bm, b6, b7, b8⟩, ⟨sz, b9, b10, b11⟩, ⟨sd, b12, b13⟩⟩ := id hA
  have c9 := (c_X9_feed l G b ra s em i eo es tc n d2 tx rt rn cd su bk co mo m0 m1 kp sz x b9 b10).dR nR rg
  have c10 := c_X10_feed l G a i j t r n d ps im kp tx cd bk py pt mt sz x b9 b10
  by_cases e : okFd sz x
  · simp only [if_pos e] at c9 c10
    exact two_EE c9.toE c10.toE rfl (fun _ => dR_f.trans dR_f.symm) ⟨_, rfl⟩ (fun _ _ => ⟨_, wQ_rf _, LI_1 (IvA_feed hA b10 b11 e) hT (IvH_c hH (upd_ne (by decide))) hI⟩)
  · simp only [if_neg e] at c9 c10
    exact two_EE c9.toE c10.toE rfl (fun _ => rfl) ⟨_, rfl⟩ (fun _ _ => ⟨_, wQ_rf _, LI_1 hA hT hH hI⟩)
set_option maxRecDepth 100000 in
theorem two1_tear (hnR : nR = 30) (hA : IvA i tx cd bk s) (hT : IvT t tc nc np) (hH : IvH i t n ps eo rg nc np un od) (hI : Imgs t im kp m0 m1 eo nc np) : Two l yX9_tear wsX9_tear ({ frames := 0, cells := 0, slots := 0, locals := 0 } : Room) yX10_tear wsX10_tear ({ frames := 0, cells := 0, slots := 0, locals := 0 } : Room) G a b (LI G a b ra nR) (mW G a i j t r n d ps im kp tx cd bk py pt mt ++ dR G b ra nR s em i eo es tc n d2 tx rt rn cd su bk co mo m0 m1 kp rg) [] := by
  obtain ⟨h1, h2, h3⟩ := id hT
  obtain ⟨g1, g2, g3, g4, g5, g6, g7⟩ := id hH
  have k1 := okT_t h1 h2
  have k2 := okS_t h1 g1
  obtain ⟨b1, ⟨cm, b2, b3, b4, b5⟩, ⟨bm, b6, b7, b8⟩, ⟨sz, b9, b10, b11⟩, ⟨sd, b12, b13⟩⟩ := id hA
  have c9 := (c_X9_tear l G b ra s em i eo es tc n d2 tx rt rn cd su bk co mo m0 m1 kp ).dR nR rg
  have c10 := c_X10_tear l G a i j t r n d ps im kp tx cd bk py pt mt 
  exact two_EE c9.toE c10.toE rfl (fun _ => dR_f.trans dR_f.symm) ⟨_, rfl⟩ (fun _ _ => ⟨_, wQ_rf _, LI_1 (IvA_tear hA) hT (IvH_c hH ((upd_ne (by decide)).trans (upd_ne (by decide)))) hI⟩)
set_option maxRecDepth 100000 in
theorem two1_seed (hnR : nR = 30) (hA : IvA i tx cd bk s) (hT : IvT t tc nc np) (hH : IvH i t n ps eo rg nc np un od) (hI : Imgs t im kp m0 m1 eo nc np) (x : Int32) : Two l yX9_seed wsX9_seed ({ frames := 0, cells := 0, slots := 0, locals := 0 } : Room) yX10_seed wsX10_seed ({ frames := 0, cells := 0, slots := 0, locals := 0 } : Room) G a b (LI G a b ra nR) (mW G a i j t r n d ps im kp tx cd bk py pt mt ++ dR G b ra nR s em i eo es tc n d2 tx rt rn cd su bk co mo m0 m1 kp rg) [.int x] := by
  obtain ⟨h1, h2, h3⟩ := id hT
  obtain ⟨g1, g2, g3, g4, g5, g6, g7⟩ := id hH
  have k1 := okT_t h1 h2
  have k2 := okS_t h1 g1
  obtain ⟨b1, ⟨cm, b2, b3, b4, b5⟩, ⟨bm, b6, b7, b8⟩, ⟨sz, b9, b10, b11⟩, ⟨sd, b12, b13⟩⟩ := id hA
  by_cases e : x < 0
  · have e2 : ¬ ¬ x < 0 := not_not_intro e
    have c9 := c_X9_seed l G b i x
    have c10 := c_X10_seed l G a i j t r n d ps im kp tx cd bk py pt mt x
    simp only [if_neg e2] at c9 c10
    have c9 := c9.big (ws := dR G b ra nR s em i eo es tc n d2 tx rt rn cd su bk co mo m0 m1 kp rg) (wsn := dR G b ra nR s em i eo es tc n d2 tx rt rn cd su bk co mo m0 m1 kp rg) [0] (by decide) rfl rfl rfl
    exact two_EE c9.toE c10.toE rfl (fun _ => rfl) ⟨_, rfl⟩ (fun _ _ => ⟨_, wQ_rf _, LI_1 hA hT hH hI⟩)
  · have c9 := c_X9_seed l G b i x
    have c10 := c_X10_seed l G a i j t r n d ps im kp tx cd bk py pt mt x
    simp only [if_pos e] at c9 c10
    have c9 := c9.big (ws := dR G b ra nR s em i eo es tc n d2 tx rt rn cd su bk co mo m0 m1 kp rg) (wsn := dR G b ra nR s em (upd i 8 x) eo es tc n d2 tx rt rn cd su bk co mo m0 m1 kp rg) [0] (by decide) rfl rfl rfl
    exact two_EE c9.toE c10.toE rfl (fun _ => dR_f.trans dR_f.symm) ⟨_, rfl⟩ (fun _ _ => ⟨_, wQ_rf _, LI_1 (IvA_8 hA (isSd_i e)) hT (IvH_c hH (upd_ne (by decide))) hI⟩)
set_option maxRecDepth 100000 in
theorem two1_write (hnR : nR = 30) (hA : IvA i tx cd bk s) (hT : IvT t tc nc np) (hH : IvH i t n ps eo rg nc np un od) (hI : Imgs t im kp m0 m1 eo nc np) (p x : Int32) : Two l yX9_write wsX9_write ({ frames := 1, cells := 0, slots := 0, locals := 22 } : Room) yX10_write wsX10_write ({ frames := 2, cells := 0, slots := 0, locals := 46 } : Room) G a b (LI G a b ra nR) (mW G a i j t r n d ps im kp tx cd bk py pt mt ++ dR G b ra nR s em i eo es tc n d2 tx rt rn cd su bk co mo m0 m1 kp rg) [.int p, .int x] := by
  obtain ⟨h1, h2, h3⟩ := id hT
  obtain ⟨g1, g2, g3, g4, g5, g6, g7⟩ := id hH
  have k1 := okT_t h1 h2
  have k2 := okS_t h1 g1
  obtain ⟨b1, ⟨cm, b2, b3, b4, b5⟩, ⟨bm, b6, b7, b8⟩, ⟨sz, b9, b10, b11⟩, ⟨sd, b12, b13⟩⟩ := id hA
  have c9 := (c_X9_write l G b ra s em i eo es tc n d2 tx rt rn cd su bk co mo m0 m1 kp nc np bm p x k1 k2 b6 b7).dR nR rg
  have c10 := c_X10_write l G a i j t r n d ps im kp tx cd bk py pt mt nc np bm p x h2.1 b6 b7
  rw [wrR_t h1] at c9
  by_cases e : okWr t bm p x
  · have e9 := (okWr_t h1).mpr e
    simp only [if_pos e9] at c9
    simp only [if_pos e] at c10
    exact two_EE c9.toE c10.toE rfl (fun _ => dR_f.trans dR_f.symm) ⟨_, rfl⟩ (fun _ _ => ⟨_, wQ_rf _, LI_1 (IvA_write hA h2 b7 b8 e) hT (IvH_c hH (upd_ne (by decide))) hI⟩)
  · have e9 := fun q => e ((okWr_t h1).mp q)
    simp only [if_neg e9] at c9
    simp only [if_neg e] at c10
    exact two_EE c9.toE c10.toE rfl (fun _ => rfl) ⟨_, rfl⟩ (fun _ _ => ⟨_, wQ_rf _, LI_1 hA hT hH hI⟩)
set_option maxRecDepth 100000 in
theorem two1_keep (hnR : nR = 30) (hA : IvA i tx cd bk s) (hT : IvT t tc nc np) (hH : IvH i t n ps eo rg nc np un od) (hI : Imgs t im kp m0 m1 eo nc np) (x : Int32) : Two l yX9_keep wsX9_keep ({ frames := 2, cells := 0, slots := 0, locals := 42 } : Room) yX10_keep wsX10_keep ({ frames := 1, cells := 0, slots := 0, locals := 25 } : Room) G a b (LI G a b ra nR) (mW G a i j t r n d ps im kp tx cd bk py pt mt ++ dR G b ra nR s em i eo es tc n d2 tx rt rn cd su bk co mo m0 m1 kp rg) [.int x] := by
  obtain ⟨h1, h2, h3⟩ := id hT
  obtain ⟨g1, g2, g3, g4, g5, g6, g7⟩ := id hH
  have k1 := okT_t h1 h2
  have k2 := okS_t h1 g1
  obtain ⟨b1, ⟨cm, b2, b3, b4, b5⟩, ⟨bm, b6, b7, b8⟩, ⟨sz, b9, b10, b11⟩, ⟨sd, b12, b13⟩⟩ := id hA
  have c9 := (c_X9_keep l G b ra s em i eo es tc n d2 tx rt rn cd su bk co mo m0 m1 kp x).dR nR rg
  have c10 := c_X10_keep l G a i j t r n d ps im kp tx cd bk py pt mt x
  by_cases e0 : x = 0
  · subst e0
    simp only [if_pos (show inB (0 : Int32) 0 1 from by decide), if_pos (show (0 : Int32) = 0 from rfl), if_true, if_neg (show ¬ (0 : Int32) = 1 from by decide), cl_0] at c9 c10
    exact two_EE c9.toE c10.toE rfl (fun _ => dR_f.trans dR_f.symm) ⟨_, rfl⟩ (fun _ _ => ⟨_, wQ_rf _, LI_1 (IvA_5 hA _) hT (IvH_keep hH (upd_ne (by decide))) (Imgs_k0 hA hH hI)⟩)
  by_cases e1 : x = 1
  · subst e1
    simp only [if_pos (show inB (1 : Int32) 0 1 from by decide), if_pos (show (1 : Int32) = 1 from rfl), if_true, if_neg (show ¬ (1 : Int32) = 0 from by decide), cl_1] at c9 c10
    exact two_EE c9.toE c10.toE rfl (fun _ => dR_f.trans dR_f.symm) ⟨_, rfl⟩ (fun _ _ => ⟨_, wQ_rf _, LI_1 (IvA_5 hA _) hT (IvH_keep hH (upd_ne (by decide))) (Imgs_k1 hA hH hI)⟩)
  · have e : ¬ inB x 0 1 := no01 e0 e1
    simp only [if_neg e, if_neg e0, if_neg e1] at c9 c10
    exact two_EE c9.toE c10.toE rfl (fun _ => rfl) ⟨_, rfl⟩ (fun _ _ => ⟨_, wQ_rf _, LI_1 hA hT hH hI⟩)
set_option maxRecDepth 100000 in
theorem two1_goBack (hnR : nR = 30) (hA : IvA i tx cd bk s) (hT : IvT t tc nc np) (hH : IvH i t n ps eo rg nc np un od) (hI : Imgs t im kp m0 m1 eo nc np) (x : Int32) : Two l yX9_goBack wsX9_goBack ({ frames := 2, cells := 0, slots := 0, locals := 42 } : Room) yX10_goBack wsX10_goBack ({ frames := 1, cells := 0, slots := 0, locals := 25 } : Room) G a b (LI G a b ra nR) (mW G a i j t r n d ps im kp tx cd bk py pt mt ++ dR G b ra nR s em i eo es tc n d2 tx rt rn cd su bk co mo m0 m1 kp rg) [.int x] := by
  obtain ⟨h1, h2, h3⟩ := id hT
  obtain ⟨g1, g2, g3, g4, g5, g6, g7⟩ := id hH
  have k1 := okT_t h1 h2
  have k2 := okS_t h1 g1
  obtain ⟨b1, ⟨cm, b2, b3, b4, b5⟩, ⟨bm, b6, b7, b8⟩, ⟨sz, b9, b10, b11⟩, ⟨sd, b12, b13⟩⟩ := id hA
  have c9 := (c_X9_goBack l G b ra s em i eo es tc n d2 tx rt rn cd su bk co mo m0 m1 kp x).dR nR rg
  have c10 := c_X10_goBack l G a i j t r n d ps im kp tx cd bk py pt mt x
  by_cases e : okGb kp x
  · by_cases e0 : x = 0
    · subst e0
      simp only [if_pos e, if_pos (show (0 : Int32) = 0 from rfl), if_true] at c9
      simp only [if_pos e] at c10
      rw [cl_0] at c10
      obtain ⟨q1, q2, q3, q4⟩ := hI.1.resolve_left e.2
      rw [q3] at c9
      exact two_EE c9.toE c10.toE rfl (fun _ => dR_f.trans dR_f.symm) ⟨_, rfl⟩ (fun _ _ => ⟨_, wQ_app (wQ_rf _) (dR_n (gb_eq0 q1)), LI_1 (IvA_5 (IvA_8 hA q4) _) hT (IvH_gb hH (okS_c h2.1.2.2.2 (gb_eq0 q1) q2)) hI⟩)
    · have e1 : x = 1 := is1 e.1 e0
      subst e1
      simp only [if_pos e, if_neg e0] at c9
      simp only [if_pos e] at c10
      rw [cl_1] at c10
      obtain ⟨q1, q2, q3, q4⟩ := hI.2.resolve_left e.2
      rw [q3] at c9
      exact two_EE c9.toE c10.toE rfl (fun _ => dR_f.trans dR_f.symm) ⟨_, rfl⟩ (fun _ _ => ⟨_, wQ_app (wQ_rf _) (dR_n (gb_eq1 q1)), LI_1 (IvA_5 (IvA_8 hA q4) _) hT (IvH_gb hH (okS_c h2.1.2.2.2 (gb_eq1 q1) q2)) hI⟩)
  · simp only [if_neg e] at c9 c10
    exact two_EE c9.toE c10.toE rfl (fun _ => rfl) ⟨_, rfl⟩ (fun _ _ => ⟨_, wQ_rf _, LI_1 hA hT hH hI⟩)
set_option maxRecDepth 100000 in
theorem two1_card (hnR : nR = 30) (hA : IvA i tx cd bk s) (hT : IvT t tc nc np) (hH : IvH i t n ps eo rg nc np un od) (hI : Imgs t im kp m0 m1 eo nc np) (p c q : Int32) (v : Prop) [Decidable v] : Two l yX9_card wsX9_card ({ frames := 2, cells := 0, slots := 0, locals := 43 } : Room) yX10_card wsX10_card ({ frames := 2, cells := 0, slots := 0, locals := 46 } : Room) G a b (LI G a b ra nR) (mW G a i j t r n d ps im kp tx cd bk py pt mt ++ dR G b ra nR s em i eo es tc n d2 tx rt rn cd su bk co mo m0 m1 kp rg) [.int p, .int c, .int q, .int (bI v)] := by
  obtain ⟨h1, h2, h3⟩ := id hT
  obtain ⟨g1, g2, g3, g4, g5, g6, g7⟩ := id hH
  have k1 := okT_t h1 h2
  have k2 := okS_t h1 g1
  obtain ⟨b1, ⟨cm, b2, b3, b4, b5⟩, ⟨bm, b6, b7, b8⟩, ⟨sz, b9, b10, b11⟩, ⟨sd, b12, b13⟩⟩ := id hA
  have c9 := (c_X9_card l G b ra s em i eo es tc n d2 tx rt rn cd su bk co mo m0 m1 kp nc np cm p c q v k1 k2 b2 b3).dR nR rg
  have c10 := c_X10_card l G a i j t r n d ps im kp tx cd bk py pt mt nc np cm p c q v h2.1 b2 b3
  rw [caR_t h1] at c9
  by_cases e : okCd t cm p c q
  · have e9 := (okCd_t h1).mpr e
    simp only [if_pos e9] at c9
    simp only [if_pos e] at c10
    exact two_EE c9.toE c10.toE rfl (fun _ => dR_f.trans dR_f.symm) ⟨_, rfl⟩ (fun _ _ => ⟨_, wQ_rf _, LI_1 (IvA_card hA b3 b4 b5 e) hT (IvH_c hH (upd_ne (by decide))) hI⟩)
  · have e9 := fun q => e ((okCd_t h1).mp q)
    simp only [if_neg e9] at c9
    simp only [if_neg e] at c10
    exact two_EE c9.toE c10.toE rfl (fun _ => rfl) ⟨_, rfl⟩ (fun _ _ => ⟨_, wQ_rf _, LI_1 hA hT hH hI⟩)
end L1
