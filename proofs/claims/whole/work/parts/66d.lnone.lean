section L0
variable {l : Launch} {G : gG} {a b : Nat → Nat} {ra : Nat → Nat → Nat} {nR : Nat} {i j t r n d ps im kp tx cd bk py pt mt eo es tc nk d2 rt rn su co mo m0 m1 : Nat → Int32} {s : RSt} {em : Int32} {rg : Nat → Nat → Int32} {nc np un od : Nat}
set_option maxRecDepth 100000 in
theorem two0_fault (hnR : nR = 30) (hA : IvA i tx cd bk s) (hZ : IvZ i t tc eo) (hN : zR t n) (hK : zC t nk) (hI : Imgz t im kp m0 m1 eo) : Two l yX9_fault wsX9_fault ({ frames := 0, cells := 0, slots := 0, locals := 0 } : Room) yX10_fault wsX10_fault ({ frames := 0, cells := 0, slots := 0, locals := 0 } : Room) G a b (LI G a b ra nR) (mW G a i j t r n d ps im kp tx cd bk py pt mt ++ dR G b ra nR s em i eo es tc nk d2 tx rt rn cd su bk co mo m0 m1 kp rg) [] := by
  obtain ⟨h1, h2, h3, h4, ⟨od, h5, h6⟩, h7⟩ := id hZ
  have k1 := okT_t h1 h2
  have k2 := okS_t h1 hK.1
  have z1 : nob t := ⟨h3, h2.1.1, h2.1.2.1⟩
  have z2 : nob tc := ⟨(h1.1 0 (by omega)).trans h3, k1.1.1, k1.1.2.1⟩
  obtain ⟨b1, ⟨cm, b2, b3, b4, b5⟩, ⟨bm, b6, b7, b8⟩, ⟨sz, b9, b10, b11⟩, ⟨sd, b12, b13⟩⟩ := id hA
  have c9 := c_X9_fault l G b ra s em i eo es tc nk d2 tx rt rn cd su bk co mo m0 m1 kp 
  have c10 := c_X10_fault l G a i j t r n d ps im kp tx cd bk py pt mt 
  have c9 := (c9.dR nR rg).toE
  have c10 := c10.toE
  exact two_EE c9 c10 (b1) (fun _ => rfl) ⟨_, rfl⟩ (fun _ _ => ⟨_, wQ_rf _, LI_0 hA hZ hN hK hI⟩)
set_option maxRecDepth 100000 in
theorem two0_told (hnR : nR = 30) (hA : IvA i tx cd bk s) (hZ : IvZ i t tc eo) (hN : zR t n) (hK : zC t nk) (hI : Imgz t im kp m0 m1 eo) (x : Int32) : Two l yX9_told wsX9_told ({ frames := 3, cells := 0, slots := 0, locals := 67 } : Room) yX10_told wsX10_told ({ frames := 2, cells := 0, slots := 0, locals := 46 } : Room) G a b (LI G a b ra nR) (mW G a i j t r n d ps im kp tx cd bk py pt mt ++ dR G b ra nR s em i eo es tc nk d2 tx rt rn cd su bk co mo m0 m1 kp rg) [.int x] := by
  obtain ⟨h1, h2, h3, h4, ⟨od, h5, h6⟩, h7⟩ := id hZ
  have k1 := okT_t h1 h2
  have k2 := okS_t h1 hK.1
  have z1 : nob t := ⟨h3, h2.1.1, h2.1.2.1⟩
  have z2 : nob tc := ⟨(h1.1 0 (by omega)).trans h3, k1.1.1, k1.1.2.1⟩
  obtain ⟨b1, ⟨cm, b2, b3, b4, b5⟩, ⟨bm, b6, b7, b8⟩, ⟨sz, b9, b10, b11⟩, ⟨sd, b12, b13⟩⟩ := id hA
  have c9 := c_X9_told l G b ra s em i eo es tc nk d2 tx rt rn cd su bk co mo m0 m1 kp 0 0 x k1 k2
  have c10 := c_X10_told l G a i j t r n d ps im kp tx cd bk py pt mt x
  have c9 := (c9.dR nR rg).toE
  have c10 := c10.toE
  exact two_EE c9 c10 (told0 h1 hK hN) (fun _ => rfl) ⟨_, rfl⟩ (fun _ _ => ⟨_, wQ_rf _, LI_0 hA hZ hN hK hI⟩)
set_option maxRecDepth 100000 in
theorem two0_creditor (hnR : nR = 30) (hA : IvA i tx cd bk s) (hZ : IvZ i t tc eo) (hN : zR t n) (hK : zC t nk) (hI : Imgz t im kp m0 m1 eo) (c x : Int32) : Two l yX9_creditor wsX9_creditor ({ frames := 4, cells := 0, slots := 0, locals := 90 } : Room) yX10_creditor wsX10_creditor ({ frames := 3, cells := 0, slots := 0, locals := 69 } : Room) G a b (LI G a b ra nR) (mW G a i j t r n d ps im kp tx cd bk py pt mt ++ dR G b ra nR s em i eo es tc nk d2 tx rt rn cd su bk co mo m0 m1 kp rg) [.int c, .int x] := by
  obtain ⟨h1, h2, h3, h4, ⟨od, h5, h6⟩, h7⟩ := id hZ
  have k1 := okT_t h1 h2
  have k2 := okS_t h1 hK.1
  have z1 : nob t := ⟨h3, h2.1.1, h2.1.2.1⟩
  have z2 : nob tc := ⟨(h1.1 0 (by omega)).trans h3, k1.1.1, k1.1.2.1⟩
  obtain ⟨b1, ⟨cm, b2, b3, b4, b5⟩, ⟨bm, b6, b7, b8⟩, ⟨sz, b9, b10, b11⟩, ⟨sd, b12, b13⟩⟩ := id hA
  have c9 := (c_X9_creditor l G b i tc nk 0 0 c x k1 k2).big (ws := dR G b ra nR s em i eo es tc nk d2 tx rt rn cd su bk co mo m0 m1 kp rg) [0, 1, 2, 3, 4, 5, 6, 7, 8, 9] rfl
  have c10 := c_X10_creditor l G a i j t r n d ps im kp tx cd bk py pt mt 0 0 c x h2.1
  have c9 := c9.toE
  have c10 := c10.toE
  exact two_EE c9 c10 ((z_cr z2).trans (z_cr z1).symm) (fun _ => rfl) ⟨_, rfl⟩ (fun _ _ => ⟨_, wQ_rf _, LI_0 hA hZ hN hK hI⟩)
set_option maxRecDepth 100000 in
theorem two0_person (hnR : nR = 30) (hA : IvA i tx cd bk s) (hZ : IvZ i t tc eo) (hN : zR t n) (hK : zC t nk) (hI : Imgz t im kp m0 m1 eo) (p x : Int32) : Two l yX9_person wsX9_person ({ frames := 4, cells := 0, slots := 0, locals := 89 } : Room) yX10_person wsX10_person ({ frames := 3, cells := 0, slots := 0, locals := 70 } : Room) G a b (LI G a b ra nR) (mW G a i j t r n d ps im kp tx cd bk py pt mt ++ dR G b ra nR s em i eo es tc nk d2 tx rt rn cd su bk co mo m0 m1 kp rg) [.int p, .int x] := by
  obtain ⟨h1, h2, h3, h4, ⟨od, h5, h6⟩, h7⟩ := id hZ
  have k1 := okT_t h1 h2
  have k2 := okS_t h1 hK.1
  have z1 : nob t := ⟨h3, h2.1.1, h2.1.2.1⟩
  have z2 : nob tc := ⟨(h1.1 0 (by omega)).trans h3, k1.1.1, k1.1.2.1⟩
  obtain ⟨b1, ⟨cm, b2, b3, b4, b5⟩, ⟨bm, b6, b7, b8⟩, ⟨sz, b9, b10, b11⟩, ⟨sd, b12, b13⟩⟩ := id hA
  have c9 := (c_X9_person l G b i tc nk 0 0 p x k1 k2).big (ws := dR G b ra nR s em i eo es tc nk d2 tx rt rn cd su bk co mo m0 m1 kp rg) [0, 1, 2, 3, 4, 5, 6, 7, 8, 9] rfl
  have c10 := c_X10_person l G a i j t r n d ps im kp tx cd bk py pt mt 0 0 p x h2.1
  have c9 := c9.toE
  have c10 := c10.toE
  exact two_EE c9 c10 ((z_pe z2).trans (z_pe z1).symm) (fun _ => rfl) ⟨_, rfl⟩ (fun _ _ => ⟨_, wQ_rf _, LI_0 hA hZ hN hK hI⟩)
set_option maxRecDepth 100000 in
theorem two0_owes (hnR : nR = 30) (hA : IvA i tx cd bk s) (hZ : IvZ i t tc eo) (hN : zR t n) (hK : zC t nk) (hI : Imgz t im kp m0 m1 eo) (p c : Int32) : Two l yX9_owes wsX9_owes ({ frames := 2, cells := 0, slots := 0, locals := 43 } : Room) yX10_owes wsX10_owes ({ frames := 2, cells := 0, slots := 0, locals := 46 } : Room) G a b (LI G a b ra nR) (mW G a i j t r n d ps im kp tx cd bk py pt mt ++ dR G b ra nR s em i eo es tc nk d2 tx rt rn cd su bk co mo m0 m1 kp rg) [.int p, .int c] := by
  obtain ⟨h1, h2, h3, h4, ⟨od, h5, h6⟩, h7⟩ := id hZ
  have k1 := okT_t h1 h2
  have k2 := okS_t h1 hK.1
  have z1 : nob t := ⟨h3, h2.1.1, h2.1.2.1⟩
  have z2 : nob tc := ⟨(h1.1 0 (by omega)).trans h3, k1.1.1, k1.1.2.1⟩
  obtain ⟨b1, ⟨cm, b2, b3, b4, b5⟩, ⟨bm, b6, b7, b8⟩, ⟨sz, b9, b10, b11⟩, ⟨sd, b12, b13⟩⟩ := id hA
  have c9 := (c_X9_owes l G b i tc nk 0 0 p c k1 k2).big (ws := dR G b ra nR s em i eo es tc nk d2 tx rt rn cd su bk co mo m0 m1 kp rg) [0, 1, 2, 3, 4, 5, 6, 7, 8, 9] rfl
  have c10 := c_X10_owes l G a i j t r n d ps im kp tx cd bk py pt mt 0 0 p c h2.1
  have c9 := c9.toE
  have c10 := c10.toE
  exact two_EE c9 c10 ((z_ow z2).trans (z_ow z1).symm) (fun _ => rfl) ⟨_, rfl⟩ (fun _ _ => ⟨_, wQ_rf _, LI_0 hA hZ hN hK hI⟩)
set_option maxRecDepth 100000 in
theorem two0_temper (hnR : nR = 30) (hA : IvA i tx cd bk s) (hZ : IvZ i t tc eo) (hN : zR t n) (hK : zC t nk) (hI : Imgz t im kp m0 m1 eo) (p c : Int32) : Two l yX9_temper wsX9_temper ({ frames := 3, cells := 0, slots := 0, locals := 66 } : Room) yX10_temper wsX10_temper ({ frames := 2, cells := 0, slots := 0, locals := 46 } : Room) G a b (LI G a b ra nR) (mW G a i j t r n d ps im kp tx cd bk py pt mt ++ dR G b ra nR s em i eo es tc nk d2 tx rt rn cd su bk co mo m0 m1 kp rg) [.int p, .int c] := by
  obtain ⟨h1, h2, h3, h4, ⟨od, h5, h6⟩, h7⟩ := id hZ
  have k1 := okT_t h1 h2
  have k2 := okS_t h1 hK.1
  have z1 : nob t := ⟨h3, h2.1.1, h2.1.2.1⟩
  have z2 : nob tc := ⟨(h1.1 0 (by omega)).trans h3, k1.1.1, k1.1.2.1⟩
  obtain ⟨b1, ⟨cm, b2, b3, b4, b5⟩, ⟨bm, b6, b7, b8⟩, ⟨sz, b9, b10, b11⟩, ⟨sd, b12, b13⟩⟩ := id hA
  have c9 := (c_X9_temper l G b i tc nk 0 0 p c k1 k2).big (ws := dR G b ra nR s em i eo es tc nk d2 tx rt rn cd su bk co mo m0 m1 kp rg) [0, 1, 2, 3, 4, 5, 6, 7, 8, 9] rfl
  have c10 := c_X10_temper l G a i j t r n d ps im kp tx cd bk py pt mt 0 0 p c h2.1
  have c9 := c9.toE
  have c10 := c10.toE
  exact two_EE c9 c10 ((z_te z2).trans (z_te z1).symm) (fun _ => rfl) ⟨_, rfl⟩ (fun _ _ => ⟨_, wQ_rf _, LI_0 hA hZ hN hK hI⟩)
set_option maxRecDepth 100000 in
theorem two0_joined (hnR : nR = 30) (hA : IvA i tx cd bk s) (hZ : IvZ i t tc eo) (hN : zR t n) (hK : zC t nk) (hI : Imgz t im kp m0 m1 eo) (g m : Int32) : Two l yX9_joined wsX9_joined ({ frames := 3, cells := 0, slots := 0, locals := 70 } : Room) yX10_joined wsX10_joined ({ frames := 4, cells := 0, slots := 0, locals := 92 } : Room) G a b (LI G a b ra nR) (mW G a i j t r n d ps im kp tx cd bk py pt mt ++ dR G b ra nR s em i eo es tc nk d2 tx rt rn cd su bk co mo m0 m1 kp rg) [.int g, .int m] := by
  obtain ⟨h1, h2, h3, h4, ⟨od, h5, h6⟩, h7⟩ := id hZ
  have k1 := okT_t h1 h2
  have k2 := okS_t h1 hK.1
  have z1 : nob t := ⟨h3, h2.1.1, h2.1.2.1⟩
  have z2 : nob tc := ⟨(h1.1 0 (by omega)).trans h3, k1.1.1, k1.1.2.1⟩
  obtain ⟨b1, ⟨cm, b2, b3, b4, b5⟩, ⟨bm, b6, b7, b8⟩, ⟨sz, b9, b10, b11⟩, ⟨sd, b12, b13⟩⟩ := id hA
  have c9 := (c_X9_joined l G b i tc nk 0 0 g m k1 k2).big (ws := dR G b ra nR s em i eo es tc nk d2 tx rt rn cd su bk co mo m0 m1 kp rg) [0, 1, 2, 3, 4, 5, 6, 7, 8, 9] rfl
  have c10 := c_X10_joined l G a i j t r n d ps im kp tx cd bk py pt mt 0 0 g m h2.1
  have c9 := c9.toE
  exact two_EE c9 c10 ((z_jo z2).trans (z_jo z1).symm) (fun _ => rfl) ⟨_, rfl⟩ (fun _ _ => ⟨_, wQ_rf _, LI_0 hA hZ hN hK hI⟩)
set_option maxRecDepth 100000 in
theorem two0_least (hnR : nR = 30) (hA : IvA i tx cd bk s) (hZ : IvZ i t tc eo) (hN : zR t n) (hK : zC t nk) (hI : Imgz t im kp m0 m1 eo) (p x w : Int32) : Two l yX9_least wsX9_least ({ frames := 6, cells := 0, slots := 0, locals := 137 } : Room) yX10_least wsX10_least ({ frames := 4, cells := 0, slots := 0, locals := 88 } : Room) G a b (LI G a b ra nR) (mW G a i j t r n d ps im kp tx cd bk py pt mt ++ dR G b ra nR s em i eo es tc nk d2 tx rt rn cd su bk co mo m0 m1 kp rg) [.int p, .int x, .int w] := by
  obtain ⟨h1, h2, h3, h4, ⟨od, h5, h6⟩, h7⟩ := id hZ
  have k1 := okT_t h1 h2
  have k2 := okS_t h1 hK.1
  have z1 : nob t := ⟨h3, h2.1.1, h2.1.2.1⟩
  have z2 : nob tc := ⟨(h1.1 0 (by omega)).trans h3, k1.1.1, k1.1.2.1⟩
  obtain ⟨b1, ⟨cm, b2, b3, b4, b5⟩, ⟨bm, b6, b7, b8⟩, ⟨sz, b9, b10, b11⟩, ⟨sd, b12, b13⟩⟩ := id hA
  have c9 := (c_X9_least l G b i tc nk 0 0 p x w k1 k2).big (ws := dR G b ra nR s em i eo es tc nk d2 tx rt rn cd su bk co mo m0 m1 kp rg) [0, 1, 2, 3, 4, 5, 6, 7, 8, 9] rfl
  have c10 := c_X10_least l G a i j t r n d ps im kp tx cd bk py pt mt 0 0 p x w h2.1
  have c9 := c9.toE
  exact two_EE c9 c10 ((z_le z2).trans (z_le z1).symm) (fun _ => rfl) ⟨_, rfl⟩ (fun _ _ => ⟨_, wQ_rf _, LI_0 hA hZ hN hK hI⟩)
set_option maxRecDepth 100000 in
theorem two0_plan (hnR : nR = 30) (hA : IvA i tx cd bk s) (hZ : IvZ i t tc eo) (hN : zR t n) (hK : zC t nk) (hI : Imgz t im kp m0 m1 eo) (p c x w : Int32) : Two l yX9_plan wsX9_plan ({ frames := 5, cells := 0, slots := 0, locals := 119 } : Room) yX10_plan wsX10_plan ({ frames := 3, cells := 0, slots := 0, locals := 66 } : Room) G a b (LI G a b ra nR) (mW G a i j t r n d ps im kp tx cd bk py pt mt ++ dR G b ra nR s em i eo es tc nk d2 tx rt rn cd su bk co mo m0 m1 kp rg) [.int p, .int c, .int x, .int w] := by
  obtain ⟨h1, h2, h3, h4, ⟨od, h5, h6⟩, h7⟩ := id hZ
  have k1 := okT_t h1 h2
  have k2 := okS_t h1 hK.1
  have z1 : nob t := ⟨h3, h2.1.1, h2.1.2.1⟩
  have z2 : nob tc := ⟨(h1.1 0 (by omega)).trans h3, k1.1.1, k1.1.2.1⟩
  obtain ⟨b1, ⟨cm, b2, b3, b4, b5⟩, ⟨bm, b6, b7, b8⟩, ⟨sz, b9, b10, b11⟩, ⟨sd, b12, b13⟩⟩ := id hA
  have c9 := c_X9_plan l G b ra s em i eo es tc nk d2 tx rt rn cd su bk co mo m0 m1 kp 0 0 p c x w k1 k2
  have c10 := c_X10_plan l G a i j t r n d ps im kp tx cd bk py pt mt 0 0 p c x w h2.1 (okT_L h2) (fun k hk => hN.1.1.2.2.1 k (by omega))
  have c9 := (c9.appL (rgW G (b 1) ra rg nR)).eqw dR_dW (fun _ => dR_dW)
  exact two_EE c9 c10 ((z_pl z2).trans (z_pl z1).symm) (fun _ => dR_f.trans dR_f.symm) ⟨_, rfl⟩ (fun _ _ => ⟨_, wQ_rf _, LI_0 hA hZ hN hK hI⟩)
set_option maxRecDepth 100000 in
theorem two0_matches (hnR : nR = 30) (hA : IvA i tx cd bk s) (hZ : IvZ i t tc eo) (hN : zR t n) (hK : zC t nk) (hI : Imgz t im kp m0 m1 eo) (x : Int32) : Two l yX9_matches wsX9_matches ({ frames := 6, cells := 0, slots := 0, locals := 143 } : Room) yX10_matches wsX10_matches ({ frames := 5, cells := 0, slots := 0, locals := 122 } : Room) G a b (LI G a b ra nR) (mW G a i j t r n d ps im kp tx cd bk py pt mt ++ dR G b ra nR s em i eo es tc nk d2 tx rt rn cd su bk co mo m0 m1 kp rg) [.int x] := by
  obtain ⟨h1, h2, h3, h4, ⟨od, h5, h6⟩, h7⟩ := id hZ
  have k1 := okT_t h1 h2
  have k2 := okS_t h1 hK.1
  have z1 : nob t := ⟨h3, h2.1.1, h2.1.2.1⟩
  have z2 : nob tc := ⟨(h1.1 0 (by omega)).trans h3, k1.1.1, k1.1.2.1⟩
  obtain ⟨b1, ⟨cm, b2, b3, b4, b5⟩, ⟨bm, b6, b7, b8⟩, ⟨sz, b9, b10, b11⟩, ⟨sd, b12, b13⟩⟩ := id hA
  have c9 := c_X9_matches_z l G b ra s em i eo es tc nk d2 tx rt rn cd su bk co mo m0 m1 kp 0 0 x k1 rfl
  have c10 := c_X10_matches l G a i j t r n d ps im kp tx cd bk py pt mt 0 0 x h2.1
  have c9 := (c9.appL (rgW G (b 1) ra rg nR)).eqw dR_dW (fun _ => dR_dW)
  exact two_EE c9 c10 ((z_ma z1).symm) (fun _ => dR_f.trans dR_f.symm) ⟨_, rfl⟩ (fun _ _ => ⟨_, wQ_rf _, LI_0 hA hZ hN hK hI⟩)
set_option maxRecDepth 100000 in
theorem two0_failing (hnR : nR = 30) (hA : IvA i tx cd bk s) (hZ : IvZ i t tc eo) (hN : zR t n) (hK : zC t nk) (hI : Imgz t im kp m0 m1 eo) : Two l yX9_failing wsX9_failing ({ frames := 5, cells := 0, slots := 0, locals := 111 } : Room) yX10_failing wsX10_failing ({ frames := 4, cells := 0, slots := 0, locals := 92 } : Room) G a b (LI G a b ra nR) (mW G a i j t r n d ps im kp tx cd bk py pt mt ++ dR G b ra nR s em i eo es tc nk d2 tx rt rn cd su bk co mo m0 m1 kp rg) [] := by
  obtain ⟨h1, h2, h3, h4, ⟨od, h5, h6⟩, h7⟩ := id hZ
  have k1 := okT_t h1 h2
  have k2 := okS_t h1 hK.1
  have z1 : nob t := ⟨h3, h2.1.1, h2.1.2.1⟩
  have z2 : nob tc := ⟨(h1.1 0 (by omega)).trans h3, k1.1.1, k1.1.2.1⟩
  obtain ⟨b1, ⟨cm, b2, b3, b4, b5⟩, ⟨bm, b6, b7, b8⟩, ⟨sz, b9, b10, b11⟩, ⟨sd, b12, b13⟩⟩ := id hA
  have c9 := c_X9_failing l G b ra s em i eo es tc nk d2 tx rt rn cd su bk co mo m0 m1 kp 0 0 k1 k2
  have c10 := c_X10_failing l G a i j t r n d ps im kp tx cd bk py pt mt 0 0 h2.1
  have c9 := (c9.appL (rgW G (b 1) ra rg nR)).eqw dR_dW (fun _ => dR_dW)
  exact two_EE c9 c10 ((z_fa hK.2.1).trans (z_fa hN.1.2.1).symm) (fun _ => dR_f.trans dR_f.symm) ⟨_, rfl⟩ (fun _ _ => ⟨_, wQ_rf _, LI_0 hA hZ hN hK hI⟩)
set_option maxRecDepth 100000 in
theorem two0_run (hnR : nR = 30) (hA : IvA i tx cd bk s) (hZ : IvZ i t tc eo) (hN : zR t n) (hK : zC t nk) (hI : Imgz t im kp m0 m1 eo) (x : Int32) : Two l yX9_run wsX9_run ({ frames := 5, cells := 0, slots := 0, locals := 111 } : Room) yX10_run wsX10_run ({ frames := 4, cells := 0, slots := 0, locals := 92 } : Room) G a b (LI G a b ra nR) (mW G a i j t r n d ps im kp tx cd bk py pt mt ++ dR G b ra nR s em i eo es tc nk d2 tx rt rn cd su bk co mo m0 m1 kp rg) [.int x] := by
  obtain ⟨h1, h2, h3, h4, ⟨od, h5, h6⟩, h7⟩ := id hZ
  have k1 := okT_t h1 h2
  have k2 := okS_t h1 hK.1
  have z1 : nob t := ⟨h3, h2.1.1, h2.1.2.1⟩
  have z2 : nob tc := ⟨(h1.1 0 (by omega)).trans h3, k1.1.1, k1.1.2.1⟩
  obtain ⟨b1, ⟨cm, b2, b3, b4, b5⟩, ⟨bm, b6, b7, b8⟩, ⟨sz, b9, b10, b11⟩, ⟨sd, b12, b13⟩⟩ := id hA
  have c9 := c_X9_run l G b ra s em i eo es tc nk d2 tx rt rn cd su bk co mo m0 m1 kp 0 0 x k1 k2
  have c10 := c_X10_run l G a i j t r n d ps im kp tx cd bk py pt mt 0 0 x h2.1
  have c9 := (c9.appL (rgW G (b 1) ra rg nR)).eqw dR_dW (fun _ => dR_dW)
  exact two_EE c9 c10 (by rw [z_nQ hK.2.1, z_nQ hN.1.2.1]) (fun _ => dR_f.trans dR_f.symm) ⟨_, rfl⟩ (fun _ _ => ⟨_, wQ_rf _, LI_0 hA hZ hN hK hI⟩)
set_option maxRecDepth 100000 in
theorem two0_credit (hnR : nR = 30) (hA : IvA i tx cd bk s) (hZ : IvZ i t tc eo) (hN : zR t n) (hK : zC t nk) (hI : Imgz t im kp m0 m1 eo) (p c : Int32) : Two l yX9_credit wsX9_credit ({ frames := 4, cells := 0, slots := 0, locals := 86 } : Room) yX10_credit wsX10_credit ({ frames := 5, cells := 0, slots := 0, locals := 111 } : Room) G a b (LI G a b ra nR) (mW G a i j t r n d ps im kp tx cd bk py pt mt ++ dR G b ra nR s em i eo es tc nk d2 tx rt rn cd su bk co mo m0 m1 kp rg) [.int p, .int c] := by
  obtain ⟨h1, h2, h3, h4, ⟨od, h5, h6⟩, h7⟩ := id hZ
  have k1 := okT_t h1 h2
  have k2 := okS_t h1 hK.1
  have z1 : nob t := ⟨h3, h2.1.1, h2.1.2.1⟩
  have z2 : nob tc := ⟨(h1.1 0 (by omega)).trans h3, k1.1.1, k1.1.2.1⟩
  obtain ⟨b1, ⟨cm, b2, b3, b4, b5⟩, ⟨bm, b6, b7, b8⟩, ⟨sz, b9, b10, b11⟩, ⟨sd, b12, b13⟩⟩ := id hA
  have c9 := (c_X9_credit l G b i tc nk 0 0 p c k1 k2).big (ws := dR G b ra nR s em i eo es tc nk d2 tx rt rn cd su bk co mo m0 m1 kp rg) [0, 1, 2, 3, 4, 5, 6, 7, 8, 9] rfl
  have c10 := c_X10_credit l G a i j t r n d ps im kp tx cd bk py pt mt 0 0 p c h2.1
  have c9 := c9.toE
  exact two_EE c9 c10 ((z_cd z2).trans (z_cd z1).symm) (fun _ => rfl) ⟨_, rfl⟩ (fun _ _ => ⟨_, wQ_rf _, LI_0 hA hZ hN hK hI⟩)
set_option maxRecDepth 100000 in
theorem two0_rumours (hnR : nR = 30) (hA : IvA i tx cd bk s) (hZ : IvZ i t tc eo) (hN : zR t n) (hK : zC t nk) (hI : Imgz t im kp m0 m1 eo) (x q : Int32) : Two l yX9_rumours wsX9_rumours ({ frames := 0, cells := 0, slots := 0, locals := 0 } : Room) yX10_rumours wsX10_rumours ({ frames := 1, cells := 0, slots := 0, locals := 25 } : Room) G a b (LI G a b ra nR) (mW G a i j t r n d ps im kp tx cd bk py pt mt ++ dR G b ra nR s em i eo es tc nk d2 tx rt rn cd su bk co mo m0 m1 kp rg) [.int x, .int q] := by
  obtain ⟨h1, h2, h3, h4, ⟨od, h5, h6⟩, h7⟩ := id hZ
  have k1 := okT_t h1 h2
  have k2 := okS_t h1 hK.1
  have z1 : nob t := ⟨h3, h2.1.1, h2.1.2.1⟩
  have z2 : nob tc := ⟨(h1.1 0 (by omega)).trans h3, k1.1.1, k1.1.2.1⟩
  obtain ⟨b1, ⟨cm, b2, b3, b4, b5⟩, ⟨bm, b6, b7, b8⟩, ⟨sz, b9, b10, b11⟩, ⟨sd, b12, b13⟩⟩ := id hA
  have c9 := (c_X9_rumours l G b i x q).big (ws := dR G b ra nR s em i eo es tc nk d2 tx rt rn cd su bk co mo m0 m1 kp rg) [0] rfl
  have c10 := c_X10_rumours l G a i j t r n d ps im kp tx cd bk py pt mt x q
  have c9 := c9.toE
  have c10 := c10.toE
  exact two_EE c9 c10 (rfl) (fun _ => rfl) ⟨_, rfl⟩ (fun _ _ => ⟨_, wQ_rf _, LI_0 hA hZ hN hK hI⟩)
set_option maxRecDepth 100000 in
theorem two0_had (hnR : nR = 30) (hA : IvA i tx cd bk s) (hZ : IvZ i t tc eo) (hN : zR t n) (hK : zC t nk) (hI : Imgz t im kp m0 m1 eo) (p c w : Int32) : Two l yX9_had wsX9_had ({ frames := 5, cells := 0, slots := 0, locals := 116 } : Room) yX10_had wsX10_had ({ frames := 4, cells := 0, slots := 0, locals := 92 } : Room) G a b (LI G a b ra nR) (mW G a i j t r n d ps im kp tx cd bk py pt mt ++ dR G b ra nR s em i eo es tc nk d2 tx rt rn cd su bk co mo m0 m1 kp rg) [.int p, .int c, .int w] := by
  obtain ⟨h1, h2, h3, h4, ⟨od, h5, h6⟩, h7⟩ := id hZ
  have k1 := okT_t h1 h2
  have k2 := okS_t h1 hK.1
  have z1 : nob t := ⟨h3, h2.1.1, h2.1.2.1⟩
  have z2 : nob tc := ⟨(h1.1 0 (by omega)).trans h3, k1.1.1, k1.1.2.1⟩
  obtain ⟨b1, ⟨cm, b2, b3, b4, b5⟩, ⟨bm, b6, b7, b8⟩, ⟨sz, b9, b10, b11⟩, ⟨sd, b12, b13⟩⟩ := id hA
  have c9 := c_X9_had l G b ra s em i eo es tc nk d2 tx rt rn cd su bk co mo m0 m1 kp 0 0 cm p c w k1 k2 b2 b3 b4 b5
  have c10 := c_X10_had l G a i j t r n d ps im kp tx cd bk py pt mt 0 0 cm p c w h2.1 b2 b3 b4
  have c9 := (c9.appL (rgW G (b 1) ra rg nR)).eqw dR_dW (fun _ => dR_dW)
  have c10 := c10.toE
  exact two_EE c9 c10 ((z_ha z2).trans (z_ha z1).symm) (fun _ => dR_f.trans dR_f.symm) ⟨_, rfl⟩ (fun _ _ => ⟨_, wQ_rf _, LI_0 hA hZ hN hK hI⟩)
set_option maxRecDepth 100000 in
theorem two0_lookAt (hnR : nR = 30) (hA : IvA i tx cd bk s) (hZ : IvZ i t tc eo) (hN : zR t n) (hK : zC t nk) (hI : Imgz t im kp m0 m1 eo) (p c : Int32) : Two l yX9_lookAt wsX9_lookAt ({ frames := 5, cells := 0, slots := 0, locals := 116 } : Room) yX10_lookAt wsX10_lookAt ({ frames := 5, cells := 0, slots := 0, locals := 119 } : Room) G a b (LI G a b ra nR) (mW G a i j t r n d ps im kp tx cd bk py pt mt ++ dR G b ra nR s em i eo es tc nk d2 tx rt rn cd su bk co mo m0 m1 kp rg) [.int p, .int c] := by
  obtain ⟨h1, h2, h3, h4, ⟨od, h5, h6⟩, h7⟩ := id hZ
  have k1 := okT_t h1 h2
  have k2 := okS_t h1 hK.1
  have z1 : nob t := ⟨h3, h2.1.1, h2.1.2.1⟩
  have z2 : nob tc := ⟨(h1.1 0 (by omega)).trans h3, k1.1.1, k1.1.2.1⟩
  obtain ⟨b1, ⟨cm, b2, b3, b4, b5⟩, ⟨bm, b6, b7, b8⟩, ⟨sz, b9, b10, b11⟩, ⟨sd, b12, b13⟩⟩ := id hA
  have c9 := c_X9_lookAt l G b ra s em i eo es tc nk d2 tx rt rn cd su bk co mo m0 m1 kp 0 0 cm p c k1 k2 b2 b3 b4 b5
  have c10 := c_X10_lookAt l G a i j t r n d ps im kp tx cd bk py pt mt 0 0 cm p c h2.1 b2 b3 b4
  have c9 := (c9.appL (rgW G (b 1) ra rg nR)).eqw dR_dW (fun _ => dR_dW)
  have c10 := c10.toE
  exact two_EE c9 c10 ((z_lo z2).trans (z_lo z1).symm) (fun _ => dR_f.trans dR_f.symm) ⟨_, rfl⟩ (fun _ _ => ⟨_, wQ_rf _, LI_0 hA hZ hN hK hI⟩)
set_option maxRecDepth 100000 in
theorem two0_judge (hnR : nR = 30) (hA : IvA i tx cd bk s) (hZ : IvZ i t tc eo) (hN : zR t n) (hK : zC t nk) (hI : Imgz t im kp m0 m1 eo) : Two l yX9_judge wsX9_judge ({ frames := 5, cells := 0, slots := 0, locals := 111 } : Room) yX10_judge wsX10_judge ({ frames := 3, cells := 0, slots := 0, locals := 70 } : Room) G a b (LI G a b ra nR) (mW G a i j t r n d ps im kp tx cd bk py pt mt ++ dR G b ra nR s em i eo es tc nk d2 tx rt rn cd su bk co mo m0 m1 kp rg) [] := by
  obtain ⟨h1, h2, h3, h4, ⟨od, h5, h6⟩, h7⟩ := id hZ
  have k1 := okT_t h1 h2
  have k2 := okS_t h1 hK.1
  have z1 : nob t := ⟨h3, h2.1.1, h2.1.2.1⟩
  have z2 : nob tc := ⟨(h1.1 0 (by omega)).trans h3, k1.1.1, k1.1.2.1⟩
  obtain ⟨b1, ⟨cm, b2, b3, b4, b5⟩, ⟨bm, b6, b7, b8⟩, ⟨sz, b9, b10, b11⟩, ⟨sd, b12, b13⟩⟩ := id hA
  have c9 := c_X9_judge l G b ra s em i eo es tc nk d2 tx rt rn cd su bk co mo m0 m1 kp 0 0 0 k1 k2 h7 (by omega) (fun k hk => absurd hk (by omega))
  have c10 := c_X10_judge l G a i j t r n d ps im kp tx cd bk py pt mt 0 0 0 h2.1 h7 (by omega) (fun k hk => absurd hk (by omega))
  have c9 := (c9.dR nR rg).toE
  have c10 := c10.toE
  exact two_EE c9 c10 (rfl) (fun _ => rfl) ⟨_, rfl⟩ (fun _ _ => ⟨_, wQ_rf _, LI_0 hA hZ hN hK hI⟩)
set_option maxRecDepth 100000 in
theorem two0_borrow (hnR : nR = 30) (hA : IvA i tx cd bk s) (hZ : IvZ i t tc eo) (hN : zR t n) (hK : zC t nk) (hI : Imgz t im kp m0 m1 eo) (p c k : Int32) : Two l yX9_borrow wsX9_borrow ({ frames := 4, cells := 0, slots := 0, locals := 86 } : Room) yX10_borrow wsX10_borrow ({ frames := 5, cells := 0, slots := 0, locals := 111 } : Room) G a b (LI G a b ra nR) (mW G a i j t r n d ps im kp tx cd bk py pt mt ++ dR G b ra nR s em i eo es tc nk d2 tx rt rn cd su bk co mo m0 m1 kp rg) [.int p, .int c, .int k] := by
  obtain ⟨h1, h2, h3, h4, ⟨od, h5, h6⟩, h7⟩ := id hZ
  have k1 := okT_t h1 h2
  have k2 := okS_t h1 hK.1
  have z1 : nob t := ⟨h3, h2.1.1, h2.1.2.1⟩
  have z2 : nob tc := ⟨(h1.1 0 (by omega)).trans h3, k1.1.1, k1.1.2.1⟩
  obtain ⟨b1, ⟨cm, b2, b3, b4, b5⟩, ⟨bm, b6, b7, b8⟩, ⟨sz, b9, b10, b11⟩, ⟨sd, b12, b13⟩⟩ := id hA
  have c9 := c_X9_borrow l G b ra nR s em i eo es tc nk d2 tx rt rn cd su bk co mo m0 m1 kp rg 0 0 0 od p c k k1 k2 h4 (by omega) h5 h6 hnR
  have c10 := c_X10_borrow l G a i j t r n d ps im kp tx cd bk py pt mt 0 0 0 p c k h2.1 h4 (by omega)
  have e9 : ¬ okBor tc nk p c k := z_bo' z2
  have e : ¬ okBor t n p c k := z_bo' z1
  simp only [if_neg e9] at c9
  simp only [if_neg e] at c10
  exact two_EE c9.toE c10.toE ((z_bo z2).trans (z_bo z1).symm) (fun _ => rfl) ⟨_, rfl⟩ (fun _ _ => ⟨_, wQ_rf _, LI_0 hA hZ hN hK hI⟩)
set_option maxRecDepth 100000 in
theorem two0_pay (hnR : nR = 30) (hA : IvA i tx cd bk s) (hZ : IvZ i t tc eo) (hN : zR t n) (hK : zC t nk) (hI : Imgz t im kp m0 m1 eo) (p c k : Int32) : Two l yX9_pay wsX9_pay ({ frames := 3, cells := 0, slots := 0, locals := 68 } : Room) yX10_pay wsX10_pay ({ frames := 2, cells := 0, slots := 0, locals := 46 } : Room) G a b (LI G a b ra nR) (mW G a i j t r n d ps im kp tx cd bk py pt mt ++ dR G b ra nR s em i eo es tc nk d2 tx rt rn cd su bk co mo m0 m1 kp rg) [.int p, .int c, .int k] := by
  obtain ⟨h1, h2, h3, h4, ⟨od, h5, h6⟩, h7⟩ := id hZ
  have k1 := okT_t h1 h2
  have k2 := okS_t h1 hK.1
  have z1 : nob t := ⟨h3, h2.1.1, h2.1.2.1⟩
  have z2 : nob tc := ⟨(h1.1 0 (by omega)).trans h3, k1.1.1, k1.1.2.1⟩
  obtain ⟨b1, ⟨cm, b2, b3, b4, b5⟩, ⟨bm, b6, b7, b8⟩, ⟨sz, b9, b10, b11⟩, ⟨sd, b12, b13⟩⟩ := id hA
  have c9 := c_X9_pay l G b ra nR s em i eo es tc nk d2 tx rt rn cd su bk co mo m0 m1 kp rg 0 0 0 od p c k k1 k2 h4 (by omega) h5 h6 hnR
  have c10 := c_X10_pay l G a i j t r n d ps im kp tx cd bk py pt mt 0 0 0 p c k h2.1 h4 (by omega)
  have e9 : ¬ okPay tc nk p c k := z_pa' z2
  have e : ¬ okPay t n p c k := z_pa' z1
  simp only [if_neg e9] at c9
  simp only [if_neg e] at c10
  exact two_EE c9.toE c10.toE ((z_pa z2).trans (z_pa z1).symm) (fun _ => rfl) ⟨_, rfl⟩ (fun _ _ => ⟨_, wQ_rf _, LI_0 hA hZ hN hK hI⟩)
set_option maxRecDepth 100000 in
theorem two0_wed (hnR : nR = 30) (hA : IvA i tx cd bk s) (hZ : IvZ i t tc eo) (hN : zR t n) (hK : zC t nk) (hI : Imgz t im kp m0 m1 eo) (g m : Int32) : Two l yX9_wed wsX9_wed ({ frames := 4, cells := 0, slots := 0, locals := 89 } : Room) yX10_wed wsX10_wed ({ frames := 3, cells := 0, slots := 0, locals := 70 } : Room) G a b (LI G a b ra nR) (mW G a i j t r n d ps im kp tx cd bk py pt mt ++ dR G b ra nR s em i eo es tc nk d2 tx rt rn cd su bk co mo m0 m1 kp rg) [.int g, .int m] := by
  obtain ⟨h1, h2, h3, h4, ⟨od, h5, h6⟩, h7⟩ := id hZ
  have k1 := okT_t h1 h2
  have k2 := okS_t h1 hK.1
  have z1 : nob t := ⟨h3, h2.1.1, h2.1.2.1⟩
  have z2 : nob tc := ⟨(h1.1 0 (by omega)).trans h3, k1.1.1, k1.1.2.1⟩
  obtain ⟨b1, ⟨cm, b2, b3, b4, b5⟩, ⟨bm, b6, b7, b8⟩, ⟨sz, b9, b10, b11⟩, ⟨sd, b12, b13⟩⟩ := id hA
  have c9 := c_X9_wed l G b ra nR s em i eo es tc nk d2 tx rt rn cd su bk co mo m0 m1 kp rg 0 0 0 od g m k1 k2 h4 (by omega) h5 h6 hnR
  have c10 := c_X10_wed l G a i j t r n d ps im kp tx cd bk py pt mt 0 0 0 g m h2.1 h4 (by omega)
  have e9 : ¬ (isG tc g ∧ isM tc m ∧ nk (44 + cl g) = -1 ∧ nk (44 + cl m) = -1) := fun q => nobP z2 q.1.1
  have e : ¬ (isG t g ∧ isM t m ∧ n (44 + cl g) = -1 ∧ n (44 + cl m) = -1) := fun q => nobP z1 q.1.1
  simp only [if_neg e9] at c9
  simp only [if_neg e] at c10
  exact two_EE c9.toE c10.toE ((z_we z2).trans (z_we z1).symm) (fun _ => rfl) ⟨_, rfl⟩ (fun _ _ => ⟨_, wQ_rf _, LI_0 hA hZ hN hK hI⟩)
set_option maxRecDepth 100000 in
theorem two0_divorce (hnR : nR = 30) (hA : IvA i tx cd bk s) (hZ : IvZ i t tc eo) (hN : zR t n) (hK : zC t nk) (hI : Imgz t im kp m0 m1 eo) (g : Int32) : Two l yX9_divorce wsX9_divorce ({ frames := 3, cells := 0, slots := 0, locals := 68 } : Room) yX10_divorce wsX10_divorce ({ frames := 3, cells := 0, slots := 0, locals := 67 } : Room) G a b (LI G a b ra nR) (mW G a i j t r n d ps im kp tx cd bk py pt mt ++ dR G b ra nR s em i eo es tc nk d2 tx rt rn cd su bk co mo m0 m1 kp rg) [.int g] := by
  obtain ⟨h1, h2, h3, h4, ⟨od, h5, h6⟩, h7⟩ := id hZ
  have k1 := okT_t h1 h2
  have k2 := okS_t h1 hK.1
  have z1 : nob t := ⟨h3, h2.1.1, h2.1.2.1⟩
  have z2 : nob tc := ⟨(h1.1 0 (by omega)).trans h3, k1.1.1, k1.1.2.1⟩
  obtain ⟨b1, ⟨cm, b2, b3, b4, b5⟩, ⟨bm, b6, b7, b8⟩, ⟨sz, b9, b10, b11⟩, ⟨sd, b12, b13⟩⟩ := id hA
  have c9 := c_X9_divorce l G b ra nR s em i eo es tc nk d2 tx rt rn cd su bk co mo m0 m1 kp rg 0 0 0 od g k1 k2 h4 (by omega) h5 h6 hnR
  have c10 := c_X10_divorce l G a i j t r n d ps im kp tx cd bk py pt mt 0 0 0 g h2.1 h4 (by omega) (fun p hp => Or.inl (hN.2 p hp))
  have e9 : ¬ (isG tc g ∧ ¬ nk (44 + cl g) = -1) := fun q => nobP z2 q.1.1
  have e : ¬ (isG t g ∧ ¬ n (44 + cl g) = -1) := fun q => nobP z1 q.1.1
  simp only [if_neg e9] at c9
  simp only [if_neg e] at c10
  exact two_EE c9.toE c10.toE ((z_dv z2).trans (z_dv z1).symm) (fun _ => rfl) ⟨_, rfl⟩ (fun _ _ => ⟨_, wQ_rf _, LI_0 hA hZ hN hK hI⟩)
set_option maxRecDepth 100000 in
theorem two0_quarter (hnR : nR = 30) (hA : IvA i tx cd bk s) (hZ : IvZ i t tc eo) (hN : zR t n) (hK : zC t nk) (hI : Imgz t im kp m0 m1 eo) (x : Int32) : Two l yX9_quarter wsX9_quarter ({ frames := 5, cells := 0, slots := 0, locals := 111 } : Room) yX10_quarter wsX10_quarter ({ frames := 4, cells := 0, slots := 0, locals := 92 } : Room) G a b (LI G a b ra nR) (mW G a i j t r n d ps im kp tx cd bk py pt mt ++ dR G b ra nR s em i eo es tc nk d2 tx rt rn cd su bk co mo m0 m1 kp rg) [.int x] := by
  obtain ⟨h1, h2, h3, h4, ⟨od, h5, h6⟩, h7⟩ := id hZ
  have k1 := okT_t h1 h2
  have k2 := okS_t h1 hK.1
  have z1 : nob t := ⟨h3, h2.1.1, h2.1.2.1⟩
  have z2 : nob tc := ⟨(h1.1 0 (by omega)).trans h3, k1.1.1, k1.1.2.1⟩
  obtain ⟨b1, ⟨cm, b2, b3, b4, b5⟩, ⟨bm, b6, b7, b8⟩, ⟨sz, b9, b10, b11⟩, ⟨sd, b12, b13⟩⟩ := id hA
  have c9 := c_X9_quarter l G b ra nR s em i eo es tc nk d2 tx rt rn cd su bk co mo m0 m1 kp rg 0 0 0 od x k1 k2 h4 (by omega) h5 h6 hnR
  have c10 := c_X10_quarter l G a i j t r n d ps im kp tx cd bk py pt mt 0 0 0 x h2.1 h4 (by omega) hN.1.1.2.2.2.1
  have e9 : ¬ rfR tc nk x = 0 := z_rf' z2
  have e : ¬ rfR t n x = 0 := z_rf' z1
  simp only [if_neg e9] at c9
  simp only [if_neg e] at c10
  exact two_EE c9.toE c10.toE ((z_qu z2).trans (z_qu z1).symm) (fun _ => rfl) ⟨_, rfl⟩ (fun _ _ => ⟨_, wQ_rf _, LI_0 hA hZ hN hK hI⟩)
set_option maxRecDepth 100000 in
theorem two0_drift (hnR : nR = 30) (hA : IvA i tx cd bk s) (hZ : IvZ i t tc eo) (hN : zR t n) (hK : zC t nk) (hI : Imgz t im kp m0 m1 eo) (x : Int32) : Two l yX9_drift wsX9_drift ({ frames := 5, cells := 0, slots := 0, locals := 111 } : Room) yX10_drift wsX10_drift ({ frames := 5, cells := 0, slots := 0, locals := 111 } : Room) G a b (LI G a b ra nR) (mW G a i j t r n d ps im kp tx cd bk py pt mt ++ dR G b ra nR s em i eo es tc nk d2 tx rt rn cd su bk co mo m0 m1 kp rg) [.int x] := by
  obtain ⟨h1, h2, h3, h4, ⟨od, h5, h6⟩, h7⟩ := id hZ
  have k1 := okT_t h1 h2
  have k2 := okS_t h1 hK.1
  have z1 : nob t := ⟨h3, h2.1.1, h2.1.2.1⟩
  have z2 : nob tc := ⟨(h1.1 0 (by omega)).trans h3, k1.1.1, k1.1.2.1⟩
  obtain ⟨b1, ⟨cm, b2, b3, b4, b5⟩, ⟨bm, b6, b7, b8⟩, ⟨sz, b9, b10, b11⟩, ⟨sd, b12, b13⟩⟩ := id hA
  have c9 := c_X9_drift l G b ra nR s em i eo es tc nk d2 tx rt rn cd su bk co mo m0 m1 kp rg 0 0 0 od sd x k1 k2 h4 (by omega) h5 h6 hnR b12 b13
  have c10 := c_X10_drift l G a i j t r n d ps im kp tx cd bk py pt mt 0 0 0 sd x h2.1 h4 (by omega) b12 b13 h2.2.2.1
  have e9 : ¬ rfR tc nk x = 0 := z_rf' z2
  have e : ¬ rfR t n x = 0 := z_rf' z1
  simp only [if_neg e9] at c9
  simp only [if_neg e] at c10
  exact two_EE c9.toE c10.toE ((z_dr z2).trans (z_dr z1).symm) (fun _ => rfl) ⟨_, rfl⟩ (fun _ _ => ⟨_, wQ_rf _, LI_0 hA hZ hN hK hI⟩)
set_option maxRecDepth 100000 in
theorem two0_undo (hnR : nR = 30) (hA : IvA i tx cd bk s) (hZ : IvZ i t tc eo) (hN : zR t n) (hK : zC t nk) (hI : Imgz t im kp m0 m1 eo) (x : Int32) : Two l yX9_undo wsX9_undo ({ frames := 3, cells := 0, slots := 0, locals := 64 } : Room) yX10_undo wsX10_undo ({ frames := 1, cells := 0, slots := 0, locals := 25 } : Room) G a b (LI G a b ra nR) (mW G a i j t r n d ps im kp tx cd bk py pt mt ++ dR G b ra nR s em i eo es tc nk d2 tx rt rn cd su bk co mo m0 m1 kp rg) [.int x] := by
  obtain ⟨h1, h2, h3, h4, ⟨od, h5, h6⟩, h7⟩ := id hZ
  have k1 := okT_t h1 h2
  have k2 := okS_t h1 hK.1
  have z1 : nob t := ⟨h3, h2.1.1, h2.1.2.1⟩
  have z2 : nob tc := ⟨(h1.1 0 (by omega)).trans h3, k1.1.1, k1.1.2.1⟩
  obtain ⟨b1, ⟨cm, b2, b3, b4, b5⟩, ⟨bm, b6, b7, b8⟩, ⟨sz, b9, b10, b11⟩, ⟨sd, b12, b13⟩⟩ := id hA
  have c9 := c_X9_undo l G b ra nR s em i eo es tc nk d2 tx rt rn cd su bk co mo m0 m1 kp rg 0 od ps x h4 (by omega) h5 h6 hnR (fun k hk => absurd hk (by omega))
  have c10 := c_X10_undo l G a i j t r n d ps im kp tx cd bk py pt mt 0 x h4 (by omega)
  have e : ¬ okUn 0 x := z_un
  simp only [if_neg e] at c9 c10
  exact two_EE c9.toE c10.toE (z_unR.trans z_unR.symm) (fun _ => rfl) ⟨_, rfl⟩ (fun _ _ => ⟨_, wQ_rf _, LI_0 hA hZ hN hK hI⟩)
set_option maxRecDepth 100000 in
theorem two0_feed (hnR : nR = 30) (hA : IvA i tx cd bk s) (hZ : IvZ i t tc eo) (hN : zR t n) (hK : zC t nk) (hI : Imgz t im kp m0 m1 eo) (x : Int32) : Two l yX9_feed wsX9_feed ({ frames := 1, cells := 0, slots := 0, locals := 21 } : Room) yX10_feed wsX10_feed ({ frames := 1, cells := 0, slots := 0, locals := 25 } : Room) G a b (LI G a b ra nR) (mW G a i j t r n d ps im kp tx cd bk py pt mt ++ dR G b ra nR s em i eo es tc nk d2 tx rt rn cd su bk co mo m0 m1 kp rg) [.int x] := by
  obtain ⟨h1, h2, h3, h4, ⟨od, h5, h6⟩, h7⟩ := id hZ
  have k1 := okT_t h1 h2
  have k2 := okS_t h1 hK.1
  have z1 : nob t := ⟨h3, h2.1.1, h2.1.2.1⟩
  have z2 : nob tc := ⟨(h1.1 0 (by omega)).trans h3, k1.1.1, k1.1.2.1⟩
  obtain ⟨b1, ⟨cm, b2, b3, b4, b5⟩, ⟨bm, b6, b7, b8⟩, ⟨sz, b9, b10, b11⟩, ⟨sd, b12, b13⟩⟩ := id hA
  have c9 := (c_X9_feed l G b ra s em i eo es tc nk d2 tx rt rn cd su bk co mo m0 m1 kp sz x b9 b10).dR nR rg
  have c10 := c_X10_feed l G a i j t r n d ps im kp tx cd bk py pt mt sz x b9 b10
  by_cases e : okFd sz x
  · simp only [if_pos e] at c9 c10
    exact two_EE c9.toE c10.toE rfl (fun _ => dR_f.trans dR_f.symm) ⟨_, rfl⟩ (fun _ _ => ⟨_, wQ_rf _, LI_0 (IvA_feed hA b10 b11 e) (IvZ_c hZ (upd_ne (by decide)) (upd_ne (by decide))) hN hK hI⟩)
  · simp only [if_neg e] at c9 c10
    exact two_EE c9.toE c10.toE rfl (fun _ => rfl) ⟨_, rfl⟩ (fun _ _ => ⟨_, wQ_rf _, LI_0 hA hZ hN hK hI⟩)
set_option maxRecDepth 100000 in
theorem two0_tear (hnR : nR = 30) (hA : IvA i tx cd bk s) (hZ : IvZ i t tc eo) (hN : zR t n) (hK : zC t nk) (hI : Imgz t im kp m0 m1 eo) : Two l yX9_tear wsX9_tear ({ frames := 0, cells := 0, slots := 0, locals := 0 } : Room) yX10_tear wsX10_tear ({ frames := 0, cells := 0, slots := 0, locals := 0 } : Room) G a b (LI G a b ra nR) (mW G a i j t r n d ps im kp tx cd bk py pt mt ++ dR G b ra nR s em i eo es tc nk d2 tx rt rn cd su bk co mo m0 m1 kp rg) [] := by
  obtain ⟨h1, h2, h3, h4, ⟨od, h5, h6⟩, h7⟩ := id hZ
  have k1 := okT_t h1 h2
  have k2 := okS_t h1 hK.1
  have z1 : nob t := ⟨h3, h2.1.1, h2.1.2.1⟩
  have z2 : nob tc := ⟨(h1.1 0 (by omega)).trans h3, k1.1.1, k1.1.2.1⟩
  obtain ⟨b1, ⟨cm, b2, b3, b4, b5⟩, ⟨bm, b6, b7, b8⟩, ⟨sz, b9, b10, b11⟩, ⟨sd, b12, b13⟩⟩ := id hA
  have c9 := (c_X9_tear l G b ra s em i eo es tc nk d2 tx rt rn cd su bk co mo m0 m1 kp ).dR nR rg
  have c10 := c_X10_tear l G a i j t r n d ps im kp tx cd bk py pt mt 
  exact two_EE c9.toE c10.toE rfl (fun _ => dR_f.trans dR_f.symm) ⟨_, rfl⟩ (fun _ _ => ⟨_, wQ_rf _, LI_0 (IvA_tear hA) (IvZ_c2 hZ ((upd_ne (by decide)).trans (upd_ne (by decide))) (upd_at _ _ _)) hN hK hI⟩)
set_option maxRecDepth 100000 in
theorem two0_seed (hnR : nR = 30) (hA : IvA i tx cd bk s) (hZ : IvZ i t tc eo) (hN : zR t n) (hK : zC t nk) (hI : Imgz t im kp m0 m1 eo) (x : Int32) : Two l yX9_seed wsX9_seed ({ frames := 0, cells := 0, slots := 0, locals := 0 } : Room) yX10_seed wsX10_seed ({ frames := 0, cells := 0, slots := 0, locals := 0 } : Room) G a b (LI G a b ra nR) (mW G a i j t r n d ps im kp tx cd bk py pt mt ++ dR G b ra nR s em i eo es tc nk d2 tx rt rn cd su bk co mo m0 m1 kp rg) [.int x] := by
  obtain ⟨h1, h2, h3, h4, ⟨od, h5, h6⟩, h7⟩ := id hZ
  have k1 := okT_t h1 h2
  have k2 := okS_t h1 hK.1
  have z1 : nob t := ⟨h3, h2.1.1, h2.1.2.1⟩
  have z2 : nob tc := ⟨(h1.1 0 (by omega)).trans h3, k1.1.1, k1.1.2.1⟩
  obtain ⟨b1, ⟨cm, b2, b3, b4, b5⟩, ⟨bm, b6, b7, b8⟩, ⟨sz, b9, b10, b11⟩, ⟨sd, b12, b13⟩⟩ := id hA
  by_cases e : x < 0
  · have e2 : ¬ ¬ x < 0 := not_not_intro e
    have c9 := c_X9_seed l G b i x
    have c10 := c_X10_seed l G a i j t r n d ps im kp tx cd bk py pt mt x
    simp only [if_neg e2] at c9 c10
    have c9 := c9.big (ws := dR G b ra nR s em i eo es tc nk d2 tx rt rn cd su bk co mo m0 m1 kp rg) (wsn := dR G b ra nR s em i eo es tc nk d2 tx rt rn cd su bk co mo m0 m1 kp rg) [0] (by decide) rfl rfl rfl
    exact two_EE c9.toE c10.toE rfl (fun _ => rfl) ⟨_, rfl⟩ (fun _ _ => ⟨_, wQ_rf _, LI_0 hA hZ hN hK hI⟩)
  · have c9 := c_X9_seed l G b i x
    have c10 := c_X10_seed l G a i j t r n d ps im kp tx cd bk py pt mt x
    simp only [if_pos e] at c9 c10
    have c9 := c9.big (ws := dR G b ra nR s em i eo es tc nk d2 tx rt rn cd su bk co mo m0 m1 kp rg) (wsn := dR G b ra nR s em (upd i 8 x) eo es tc nk d2 tx rt rn cd su bk co mo m0 m1 kp rg) [0] (by decide) rfl rfl rfl
    exact two_EE c9.toE c10.toE rfl (fun _ => dR_f.trans dR_f.symm) ⟨_, rfl⟩ (fun _ _ => ⟨_, wQ_rf _, LI_0 (IvA_8 hA (isSd_i e)) (IvZ_c hZ (upd_ne (by decide)) (upd_ne (by decide))) hN hK hI⟩)
set_option maxRecDepth 100000 in
theorem two0_write (hnR : nR = 30) (hA : IvA i tx cd bk s) (hZ : IvZ i t tc eo) (hN : zR t n) (hK : zC t nk) (hI : Imgz t im kp m0 m1 eo) (p x : Int32) : Two l yX9_write wsX9_write ({ frames := 1, cells := 0, slots := 0, locals := 22 } : Room) yX10_write wsX10_write ({ frames := 2, cells := 0, slots := 0, locals := 46 } : Room) G a b (LI G a b ra nR) (mW G a i j t r n d ps im kp tx cd bk py pt mt ++ dR G b ra nR s em i eo es tc nk d2 tx rt rn cd su bk co mo m0 m1 kp rg) [.int p, .int x] := by
  obtain ⟨h1, h2, h3, h4, ⟨od, h5, h6⟩, h7⟩ := id hZ
  have k1 := okT_t h1 h2
  have k2 := okS_t h1 hK.1
  have z1 : nob t := ⟨h3, h2.1.1, h2.1.2.1⟩
  have z2 : nob tc := ⟨(h1.1 0 (by omega)).trans h3, k1.1.1, k1.1.2.1⟩
  obtain ⟨b1, ⟨cm, b2, b3, b4, b5⟩, ⟨bm, b6, b7, b8⟩, ⟨sz, b9, b10, b11⟩, ⟨sd, b12, b13⟩⟩ := id hA
  have c9 := (c_X9_write l G b ra s em i eo es tc nk d2 tx rt rn cd su bk co mo m0 m1 kp 0 0 bm p x k1 k2 b6 b7).dR nR rg
  have c10 := c_X10_write l G a i j t r n d ps im kp tx cd bk py pt mt 0 0 bm p x h2.1 b6 b7
  have e9 : ¬ okWr tc bm p x := z_wr z2
  have e : ¬ okWr t bm p x := z_wr z1
  simp only [if_neg e9] at c9
  simp only [if_neg e] at c10
  exact two_EE c9.toE c10.toE ((z_wrR z2).trans (z_wrR z1).symm) (fun _ => rfl) ⟨_, rfl⟩ (fun _ _ => ⟨_, wQ_rf _, LI_0 hA hZ hN hK hI⟩)
set_option maxRecDepth 100000 in
theorem two0_keep (hnR : nR = 30) (hA : IvA i tx cd bk s) (hZ : IvZ i t tc eo) (hN : zR t n) (hK : zC t nk) (hI : Imgz t im kp m0 m1 eo) (x : Int32) : Two l yX9_keep wsX9_keep ({ frames := 2, cells := 0, slots := 0, locals := 42 } : Room) yX10_keep wsX10_keep ({ frames := 1, cells := 0, slots := 0, locals := 25 } : Room) G a b (LI G a b ra nR) (mW G a i j t r n d ps im kp tx cd bk py pt mt ++ dR G b ra nR s em i eo es tc nk d2 tx rt rn cd su bk co mo m0 m1 kp rg) [.int x] := by
  obtain ⟨h1, h2, h3, h4, ⟨od, h5, h6⟩, h7⟩ := id hZ
  have k1 := okT_t h1 h2
  have k2 := okS_t h1 hK.1
  have z1 : nob t := ⟨h3, h2.1.1, h2.1.2.1⟩
  have z2 : nob tc := ⟨(h1.1 0 (by omega)).trans h3, k1.1.1, k1.1.2.1⟩
  obtain ⟨b1, ⟨cm, b2, b3, b4, b5⟩, ⟨bm, b6, b7, b8⟩, ⟨sz, b9, b10, b11⟩, ⟨sd, b12, b13⟩⟩ := id hA
  have c9 := (c_X9_keep l G b ra s em i eo es tc nk d2 tx rt rn cd su bk co mo m0 m1 kp x).dR nR rg
  have c10 := c_X10_keep l G a i j t r n d ps im kp tx cd bk py pt mt x
  by_cases e0 : x = 0
  · subst e0
    simp only [if_pos (show inB (0 : Int32) 0 1 from by decide), if_pos (show (0 : Int32) = 0 from rfl), if_true, if_neg (show ¬ (0 : Int32) = 1 from by decide), cl_0] at c9 c10
    exact two_EE c9.toE c10.toE rfl (fun _ => dR_f.trans dR_f.symm) ⟨_, rfl⟩ (fun _ _ => ⟨_, wQ_rf _, LI_0 (IvA_5 hA _) (IvZ_keep hZ (upd_ne (by decide))) hN hK (Imgz_k0 hA hN hK hI)⟩)
  by_cases e1 : x = 1
  · subst e1
    simp only [if_pos (show inB (1 : Int32) 0 1 from by decide), if_pos (show (1 : Int32) = 1 from rfl), if_true, if_neg (show ¬ (1 : Int32) = 0 from by decide), cl_1] at c9 c10
    exact two_EE c9.toE c10.toE rfl (fun _ => dR_f.trans dR_f.symm) ⟨_, rfl⟩ (fun _ _ => ⟨_, wQ_rf _, LI_0 (IvA_5 hA _) (IvZ_keep hZ (upd_ne (by decide))) hN hK (Imgz_k1 hA hN hK hI)⟩)
  · have e : ¬ inB x 0 1 := no01 e0 e1
    simp only [if_neg e, if_neg e0, if_neg e1] at c9 c10
    exact two_EE c9.toE c10.toE rfl (fun _ => rfl) ⟨_, rfl⟩ (fun _ _ => ⟨_, wQ_rf _, LI_0 hA hZ hN hK hI⟩)
set_option maxRecDepth 100000 in
theorem two0_goBack (hnR : nR = 30) (hA : IvA i tx cd bk s) (hZ : IvZ i t tc eo) (hN : zR t n) (hK : zC t nk) (hI : Imgz t im kp m0 m1 eo) (x : Int32) : Two l yX9_goBack wsX9_goBack ({ frames := 2, cells := 0, slots := 0, locals := 42 } : Room) yX10_goBack wsX10_goBack ({ frames := 1, cells := 0, slots := 0, locals := 25 } : Room) G a b (LI G a b ra nR) (mW G a i j t r n d ps im kp tx cd bk py pt mt ++ dR G b ra nR s em i eo es tc nk d2 tx rt rn cd su bk co mo m0 m1 kp rg) [.int x] := by
  obtain ⟨h1, h2, h3, h4, ⟨od, h5, h6⟩, h7⟩ := id hZ
  have k1 := okT_t h1 h2
  have k2 := okS_t h1 hK.1
  have z1 : nob t := ⟨h3, h2.1.1, h2.1.2.1⟩
  have z2 : nob tc := ⟨(h1.1 0 (by omega)).trans h3, k1.1.1, k1.1.2.1⟩
  obtain ⟨b1, ⟨cm, b2, b3, b4, b5⟩, ⟨bm, b6, b7, b8⟩, ⟨sz, b9, b10, b11⟩, ⟨sd, b12, b13⟩⟩ := id hA
  have c9 := (c_X9_goBack l G b ra s em i eo es tc nk d2 tx rt rn cd su bk co mo m0 m1 kp x).dR nR rg
  have c10 := c_X10_goBack l G a i j t r n d ps im kp tx cd bk py pt mt x
  by_cases e : okGb kp x
  · by_cases e0 : x = 0
    · subst e0
      simp only [if_pos e, if_pos (show (0 : Int32) = 0 from rfl), if_true] at c9
      simp only [if_pos e] at c10
      rw [cl_0] at c10
      obtain ⟨q1, q2, q3, q4⟩ := hI.1.resolve_left e.2
      rw [q3] at c9
      exact two_EE c9.toE c10.toE rfl (fun _ => dR_f.trans dR_f.symm) ⟨_, rfl⟩ (fun _ _ => ⟨_, wQ_rf _, LI_0 (IvA_5 (IvA_8 hA q4) _) (IvZ_gb hZ) (gb_z0 q2) q1 hI⟩)
    · have e1 : x = 1 := is1 e.1 e0
      subst e1
      simp only [if_pos e, if_neg e0] at c9
      simp only [if_pos e] at c10
      rw [cl_1] at c10
      obtain ⟨q1, q2, q3, q4⟩ := hI.2.resolve_left e.2
      rw [q3] at c9
      exact two_EE c9.toE c10.toE rfl (fun _ => dR_f.trans dR_f.symm) ⟨_, rfl⟩ (fun _ _ => ⟨_, wQ_rf _, LI_0 (IvA_5 (IvA_8 hA q4) _) (IvZ_gb hZ) (gb_z1 q2) q1 hI⟩)
  · simp only [if_neg e] at c9 c10
    exact two_EE c9.toE c10.toE rfl (fun _ => rfl) ⟨_, rfl⟩ (fun _ _ => ⟨_, wQ_rf _, LI_0 hA hZ hN hK hI⟩)
set_option maxRecDepth 100000 in
theorem two0_card (hnR : nR = 30) (hA : IvA i tx cd bk s) (hZ : IvZ i t tc eo) (hN : zR t n) (hK : zC t nk) (hI : Imgz t im kp m0 m1 eo) (p c q : Int32) (v : Prop) [Decidable v] : Two l yX9_card wsX9_card ({ frames := 2, cells := 0, slots := 0, locals := 43 } : Room) yX10_card wsX10_card ({ frames := 2, cells := 0, slots := 0, locals := 46 } : Room) G a b (LI G a b ra nR) (mW G a i j t r n d ps im kp tx cd bk py pt mt ++ dR G b ra nR s em i eo es tc nk d2 tx rt rn cd su bk co mo m0 m1 kp rg) [.int p, .int c, .int q, .int (bI v)] := by
  obtain ⟨h1, h2, h3, h4, ⟨od, h5, h6⟩, h7⟩ := id hZ
  have k1 := okT_t h1 h2
  have k2 := okS_t h1 hK.1
  have z1 : nob t := ⟨h3, h2.1.1, h2.1.2.1⟩
  have z2 : nob tc := ⟨(h1.1 0 (by omega)).trans h3, k1.1.1, k1.1.2.1⟩
  obtain ⟨b1, ⟨cm, b2, b3, b4, b5⟩, ⟨bm, b6, b7, b8⟩, ⟨sz, b9, b10, b11⟩, ⟨sd, b12, b13⟩⟩ := id hA
  have c9 := (c_X9_card l G b ra s em i eo es tc nk d2 tx rt rn cd su bk co mo m0 m1 kp 0 0 cm p c q v k1 k2 b2 b3).dR nR rg
  have c10 := c_X10_card l G a i j t r n d ps im kp tx cd bk py pt mt 0 0 cm p c q v h2.1 b2 b3
  have e9 : ¬ okCd tc cm p c q := z_ca z2
  have e : ¬ okCd t cm p c q := z_ca z1
  simp only [if_neg e9] at c9
  simp only [if_neg e] at c10
  exact two_EE c9.toE c10.toE ((z_caR z2).trans (z_caR z1).symm) (fun _ => rfl) ⟨_, rfl⟩ (fun _ _ => ⟨_, wQ_rf _, LI_0 hA hZ hN hK hI⟩)
end L0
