set_option maxHeartbeats 4000000 in
set_option maxRecDepth 100000 in
theorem whole_start {p : Program} {e : Env} {s : State} {m : MethodId} {below : List Frame} {meth : Method} {c : Code} (l : Launch) {b L : Nat} {xs : Nat → Int32} (hL : L ≤ 2560) (C0 : lw_At p s m meth c b L xs) : W p l e room_1 s m #[Value.ref b] below meth c s.heap [] 0 0 (lw_Z below #[Value.ref b] s) (entryFrame m ([Value.ref b] : List Value).toArray 4) := by
  obtain ⟨hx, hb, hr, hml, hown, hts, hX, hbl, hlocks, hgv⟩ := id C0
  have hts2 : ∀ w ∈ wsL_law, w.before #[Value.ref b] s = true := fun w h => hts w (wsL_law_in w h)
  have C : mCtx p s m [.ref b] meth c code 4 ret RL wsL_law := ⟨hx, hb, hr, hml, hown, hts2, hlocks⟩
  have hA : ∀ z : Nat, s.heap.size ≤ z → (fun z : Nat => s.heap.size ≤ z) z := fun _ h => h
  obtain ⟨G, hK⟩ := all_K hts
  have hO : mkO s := all_O hts
  obtain ⟨nR, hnR⟩ : ∃ z : Nat, z = 30 := ⟨_, rfl⟩
  have hS : va_S (fun z : Nat => s.heap.size ≤ z) s.heap s.heap [] := va_S.rf
  have hP : va_P G.1 vwCl [] s.heap := fun k q h => by simp at h
  have hD : va_D (fun z : Nat => s.heap.size ≤ z) [] := ⟨fun i j p q h => by simp at h, fun k q h => by simp at h⟩
  have hl := lv_entry ([.ref b]) (n := 4) (Nat.le_of_ble_eq_true rfl)
  rw [lg_entry_eq]
  generalize (lg_sl ([.ref b]) ++ List.replicate (4 - (lg_sl ([.ref b])).length) Slot.unset).toArray = ls at hl ⊢
  have hl : lv_has ls 4 [(0, .ref b)] := hl
  refine va_new (D := G.1) (ci := 9) (fs := [.null, .null, .null, .null, .null, .null, .null, .null, .null, .null, .int 0]) (C := RX9) (T := TX9) (N := 11) hx hb hts2 inlX9 tyX9 tyX9_ok hown (hts2 (.classLink RL 7 RX9) (by decide +kernel)) (hts2 (.instantiable RX9 11) (by decide +kernel)) (hts2 (.initialized RX9) (by decide +kernel)) hK hP hD hS hA rfl (fun j hj => match j, hj with | 0, _ => rfl | 1, _ => rfl | 2, _ => rfl | 3, _ => rfl | 4, _ => rfl | 5, _ => rfl | 6, _ => rfl | 7, _ => rfl | 8, _ => rfl | 9, _ => rfl | 10, _ => rfl | j + 11, h => absurd h (by omega)) (Nat.le_of_ble_eq_true rfl) (Nat.le_of_ble_eq_true rfl) dL_law_0 (fun b9 H hP hD hS => ?_)
  refine lv_dup hx hb dL_law_3 rfl ?_
  refine n_ctor (X := []) (As := []) (rest := [.ref b9]) C (c_X9_init l G nR hnR H.size b9) gL_law_X9_init rfl ⟨rfl, rfl⟩ (by decide +kernel) (by decide +kernel) (by decide +kernel) rfl (n := 0) (by decide +kernel) ⟨Nat.le_of_ble_eq_true rfl, Nat.le_of_ble_eq_true rfl⟩ hO hK hP hD hS hA rfl hl.1 rfl (Nat.le_of_ble_eq_true rfl) dL_law_4 ⟨Nat.le_of_ble_eq_true rfl, Nat.le_of_ble_eq_true rfl⟩ (fun q9 H locs hP hD hS => ?_)
  have hP : va_P G.1 vwCl (dR G (aX b9 q9) (fun j i => q9 (5 * j + i + 54)) nR (0, 0, -1) 0 (fun _ => 0) (fun _ => 0) (fun _ => 0) (fun _ => 0) (fun _ => 0) (fun _ => 0) (fun _ => 0) (fun _ => 0) (fun _ => 0) (fun _ => 0) (fun _ => 0) (fun _ => 0) (fun _ => 0) (fun _ => 0) (fun _ => 0) (fun _ => 0) (fun _ => 0) (fun _ _ => 0)) H := hP
  have hD : va_D (fun z : Nat => s.heap.size ≤ z) (dR G (aX b9 q9) (fun j i => q9 (5 * j + i + 54)) nR (0, 0, -1) 0 (fun _ => 0) (fun _ => 0) (fun _ => 0) (fun _ => 0) (fun _ => 0) (fun _ => 0) (fun _ => 0) (fun _ => 0) (fun _ => 0) (fun _ => 0) (fun _ => 0) (fun _ => 0) (fun _ => 0) (fun _ => 0) (fun _ => 0) (fun _ => 0) (fun _ => 0) (fun _ _ => 0)) := hD
  refine lv_astore_n (lv' := [(1, .ref b9), (0, .ref b)]) hx hb dL_law_7 rfl hl (by decide) rfl (fun ls hl => ?_)
  generalize hX9 : dR G (aX b9 q9) (fun j i => q9 (5 * j + i + 54)) nR (0, 0, -1) 0 (fun _ => 0) (fun _ => 0) (fun _ => 0) (fun _ => 0) (fun _ => 0) (fun _ => 0) (fun _ => 0) (fun _ => 0) (fun _ => 0) (fun _ => 0) (fun _ => 0) (fun _ => 0) (fun _ => 0) (fun _ => 0) (fun _ => 0) (fun _ => 0) (fun _ => 0) (fun _ _ => 0) = X9 at hP hD
  refine va_new (D := G.1) (ci := 10) (fs := [.null, .null, .null, .null, .null, .int 0, .null, .null, .long 0, .null, .int 0, .int 0, .null, .int 0, .null, .int 0, .int 0, .int 0, .int 0, .int 0, .int 0, .int 0, .null, .null, .null]) (C := RX10) (T := TX10) (N := 25) hx hb hts2 inlX10 tyX10 tyX10_ok hown (hts2 (.classLink RL 10 RX10) (by decide +kernel)) (hts2 (.instantiable RX10 25) (by decide +kernel)) (hts2 (.initialized RX10) (by decide +kernel)) hK hP hD hS hA rfl (fun j hj => match j, hj with | 0, _ => rfl | 1, _ => rfl | 2, _ => rfl | 3, _ => rfl | 4, _ => rfl | 5, _ => rfl | 6, _ => rfl | 7, _ => rfl | 8, _ => rfl | 9, _ => rfl | 10, _ => rfl | 11, _ => rfl | 12, _ => rfl | 13, _ => rfl | 14, _ => rfl | 15, _ => rfl | 16, _ => rfl | 17, _ => rfl | 18, _ => rfl | 19, _ => rfl | 20, _ => rfl | 21, _ => rfl | 22, _ => rfl | 23, _ => rfl | 24, _ => rfl | j + 25, h => absurd h (by omega)) (Nat.le_of_ble_eq_true rfl) (Nat.le_of_ble_eq_true rfl) dL_law_8 (fun b10 H hP hD hS => ?_)
  refine lv_dup hx hb dL_law_11 rfl ?_
  refine n_ctor (X := X9) (As := []) (rest := [.ref b10]) C (c_X10_init l G H.size b10) gL_law_X10_init rfl ⟨rfl, rfl⟩ (by decide +kernel) (by decide +kernel) (by decide +kernel) rfl (n := 0) (by decide +kernel) ⟨Nat.le_of_ble_eq_true rfl, Nat.le_of_ble_eq_true rfl⟩ hO hK hP hD hS hA rfl hl.1 rfl (Nat.le_of_ble_eq_true rfl) dL_law_12 ⟨Nat.le_of_ble_eq_true rfl, Nat.le_of_ble_eq_true rfl⟩ (fun q10 H locs hP hD hS => ?_)
  refine lv_astore_n (lv' := [(2, .ref b10), (1, .ref b9), (0, .ref b)]) hx hb dL_law_15 rfl hl (by decide) rfl (fun ls hl => ?_)
  refine lv_iconst (v := nI 0) hx hb dL_law_16 (by decide) ?_
  refine lv_istore_n (lv' := [(3, .int (nI 0)), (2, .ref b10), (1, .ref b9), (0, .ref b)]) hx hb dL_law_17 rfl hl (by decide) rfl (fun ls hl => ?_)
  refine W.widen (k := 600000) (n := 7302249) (Nat.le_of_ble_eq_true rfl) (Nat.le_of_ble_eq_true rfl) ?_
  have hP := P_swap hP
  have hD := D_swap hD
  rw [← hX9] at hP hD
  exact law_loop (a := aX b10 q10) (b := aX b9 q9) (ra := fun j i => q9 (5 * j + i + 54)) hL C0 hnR hK (L + 1) 0 (by omega) (by omega) _ H locs ls LI_start hP hD hS (lv_sub hl [0, 3, 2, 1] rfl)
