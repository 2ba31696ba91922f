section LLOOP
variable {p : Program} {l : Launch} {e : Env} {s : State} {m : MethodId} {below : List Frame} {meth : Method} {c : Code} {G : gG} {a b : Nat → Nat} {ra : Nat → Nat → Nat} {nR q L : Nat} {xs : Nat → Int32}
theorem and31 (x : Int32) : ∃ j : Nat, j < 32 ∧ x &&& 31 = nI j := by
  refine ⟨(x &&& 31).toBitVec.toNat, ?_, ?_⟩
  · rw [Int32.toBitVec_and, BitVec.toNat_and]
    exact Nat.lt_of_le_of_lt Nat.and_le_right (by decide)
  · apply Int32.toBitVec_inj.mp
    show (x &&& 31).toBitVec = BitVec.ofNat 32 (x &&& 31).toBitVec.toNat
    rw [BitVec.ofNat_toNat, BitVec.setWidth_eq]
def lawT : List Nat := [176, 199, 212, 225, 248, 281, 314, 347, 380, 423, 466, 489, 522, 545, 568, 591, 624, 667, 720, 743, 756, 779, 812, 845, 914, 957, 990, 1023, 1036, 1049, 1072, 1095]
theorem lawT_ok : ∀ j, j < 32 → (#[144, 167, 180, 193, 216, 249, 282, 315, 348, 391, 434, 457, 490, 513, 536, 559, 592, 635, 688, 711, 724, 747, 780, 813, 882, 925, 958, 991, 1004, 1017, 1040, 1063] : Array Int)[((nI j).toInt - 0).toNat]? = some ((lawT.getD j 0 : Int) - 32) := by decide +kernel
theorem law_more {i : Nat} (hL : L ≤ 2560) (hi : i < 2147483648) (h : ¬ Int32.ofNat L - 5 < nI i) : i + 5 ≤ L := by
  by_cases h5 : 5 ≤ L
  · have e : Int32.ofNat L - 5 = nI (L - 5) := pk_sub (a := L) (b := 5) h5
    rw [e, nI_ltI (by omega) (by omega)] at h
    omega
  · exfalso
    apply h
    have hn : Int32.ofNat L - 5 < 0 := by
      rcases (show L = 0 ∨ L = 1 ∨ L = 2 ∨ L = 3 ∨ L = 4 by omega) with rfl | rfl | rfl | rfl | rfl <;> decide
    have hp : ¬ nI i < 0 := nI_pos (by omega)
    rw [Int32.lt_iff_toInt_lt] at hn hp ⊢
    omega
set_option maxRecDepth 100000 in
theorem law_loop (hL : L ≤ 2560) (C0 : lw_At p s m meth c q L xs) (hnR : nR = 30) (hK : va_K G.1 vwCl (tyS G) s) : ∀ (n i : Nat), L < i + n → i ≤ L + 5 → ∀ (w : va_W) (H : Heap) (locs : List Loc) (ls : Array Slot), LI G a b ra nR w → va_P G.1 vwCl w H → va_D (fun z : Nat => s.heap.size ≤ z) w → va_S (fun z : Nat => s.heap.size ≤ z) s.heap H locs → lv_has ls 4 [(3, .int (nI i)), (0, .ref q), (1, .ref (b 0)), (2, .ref (a 0))] → W p l e room_1 s m #[Value.ref q] below meth c H locs 600000 7302249 (lw_Z below #[Value.ref q] s) (F0 m 18 ls []) := by
  obtain ⟨hx, hb, hr, hml, hown, hts, hX, hbl, hlocks, hgv⟩ := id C0
  have C : mCtx p s m [.ref q] meth c code 4 ret RL wsL_law := ⟨hx, hb, hr, hml, hown, fun w h => hts w (wsL_law_in w h), hlocks⟩
  have hbA : ¬ (fun z : Nat => s.heap.size ≤ z) q := Nat.not_le.mpr hbl
  have hend : ∀ (H : Heap) (locs : List Loc) (ls : Array Slot), va_S (fun z : Nat => s.heap.size ≤ z) s.heap H locs → W p l e room_1 s m #[Value.ref q] below meth c H locs 600000 7302249 (lw_Z below #[Value.ref q] s) (F0 m 1124 ls []) := by
    intro H locs ls hS
    refine lv_iconst (v := 1) hx hb dL_law_1124 (by decide) ?_
    refine va_forget (fun z hz => hS.2.2 z hz) ?_
    exact lw_ret hx hb hr hlocks dL_law_1125
  intro n
  induction n with
  | zero =>
    intro i h1 h2 w H locs ls hw hP hD hS hl
    refine lv_iload_n hx hb dL_law_18 rfl (lv_at hl 0 rfl) ?_
    refine lv_aload_n hx hb dL_law_19 rfl (lv_at hl 1 rfl) ?_
    refine va_slen hx hb hX hbl hbA hS dL_law_20 ?_
    refine lv_iconst (v := 5) hx hb dL_law_21 (by decide) ?_
    refine lv_isub hx hb dL_law_22 ?_
    refine lv_icmp_gt (tgt := 1124) hx hb dL_law_23 (by decide) (fun _ => hend H locs ls hS) (fun h => ?_)
    have := law_more hL (by omega) h
    omega
  | succ n ih =>
    intro i h1 h2 w H locs ls hw hP hD hS hl
    refine lv_iload_n hx hb dL_law_18 rfl (lv_at hl 0 rfl) ?_
    refine lv_aload_n hx hb dL_law_19 rfl (lv_at hl 1 rfl) ?_
    refine va_slen hx hb hX hbl hbA hS dL_law_20 ?_
    refine lv_iconst (v := 5) hx hb dL_law_21 (by decide) ?_
    refine lv_isub hx hb dL_law_22 ?_
    refine lv_icmp_gt (tgt := 1124) hx hb dL_law_23 (by decide) (fun _ => hend H locs ls hS) (fun h => ?_)
    have hi := law_more hL (by omega) h
    refine lv_aload_n hx hb dL_law_26 rfl (lv_at hl 1 rfl) ?_
    refine lv_iload_n hx hb dL_law_27 rfl (lv_at hl 0 rfl) ?_
    refine va_sld hx hb hX hbl hbA hS (vp_in_nI (n := i) (N := L) (by omega) (by omega)) dL_law_28 ?_
    refine lv_bipush (v := 31) hx hb dL_law_29 (by decide) ?_
    refine lv_iand hx hb dL_law_31 ?_
    obtain ⟨j, hj, ej⟩ := and31 (xs (nI i).toNatClampNeg)
    rw [ej]
    have hjn : (nI j).toInt = (j : Int) := nI_toInt (by omega)
    have kt : ∀ (w2 : va_W) (H2 : Heap) (locs2 : List Loc), LI G a b ra nR w2 → va_P G.1 vwCl w2 H2 → va_D (fun z : Nat => s.heap.size ≤ z) w2 → va_S (fun z : Nat => s.heap.size ≤ z) s.heap H2 locs2 → W p l e room_1 s m #[Value.ref q] below meth c H2 locs2 600000 7302249 (lw_Z below #[Value.ref q] s) (F0 m 1118 ls []) := by
      intro w2 H2 locs2 hw hP hD hS
      refine lv_iinc (v := nI (i + 5)) (lv' := [(3, .int (nI (i + 5))), (0, .ref q), (1, .ref (b 0)), (2, .ref (a 0))]) hx hb dL_law_1118 hl (k := 0) rfl (nI_add i 5) (by decide) rfl (fun ls hl => ?_)
      refine lv_goto (tgt := 18) hx hb dL_law_1121 (by decide) ?_
      exact ih (i + 5) (by omega) (by omega) w2 H2 locs2 ls hw hP hD hS hl
    refine lv_tableIn (tgt := lawT.getD j 0) hx hb dL_law_32 (by rw [hjn]; omega) (by rw [hjn]; omega) (lawT_ok j hj) (by omega) ?_
    match j, hj with
    | 0, _ => exact law_0 C hl hK hX hbl hbA hL hi hnR hw hP hD hS kt
    | 1, _ => exact law_1 C hl hK hX hbl hbA hL hi hnR hw hP hD hS kt
    | 2, _ => exact law_2 C hl hK hX hbl hbA hL hi hnR hw hP hD hS kt
    | 3, _ => exact law_3 C hl hK hX hbl hbA hL hi hnR hw hP hD hS kt
    | 4, _ => exact law_4 C hl hK hX hbl hbA hL hi hnR hw hP hD hS kt
    | 5, _ => exact law_5 C hl hK hX hbl hbA hL hi hnR hw hP hD hS kt
    | 6, _ => exact law_6 C hl hK hX hbl hbA hL hi hnR hw hP hD hS kt
    | 7, _ => exact law_7 C hl hK hX hbl hbA hL hi hnR hw hP hD hS kt
    | 8, _ => exact law_8 C hl hK hX hbl hbA hL hi hnR hw hP hD hS kt
    | 9, _ => exact law_9 C hl hK hX hbl hbA hL hi hnR hw hP hD hS kt
    | 10, _ => exact law_10 C hl hK hX hbl hbA hL hi hnR hw hP hD hS kt
    | 11, _ => exact law_11 C hl hK hX hbl hbA hL hi hnR hw hP hD hS kt
    | 12, _ => exact law_12 C hl hK hX hbl hbA hL hi hnR hw hP hD hS kt
    | 13, _ => exact law_13 C hl hK hX hbl hbA hL hi hnR hw hP hD hS kt
    | 14, _ => exact law_14 C hl hK hX hbl hbA hL hi hnR hw hP hD hS kt
    | 15, _ => exact law_15 C hl hK hX hbl hbA hL hi hnR hw hP hD hS kt
    | 16, _ => exact law_16 C hl hK hX hbl hbA hL hi hnR hw hP hD hS kt
    | 17, _ => exact law_17 C hl hK hX hbl hbA hL hi hnR hw hP hD hS kt
    | 18, _ => exact law_18 C hl hK hX hbl hbA hL hi hnR hw hP hD hS kt
    | 19, _ => exact law_19 C hl hK hX hbl hbA hL hi hnR hw hP hD hS kt
    | 20, _ => exact law_20 C hl hK hX hbl hbA hL hi hnR hw hP hD hS kt
    | 21, _ => exact law_21 C hl hK hX hbl hbA hL hi hnR hw hP hD hS kt
    | 22, _ => exact law_22 C hl hK hX hbl hbA hL hi hnR hw hP hD hS kt
    | 23, _ => exact law_23 C hl hK hX hbl hbA hL hi hnR hw hP hD hS kt
    | 24, _ => exact law_24 C hl hK hX hbl hbA hL hi hnR hw hP hD hS kt
    | 25, _ => exact law_25 C hl hK hX hbl hbA hL hi hnR hw hP hD hS kt
    | 26, _ => exact law_26 C hl hK hX hbl hbA hL hi hnR hw hP hD hS kt
    | 27, _ => exact law_27 C hl hK hX hbl hbA hL hi hnR hw hP hD hS kt
    | 28, _ => exact law_28 C hl hK hX hbl hbA hL hi hnR hw hP hD hS kt
    | 29, _ => exact law_29 C hl hK hX hbl hbA hL hi hnR hw hP hD hS kt
    | 30, _ => exact law_30 C hl hK hX hbl hbA hL hi hnR hw hP hD hS kt
    | 31, _ => exact law_31 C hl hK hX hbl hbA hL hi hnR hw hP hD hS kt
    | j + 32, hj => exact absurd hj (by omega)
end LLOOP
