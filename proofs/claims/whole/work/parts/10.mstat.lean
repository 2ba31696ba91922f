def eW (_ : gG) : va_W := []
def mW (G : gG) (a : Nat → Nat) (i j t r n d ps im kp tx cd bk py pt mt : Nat → Int32) : va_W := [(a 0, oA 10 [.ref (a 1), .ref (a 2), .ref (a 3), .ref (a 4), .ref (a 5), .int (i 5), .ref (a 6), .ref (a 7), .long (i 8).toInt64, .ref (a 8), .int (i 10), .int (i 11), .ref (a 9), .int (i 13), .ref (a 10), .int (i 15), .int (j 16), .int (j 17), .int (j 18), .int (j 19), .int (j 20), .int (j 21), .ref (a 11), .ref (a 12), .ref (a 13)]), (a 1, iA G 54 t), (a 2, iA G 54 r), (a 3, iA G 54 n), (a 4, iA G 54 d), (a 5, iA G 1620 ps), (a 6, iA G 110 im), (a 7, zA G 2 kp), (a 8, iA G 240 tx), (a 9, iA G 24 cd), (a 10, iA G 40 bk), (a 11, iA G 1000 py), (a 12, iA G 1000 pt), (a 13, iA G 8 mt)]
theorem mW_f {G : gG} {a : Nat → Nat} {i j t r n d ps im kp tx cd bk py pt mt : Nat → Int32} : (mW G a i j t r n d ps im kp tx cd bk py pt mt).map Prod.fst = [a 0, a 1, a 2, a 3, a 4, a 5, a 6, a 7, a 8, a 9, a 10, a 11, a 12, a 13] := rfl
def tw (t : Nat → Int32) (nc np : Nat) : Prop := t 3 = nI nc ∧ t 4 = nI np ∧ nc ≤ 4 ∧ np ≤ 8
theorem hd_X10_in : yX10_in.cls ≠ "java/lang/invoke/MethodHandle" ∧ yX10_in.cls ≠ "java/lang/invoke/VarHandle" ∧ (parseMethodDescriptor yX10_in.desc).map (fun d => d.parameters.length) = some 3 := by decide +kernel
set_option maxRecDepth 100000 in
set_option maxHeartbeats 4000000 in
theorem c_X10_in (l : Launch) (G : gG) (v : Int32) (vL : Int64) (hvL : vL = v.toInt64) (lo : Int32) (loL : Int64) (hloL : loL = lo.toInt64) (hi : Int32) (hiL : Int64) (hhiL : hiL = hi.toInt64) : mR l yX10_in wsX10_in ({ frames := 0, cells := 0, slots := 0, locals := 0 }) G (eW G  ) [.long vL, .long loL, .long hiL] (bI (inB v lo hi)) := by
  refine mR.of (cc := cX10_in) (maxL := 6) (ret := (some .boolean)) (by decide) rfl (Nat.le_of_ble_eq_true rfl) ?_
  intro zp ze zs zm zb zt zc ls C hP hK hl
  obtain ⟨hx, hb, hr, hml, hown, hts, hlk⟩ := id C
  have hl : lv_has ls 6 [(0, .long vL), (2, .long loL), (4, .long hiL)] := hl
  refine lv_lload_n hx hb dX10_in_0 rfl (lv_at hl 0 rfl) ?_
  refine lv_lload_n hx hb dX10_in_1 rfl (lv_at hl 1 rfl) ?_
  refine W.lcmp hx hb dX10_in_2 ?_
  refine lv_if_lt (tgt := 17) hx hb dX10_in_3 (by decide) (fun cq1 => ?_) (fun cq1 => ?_)
  · skip
    refine lv_iconst (v := 0) hx hb dX10_in_17 (by decide) ?_
    exact mR_zret C dX10_in_18 (by decide) (by subst hvL hloL hhiL; rw [lg_cmp_lt, i64_lt] at cq1; exact (bI_f (fun h => i32_nle.mpr cq1 h.1)).symm)
  · skip
    refine lv_lload_n hx hb dX10_in_6 rfl (lv_at hl 0 rfl) ?_
    refine lv_lload hx hb dX10_in_7 (lv_at hl 2 rfl) ?_
    refine W.lcmp hx hb dX10_in_9 ?_
    refine lv_if_gt (tgt := 17) hx hb dX10_in_10 (by decide) (fun cq2 => ?_) (fun cq2 => ?_)
    · skip
      refine lv_iconst (v := 0) hx hb dX10_in_17 (by decide) ?_
      exact mR_zret C dX10_in_18 (by decide) (by subst hvL hloL hhiL; rw [lg_cmp_gt, i64_lt] at cq2; exact (bI_f (fun h => i32_nle.mpr cq2 h.2)).symm)
    · skip
      refine lv_iconst (v := 1) hx hb dX10_in_13 (by decide) ?_
      refine lv_goto (tgt := 18) hx hb dX10_in_14 (by decide) ?_
      exact mR_zret C dX10_in_18 (by decide) (by subst hvL hloL hhiL; rw [lg_cmp_lt, i64_lt] at cq1; rw [lg_cmp_gt, i64_lt] at cq2; exact (bI_t ⟨i32_nlt.mp cq1, i32_nlt.mp cq2⟩).symm)
theorem hd_X10_has : yX10_has.cls ≠ "java/lang/invoke/MethodHandle" ∧ yX10_has.cls ≠ "java/lang/invoke/VarHandle" ∧ (parseMethodDescriptor yX10_has.desc).map (fun d => d.parameters.length) = some 2 := by decide +kernel
set_option maxRecDepth 100000 in
set_option maxHeartbeats 4000000 in
theorem c_X10_has (l : Launch) (G : gG) (st : Int32) (c : Nat) : mR l yX10_has wsX10_has ({ frames := 0, cells := 0, slots := 0, locals := 0 }) G (eW G  ) [.int st, .int (nI c)] (bI (hasB st c)) := by
  refine mR.of (cc := cX10_has) (maxL := 2) (ret := (some .boolean)) (by decide) rfl (Nat.le_of_ble_eq_true rfl) ?_
  intro zp ze zs zm zb zt zc ls C hP hK hl
  obtain ⟨hx, hb, hr, hml, hown, hts, hlk⟩ := id C
  have hl : lv_has ls 2 [(0, .int st), (1, .int (nI c))] := hl
  refine lv_iload_n hx hb dX10_has_0 rfl (lv_at hl 0 rfl) ?_
  refine lv_iload_n hx hb dX10_has_1 rfl (lv_at hl 1 rfl) ?_
  refine lv_ishr hx hb dX10_has_2 ?_
  refine lv_iconst (v := 1) hx hb dX10_has_3 (by decide) ?_
  refine lv_iand hx hb dX10_has_4 ?_
  refine lv_iconst (v := 1) hx hb dX10_has_5 (by decide) ?_
  refine lv_icmp_ne (tgt := 13) hx hb dX10_has_6 (by decide) (fun cq1 => ?_) (fun cq1 => ?_)
  · skip
    refine lv_iconst (v := 0) hx hb dX10_has_13 (by decide) ?_
    exact mR_zret C dX10_has_14 (by decide) (by simp [bI, hasB, cq1])
  · skip
    refine lv_iconst (v := 1) hx hb dX10_has_9 (by decide) ?_
    refine lv_goto (tgt := 14) hx hb dX10_has_10 (by decide) ?_
    exact mR_zret C dX10_has_14 (by decide) (by simp [bI, hasB, cq1])
theorem hd_X10_lesser : yX10_lesser.cls ≠ "java/lang/invoke/MethodHandle" ∧ yX10_lesser.cls ≠ "java/lang/invoke/VarHandle" ∧ (parseMethodDescriptor yX10_lesser.desc).map (fun d => d.parameters.length) = some 2 := by decide +kernel
set_option maxRecDepth 100000 in
set_option maxHeartbeats 4000000 in
theorem c_X10_lesser (l : Launch) (G : gG) (v : Int32) (w : Int32) : mR l yX10_lesser wsX10_lesser ({ frames := 0, cells := 0, slots := 0, locals := 0 }) G (eW G  ) [.int v, .int w] (lessI v w) := by
  refine mR.of (cc := cX10_lesser) (maxL := 2) (ret := (some .int)) (by decide) rfl (Nat.le_of_ble_eq_true rfl) ?_
  intro zp ze zs zm zb zt zc ls C hP hK hl
  obtain ⟨hx, hb, hr, hml, hown, hts, hlk⟩ := id C
  have hl : lv_has ls 2 [(0, .int v), (1, .int w)] := hl
  refine lv_iload_n hx hb dX10_lesser_0 rfl (lv_at hl 0 rfl) ?_
  refine lv_iload_n hx hb dX10_lesser_1 rfl (lv_at hl 1 rfl) ?_
  refine lv_icmp_ge (tgt := 9) hx hb dX10_lesser_2 (by decide) (fun cq1 => ?_) (fun cq1 => ?_)
  · skip
    refine lv_iload_n hx hb dX10_lesser_9 rfl (lv_at hl 1 rfl) ?_
    exact mR_iret C dX10_lesser_10 (by simp [lessI, cq1, (i32_nlt.mpr cq1)])
  · skip
    refine lv_iload_n hx hb dX10_lesser_5 rfl (lv_at hl 0 rfl) ?_
    refine lv_goto (tgt := 10) hx hb dX10_lesser_6 (by decide) ?_
    exact mR_iret C dX10_lesser_10 (by simp [lessI, cq1, (i32_nle.mp cq1)])
