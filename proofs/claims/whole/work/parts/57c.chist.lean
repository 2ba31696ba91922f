theorem hd_J6_bitCount_0f7a4 : yJ6_bitCount_0f7a4.cls ≠ "java/lang/invoke/MethodHandle" ∧ yJ6_bitCount_0f7a4.cls ≠ "java/lang/invoke/VarHandle" ∧ (parseMethodDescriptor yJ6_bitCount_0f7a4.desc).map (fun d => d.parameters.length) = some 1 := by decide +kernel
set_option maxRecDepth 100000 in
set_option maxHeartbeats 4000000 in
theorem c_J6_bitCount_0f7a4 (l : Launch) (G : gG) (k : Nat) (hk : k < 16) : mR l yJ6_bitCount_0f7a4 wsJ6_bitCount_0f7a4 ({ frames := 0, cells := 0, slots := 0, locals := 0 }) G (eW G  ) [.int (nI k)] (popI (nI k)) := by
  refine mR.of (cc := cJ6_bitCount_0f7a4) (maxL := 1) (ret := (some .int)) (by decide) rfl (Nat.le_of_ble_eq_true rfl) ?_
  intro zp ze zs zm zb zt zc ls C hP hK hl
  obtain ⟨hx, hb, hr, hml, hown, hts, hlk⟩ := id C
  have hl : lv_has ls 1 [(0, .int (nI k))] := hl
  have k0 := hts (.constant RJ6 265 (1431655765)) (by decide +kernel)
  have k1 := hts (.constant RJ6 266 (858993459)) (by decide +kernel)
  have k2 := hts (.constant RJ6 267 (252645135)) (by decide +kernel)
  refine lv_iload_n hx hb dJ6_bitCount_0f7a4_0 rfl (lv_at hl 0 rfl) ?_
  refine lv_iload_n hx hb dJ6_bitCount_0f7a4_1 rfl (lv_at hl 0 rfl) ?_
  refine lv_iconst (v := 1) hx hb dJ6_bitCount_0f7a4_2 (by decide) ?_
  refine lv_iushr hx hb dJ6_bitCount_0f7a4_3 rfl ?_
  refine lv_ldcw hx hb hown k0 dJ6_bitCount_0f7a4_4 ?_
  refine lv_iand hx hb dJ6_bitCount_0f7a4_7 ?_
  refine lv_isub hx hb dJ6_bitCount_0f7a4_8 ?_
  refine lv_istore_n (lv' := [(0, .int ((nI k) - ((((Int32.toUInt32 (nI k)) >>> ((Int32.toUInt32 1) &&& Int32.toUInt32 31)).toInt32) &&& 1431655765)))]) hx hb dJ6_bitCount_0f7a4_9 rfl hl (by decide) rfl (fun ls hl => ?_)
  refine lv_iload_n hx hb dJ6_bitCount_0f7a4_10 rfl (lv_at hl 0 rfl) ?_
  refine lv_ldcw hx hb hown k1 dJ6_bitCount_0f7a4_11 ?_
  refine lv_iand hx hb dJ6_bitCount_0f7a4_14 ?_
  refine lv_iload_n hx hb dJ6_bitCount_0f7a4_15 rfl (lv_at hl 0 rfl) ?_
  refine lv_iconst (v := 2) hx hb dJ6_bitCount_0f7a4_16 (by decide) ?_
  refine lv_iushr hx hb dJ6_bitCount_0f7a4_17 rfl ?_
  refine lv_ldcw hx hb hown k1 dJ6_bitCount_0f7a4_18 ?_
  refine lv_iand hx hb dJ6_bitCount_0f7a4_21 ?_
  refine lv_iadd hx hb dJ6_bitCount_0f7a4_22 ?_
  refine lv_istore_n (lv' := [(0, .int ((((nI k) - ((((Int32.toUInt32 (nI k)) >>> ((Int32.toUInt32 1) &&& Int32.toUInt32 31)).toInt32) &&& 1431655765)) &&& 858993459) + ((((Int32.toUInt32 ((nI k) - ((((Int32.toUInt32 (nI k)) >>> ((Int32.toUInt32 1) &&& Int32.toUInt32 31)).toInt32) &&& 1431655765))) >>> ((Int32.toUInt32 2) &&& Int32.toUInt32 31)).toInt32) &&& 858993459)))]) hx hb dJ6_bitCount_0f7a4_23 rfl hl (by decide) rfl (fun ls hl => ?_)
  refine lv_iload_n hx hb dJ6_bitCount_0f7a4_24 rfl (lv_at hl 0 rfl) ?_
  refine lv_iload_n hx hb dJ6_bitCount_0f7a4_25 rfl (lv_at hl 0 rfl) ?_
  refine lv_iconst (v := 4) hx hb dJ6_bitCount_0f7a4_26 (by decide) ?_
  refine lv_iushr hx hb dJ6_bitCount_0f7a4_27 rfl ?_
  refine lv_iadd hx hb dJ6_bitCount_0f7a4_28 ?_
  refine lv_ldcw hx hb hown k2 dJ6_bitCount_0f7a4_29 ?_
  refine lv_iand hx hb dJ6_bitCount_0f7a4_32 ?_
  refine lv_istore_n (lv' := [(0, .int ((((((nI k) - ((((Int32.toUInt32 (nI k)) >>> ((Int32.toUInt32 1) &&& Int32.toUInt32 31)).toInt32) &&& 1431655765)) &&& 858993459) + ((((Int32.toUInt32 ((nI k) - ((((Int32.toUInt32 (nI k)) >>> ((Int32.toUInt32 1) &&& Int32.toUInt32 31)).toInt32) &&& 1431655765))) >>> ((Int32.toUInt32 2) &&& Int32.toUInt32 31)).toInt32) &&& 858993459)) + (((Int32.toUInt32 ((((nI k) - ((((Int32.toUInt32 (nI k)) >>> ((Int32.toUInt32 1) &&& Int32.toUInt32 31)).toInt32) &&& 1431655765)) &&& 858993459) + ((((Int32.toUInt32 ((nI k) - ((((Int32.toUInt32 (nI k)) >>> ((Int32.toUInt32 1) &&& Int32.toUInt32 31)).toInt32) &&& 1431655765))) >>> ((Int32.toUInt32 2) &&& Int32.toUInt32 31)).toInt32) &&& 858993459))) >>> ((Int32.toUInt32 4) &&& Int32.toUInt32 31)).toInt32)) &&& 252645135))]) hx hb dJ6_bitCount_0f7a4_33 rfl hl (by decide) rfl (fun ls hl => ?_)
  refine lv_iload_n hx hb dJ6_bitCount_0f7a4_34 rfl (lv_at hl 0 rfl) ?_
  refine lv_iload_n hx hb dJ6_bitCount_0f7a4_35 rfl (lv_at hl 0 rfl) ?_
  refine lv_bipush (v := 8) hx hb dJ6_bitCount_0f7a4_36 (by decide) ?_
  refine lv_iushr hx hb dJ6_bitCount_0f7a4_38 rfl ?_
  refine lv_iadd hx hb dJ6_bitCount_0f7a4_39 ?_
  refine lv_istore_n (lv' := [(0, .int (((((((nI k) - ((((Int32.toUInt32 (nI k)) >>> ((Int32.toUInt32 1) &&& Int32.toUInt32 31)).toInt32) &&& 1431655765)) &&& 858993459) + ((((Int32.toUInt32 ((nI k) - ((((Int32.toUInt32 (nI k)) >>> ((Int32.toUInt32 1) &&& Int32.toUInt32 31)).toInt32) &&& 1431655765))) >>> ((Int32.toUInt32 2) &&& Int32.toUInt32 31)).toInt32) &&& 858993459)) + (((Int32.toUInt32 ((((nI k) - ((((Int32.toUInt32 (nI k)) >>> ((Int32.toUInt32 1) &&& Int32.toUInt32 31)).toInt32) &&& 1431655765)) &&& 858993459) + ((((Int32.toUInt32 ((nI k) - ((((Int32.toUInt32 (nI k)) >>> ((Int32.toUInt32 1) &&& Int32.toUInt32 31)).toInt32) &&& 1431655765))) >>> ((Int32.toUInt32 2) &&& Int32.toUInt32 31)).toInt32) &&& 858993459))) >>> ((Int32.toUInt32 4) &&& Int32.toUInt32 31)).toInt32)) &&& 252645135) + (((Int32.toUInt32 ((((((nI k) - ((((Int32.toUInt32 (nI k)) >>> ((Int32.toUInt32 1) &&& Int32.toUInt32 31)).toInt32) &&& 1431655765)) &&& 858993459) + ((((Int32.toUInt32 ((nI k) - ((((Int32.toUInt32 (nI k)) >>> ((Int32.toUInt32 1) &&& Int32.toUInt32 31)).toInt32) &&& 1431655765))) >>> ((Int32.toUInt32 2) &&& Int32.toUInt32 31)).toInt32) &&& 858993459)) + (((Int32.toUInt32 ((((nI k) - ((((Int32.toUInt32 (nI k)) >>> ((Int32.toUInt32 1) &&& Int32.toUInt32 31)).toInt32) &&& 1431655765)) &&& 858993459) + ((((Int32.toUInt32 ((nI k) - ((((Int32.toUInt32 (nI k)) >>> ((Int32.toUInt32 1) &&& Int32.toUInt32 31)).toInt32) &&& 1431655765))) >>> ((Int32.toUInt32 2) &&& Int32.toUInt32 31)).toInt32) &&& 858993459))) >>> ((Int32.toUInt32 4) &&& Int32.toUInt32 31)).toInt32)) &&& 252645135)) >>> ((Int32.toUInt32 8) &&& Int32.toUInt32 31)).toInt32)))]) hx hb dJ6_bitCount_0f7a4_40 rfl hl (by decide) rfl (fun ls hl => ?_)
  refine lv_iload_n hx hb dJ6_bitCount_0f7a4_41 rfl (lv_at hl 0 rfl) ?_
  refine lv_iload_n hx hb dJ6_bitCount_0f7a4_42 rfl (lv_at hl 0 rfl) ?_
  refine lv_bipush (v := 16) hx hb dJ6_bitCount_0f7a4_43 (by decide) ?_
  refine lv_iushr hx hb dJ6_bitCount_0f7a4_45 rfl ?_
  refine lv_iadd hx hb dJ6_bitCount_0f7a4_46 ?_
  refine lv_istore_n (lv' := [(0, .int ((((((((nI k) - ((((Int32.toUInt32 (nI k)) >>> ((Int32.toUInt32 1) &&& Int32.toUInt32 31)).toInt32) &&& 1431655765)) &&& 858993459) + ((((Int32.toUInt32 ((nI k) - ((((Int32.toUInt32 (nI k)) >>> ((Int32.toUInt32 1) &&& Int32.toUInt32 31)).toInt32) &&& 1431655765))) >>> ((Int32.toUInt32 2) &&& Int32.toUInt32 31)).toInt32) &&& 858993459)) + (((Int32.toUInt32 ((((nI k) - ((((Int32.toUInt32 (nI k)) >>> ((Int32.toUInt32 1) &&& Int32.toUInt32 31)).toInt32) &&& 1431655765)) &&& 858993459) + ((((Int32.toUInt32 ((nI k) - ((((Int32.toUInt32 (nI k)) >>> ((Int32.toUInt32 1) &&& Int32.toUInt32 31)).toInt32) &&& 1431655765))) >>> ((Int32.toUInt32 2) &&& Int32.toUInt32 31)).toInt32) &&& 858993459))) >>> ((Int32.toUInt32 4) &&& Int32.toUInt32 31)).toInt32)) &&& 252645135) + (((Int32.toUInt32 ((((((nI k) - ((((Int32.toUInt32 (nI k)) >>> ((Int32.toUInt32 1) &&& Int32.toUInt32 31)).toInt32) &&& 1431655765)) &&& 858993459) + ((((Int32.toUInt32 ((nI k) - ((((Int32.toUInt32 (nI k)) >>> ((Int32.toUInt32 1) &&& Int32.toUInt32 31)).toInt32) &&& 1431655765))) >>> ((Int32.toUInt32 2) &&& Int32.toUInt32 31)).toInt32) &&& 858993459)) + (((Int32.toUInt32 ((((nI k) - ((((Int32.toUInt32 (nI k)) >>> ((Int32.toUInt32 1) &&& Int32.toUInt32 31)).toInt32) &&& 1431655765)) &&& 858993459) + ((((Int32.toUInt32 ((nI k) - ((((Int32.toUInt32 (nI k)) >>> ((Int32.toUInt32 1) &&& Int32.toUInt32 31)).toInt32) &&& 1431655765))) >>> ((Int32.toUInt32 2) &&& Int32.toUInt32 31)).toInt32) &&& 858993459))) >>> ((Int32.toUInt32 4) &&& Int32.toUInt32 31)).toInt32)) &&& 252645135)) >>> ((Int32.toUInt32 8) &&& Int32.toUInt32 31)).toInt32)) + (((Int32.toUInt32 (((((((nI k) - ((((Int32.toUInt32 (nI k)) >>> ((Int32.toUInt32 1) &&& Int32.toUInt32 31)).toInt32) &&& 1431655765)) &&& 858993459) + ((((Int32.toUInt32 ((nI k) - ((((Int32.toUInt32 (nI k)) >>> ((Int32.toUInt32 1) &&& Int32.toUInt32 31)).toInt32) &&& 1431655765))) >>> ((Int32.toUInt32 2) &&& Int32.toUInt32 31)).toInt32) &&& 858993459)) + (((Int32.toUInt32 ((((nI k) - ((((Int32.toUInt32 (nI k)) >>> ((Int32.toUInt32 1) &&& Int32.toUInt32 31)).toInt32) &&& 1431655765)) &&& 858993459) + ((((Int32.toUInt32 ((nI k) - ((((Int32.toUInt32 (nI k)) >>> ((Int32.toUInt32 1) &&& Int32.toUInt32 31)).toInt32) &&& 1431655765))) >>> ((Int32.toUInt32 2) &&& Int32.toUInt32 31)).toInt32) &&& 858993459))) >>> ((Int32.toUInt32 4) &&& Int32.toUInt32 31)).toInt32)) &&& 252645135) + (((Int32.toUInt32 ((((((nI k) - ((((Int32.toUInt32 (nI k)) >>> ((Int32.toUInt32 1) &&& Int32.toUInt32 31)).toInt32) &&& 1431655765)) &&& 858993459) + ((((Int32.toUInt32 ((nI k) - ((((Int32.toUInt32 (nI k)) >>> ((Int32.toUInt32 1) &&& Int32.toUInt32 31)).toInt32) &&& 1431655765))) >>> ((Int32.toUInt32 2) &&& Int32.toUInt32 31)).toInt32) &&& 858993459)) + (((Int32.toUInt32 ((((nI k) - ((((Int32.toUInt32 (nI k)) >>> ((Int32.toUInt32 1) &&& Int32.toUInt32 31)).toInt32) &&& 1431655765)) &&& 858993459) + ((((Int32.toUInt32 ((nI k) - ((((Int32.toUInt32 (nI k)) >>> ((Int32.toUInt32 1) &&& Int32.toUInt32 31)).toInt32) &&& 1431655765))) >>> ((Int32.toUInt32 2) &&& Int32.toUInt32 31)).toInt32) &&& 858993459))) >>> ((Int32.toUInt32 4) &&& Int32.toUInt32 31)).toInt32)) &&& 252645135)) >>> ((Int32.toUInt32 8) &&& Int32.toUInt32 31)).toInt32))) >>> ((Int32.toUInt32 16) &&& Int32.toUInt32 31)).toInt32)))]) hx hb dJ6_bitCount_0f7a4_47 rfl hl (by decide) rfl (fun ls hl => ?_)
  refine lv_iload_n hx hb dJ6_bitCount_0f7a4_48 rfl (lv_at hl 0 rfl) ?_
  refine lv_bipush (v := 63) hx hb dJ6_bitCount_0f7a4_49 (by decide) ?_
  refine lv_iand hx hb dJ6_bitCount_0f7a4_51 ?_
  exact mR_iret C dJ6_bitCount_0f7a4_52 (bitC k hk)
theorem hd_X2_forget : yX2_forget.cls = RX2 ∧ yX2_forget.cls ≠ "java/lang/invoke/MethodHandle" ∧ yX2_forget.cls ≠ "java/lang/invoke/VarHandle" ∧ (parseMethodDescriptor yX2_forget.desc).map (fun d => d.parameters.length) = some 0 := by decide +kernel
set_option maxRecDepth 100000 in
set_option maxHeartbeats 4000000 in
theorem c_X2_forget (l : Launch) (G : gG) (h0 : Nat) (h1 : Nat) (i : Nat → Int32) (eo : Nat → Int32) : mX l yX2_forget wsX2_forget ({ frames := 0, cells := 0, slots := 0, locals := 0 }) G (hfW G h0 h1 i eo) (hfW G h0 h1 (upd i 5 0) eo) [.ref h0] (.returned none) := by
  refine mX.of (cc := cX2_forget) (maxL := 1) (ret := none) (by decide) rfl (Nat.le_of_ble_eq_true rfl) ?_
  intro zp ze zs zm zb zt zc ls A hAe C hP hK hD hS hl
  obtain ⟨hx, hb, hr, hml, hown, hts, hlk⟩ := id C
  have hl : lv_has ls 1 [(0, .ref h0)] := hl
  have k0 := hts (.fieldLink RX2 20 "DebtDowry$History" "count" "I") (by decide +kernel)
  have k1 := (fun w h => by revert w; decide +kernel : ∀ w ∈ wsX20, w ∈ wsX2_forget)
  refine lv_aload_n hx hb dX2_forget_0 rfl (lv_at hl 0 rfl) ?_
  refine lv_iconst (v := 0) hx hb dX2_forget_1 (by decide) ?_
  refine n_putQ (D := G.1) (wsn := hfW G h0 h1 (upd i 5 0) eo) (ci := 2) (v := .int 0) (ty := .int) (C := RX2) (T := TX2) (N := 3) hx hb hts k1 tyX2 tyX2_ok nmX2 hown hK hP hD hS 0 rfl rfl 2 (by decide) k0 (fun _ h9 => h9) rfl (by decide +kernel) rfl rfl (Nat.le_of_ble_eq_true rfl) hfW_p0_2 dX2_forget_2 (fun H locs hP hD hS => ?_)
  exact mX_vret hAe C hP hS dX2_forget_5
theorem hd_X2_note : yX2_note.cls = RX2 ∧ yX2_note.cls ≠ "java/lang/invoke/MethodHandle" ∧ yX2_note.cls ≠ "java/lang/invoke/VarHandle" ∧ (parseMethodDescriptor yX2_note.desc).map (fun d => d.parameters.length) = some 1 := by decide +kernel
set_option maxRecDepth 100000 in
set_option maxHeartbeats 4000000 in
theorem c_X2_note (l : Launch) (G : gG) (h0 : Nat) (h1 : Nat) (ra : Nat → Nat) (s0 : Nat) (s1 : Nat) (s2 : Nat) (s3 : Nat) (s4 : Nat) (r0 : Nat) (r1 : Nat) (r2 : Nat) (r3 : Nat) (r4 : Nat) (ka : Nat) (kb : Nat) (i : Nat → Int32) (eo : Nat → Int32) (n : Nat → Int32) (rj : Nat → Int32) (un : Nat) (od : Nat) (hun : i 5 = nI un) (hul : un ≤ 30) (hod : eo 0 = nI od) (hol : od < 30) (hrj : ra ((od + un) % 30) = r0) : mX l yX2_note wsX2_note ({ frames := 2, cells := 0, slots := 0, locals := 42 }) G (hnW G h0 h1 ra s0 s1 s2 s3 s4 r0 r1 r2 r3 r4 ka kb i eo n rj) (hnW G h0 h1 ra s0 s1 s2 s3 s4 r0 r1 r2 r3 r4 ka kb (upd i 5 (nI (rmU un))) (if un = 30 then upd eo 0 (nI ((od + 1) % 30)) else eo) n n) [.ref h0, .ref s0] (.returned none) := by
  refine mX.of (cc := cX2_note) (maxL := 2) (ret := none) (by decide) rfl (Nat.le_of_ble_eq_true rfl) ?_
  intro zp ze zs zm zb zt zc ls A hAe C hP hK hD hS hl
  obtain ⟨hx, hb, hr, hml, hown, hts, hlk⟩ := id C
  have hl : lv_has ls 2 [(0, .ref h0), (1, .ref s0)] := hl
  have k0 := hts (.fieldLink RX2 11 "DebtDowry$History" "ring" "[LDebtDowry$State;") (by decide +kernel)
  have k1 := (fun w h => by revert w; decide +kernel : ∀ w ∈ wsX20, w ∈ wsX2_note)
  have k2 := hts (.fieldLink RX2 24 "DebtDowry$History" "oldest" "I") (by decide +kernel)
  have k3 := hts (.fieldLink RX2 20 "DebtDowry$History" "count" "I") (by decide +kernel)
  refine lv_aload_n hx hb dX2_note_0 rfl (lv_at hl 0 rfl) ?_
  refine va_get (D := G.1) (ci := 2) (v := .ref h1) (C := RX2) (T := TX2) (N := 3) hx hb hts k1 hown hK hP 0 rfl rfl 0 (by decide) k0 (fun _ h9 => h9) rfl dX2_note_1 ?_
  refine lv_aload_n hx hb dX2_note_4 rfl (lv_at hl 0 rfl) ?_
  refine va_get (D := G.1) (ci := 2) (v := .int (eo 0)) (C := RX2) (T := TX2) (N := 3) hx hb hts k1 hown hK hP 0 rfl rfl 1 (by decide) k2 (fun _ h9 => h9) rfl dX2_note_5 ?_
  refine lv_aload_n hx hb dX2_note_8 rfl (lv_at hl 0 rfl) ?_
  refine va_get (D := G.1) (ci := 2) (v := .int (i 5)) (C := RX2) (T := TX2) (N := 3) hx hb hts k1 hown hK hP 0 rfl rfl 2 (by decide) k3 (fun _ h9 => h9) rfl dX2_note_9 ?_
  refine n_iadd hx hb dX2_note_12 (u := od) (v := un) hod hun (j := od + un) (by omega) ?_
  refine lv_bipush (v := 30) hx hb dX2_note_13 (by decide) ?_
  refine n_irem hx hb dX2_note_15 (u := od + un) (v := 30) rfl rfl (by omega) (by omega) (by omega) ?_
  refine n_aald hx hb hK hP 1 2 rfl rfl (j := (od + un) % 30) (r := r0) rfl (by omega) (by decide) (congrArg some hrj) dX2_note_16 ?_
  refine lv_aload_n hx hb dX2_note_17 rfl (lv_at hl 1 rfl) ?_
  refine cX_V (Cn := RX7) (n := 1) (As := [.ref s0]) (rest := []) (wsn := hnW G h0 h1 ra s0 s1 s2 s3 s4 r0 r1 r2 r3 r4 ka kb i eo n n) C (c_X7_take l G r0 r1 r2 r3 r4 s0 s1 s2 s3 s4 kb ka rj n   ) gX2_note_X7_take rfl ⟨rfl, rfl⟩ hd_X7_take ⟨(Nat.le_of_ble_eq_true rfl), (Nat.le_of_ble_eq_true rfl)⟩ hK hP hD hS [7, 8, 9, 10, 11, 2, 3, 4, 5, 6] (by decide) rfl (s2W_f.trans s2W_f.symm) rfl (hnW_f.trans hnW_f.symm) (va_recv hK hP (ci := 7) (q0 := 7) rfl rfl) rfl hl.1 rfl (Nat.le_of_ble_eq_true rfl) dX2_note_18 ⟨(Nat.le_of_ble_eq_true rfl), (Nat.le_of_ble_eq_true rfl)⟩ (fun H locs hP hD hS => ?_)
  refine lv_aload_n hx hb dX2_note_21 rfl (lv_at hl 0 rfl) ?_
  refine va_get (D := G.1) (ci := 2) (v := .int (i 5)) (C := RX2) (T := TX2) (N := 3) hx hb hts k1 hown hK hP 0 rfl rfl 2 (by decide) k3 (fun _ h9 => h9) rfl dX2_note_22 ?_
  refine lv_bipush (v := 30) hx hb dX2_note_25 (by decide) ?_
  refine n_icmp_ge (tgt := 43) hx hb dX2_note_27 (by decide) (u := un) (v := 30) hun rfl (by omega) (by omega) (fun cq1 => ?_) (fun cq1 => ?_)
  · skip
    refine lv_aload_n hx hb dX2_note_43 rfl (lv_at hl 0 rfl) ?_
    refine lv_aload_n hx hb dX2_note_44 rfl (lv_at hl 0 rfl) ?_
    refine va_get (D := G.1) (ci := 2) (v := .int (eo 0)) (C := RX2) (T := TX2) (N := 3) hx hb hts k1 hown hK hP 0 rfl rfl 1 (by decide) k2 (fun _ h9 => h9) rfl dX2_note_45 ?_
    refine lv_iconst (v := 1) hx hb dX2_note_48 (by decide) ?_
    refine n_iadd hx hb dX2_note_49 (u := od) (v := 1) hod rfl (j := od + 1) (by omega) ?_
    refine lv_bipush (v := 30) hx hb dX2_note_50 (by decide) ?_
    refine n_irem hx hb dX2_note_52 (u := od + 1) (v := 30) rfl rfl (by omega) (by omega) (by omega) ?_
    refine n_putQ (D := G.1) (wsn := hnW G h0 h1 ra s0 s1 s2 s3 s4 r0 r1 r2 r3 r4 ka kb i (upd eo 0 (nI ((od + 1) % 30))) n n) (ci := 2) (v := .int (nI ((od + 1) % 30))) (ty := .int) (C := RX2) (T := TX2) (N := 3) hx hb hts k1 tyX2 tyX2_ok nmX2 hown hK hP hD hS 0 rfl rfl 1 (by decide) k2 (fun _ h9 => h9) rfl (by decide +kernel) rfl rfl (Nat.le_of_ble_eq_true rfl) hnW_p0_1 dX2_note_53 (fun H locs hP hD hS => ?_)
    have hP : va_P G.1 vwCl (hnW G h0 h1 ra s0 s1 s2 s3 s4 r0 r1 r2 r3 r4 ka kb (upd i 5 (nI (rmU un))) (if un = 30 then upd eo 0 (nI ((od + 1) % 30)) else eo) n n) H := by rw [show (upd i 5 (nI (rmU un))) = i from by unfold rmU; first | (rw [if_neg (show ¬ un = 30 by omega)]; done) | (rw [if_pos (show un = 30 by omega)]; exact upd_self (by rw [hun]; congr 1; omega)), show (if un = 30 then upd eo 0 (nI ((od + 1) % 30)) else eo) = (upd eo 0 (nI ((od + 1) % 30))) from by first | exact if_pos (show un = 30 by omega) | exact if_neg (show ¬ un = 30 by omega)]; exact hP
    exact mX_vret hAe C hP hS dX2_note_56
  · skip
    refine lv_aload_n hx hb dX2_note_30 rfl (lv_at hl 0 rfl) ?_
    refine lv_dup hx hb dX2_note_31 rfl ?_
    refine va_get (D := G.1) (ci := 2) (v := .int (i 5)) (C := RX2) (T := TX2) (N := 3) hx hb hts k1 hown hK hP 0 rfl rfl 2 (by decide) k3 (fun _ h9 => h9) rfl dX2_note_32 ?_
    refine lv_iconst (v := 1) hx hb dX2_note_35 (by decide) ?_
    refine n_iadd hx hb dX2_note_36 (u := un) (v := 1) hun rfl (j := un + 1) (by omega) ?_
    refine n_putQ (D := G.1) (wsn := hnW G h0 h1 ra s0 s1 s2 s3 s4 r0 r1 r2 r3 r4 ka kb (upd i 5 (nI (un + 1))) eo n n) (ci := 2) (v := .int (nI (un + 1))) (ty := .int) (C := RX2) (T := TX2) (N := 3) hx hb hts k1 tyX2 tyX2_ok nmX2 hown hK hP hD hS 0 rfl rfl 2 (by decide) k3 (fun _ h9 => h9) rfl (by decide +kernel) rfl rfl (Nat.le_of_ble_eq_true rfl) hnW_p0_2 dX2_note_37 (fun H locs hP hD hS => ?_)
    refine lv_goto (tgt := 56) hx hb dX2_note_40 (by decide) ?_
    have hP : va_P G.1 vwCl (hnW G h0 h1 ra s0 s1 s2 s3 s4 r0 r1 r2 r3 r4 ka kb (upd i 5 (nI (rmU un))) (if un = 30 then upd eo 0 (nI ((od + 1) % 30)) else eo) n n) H := by rw [show (upd i 5 (nI (rmU un))) = (upd i 5 (nI (un + 1))) from by unfold rmU; first | (rw [if_neg (show ¬ un = 30 by omega)]; done) | (rw [if_pos (show un = 30 by omega)]; exact upd_self (by rw [hun]; congr 1; omega)), show (if un = 30 then upd eo 0 (nI ((od + 1) % 30)) else eo) = eo from by first | exact if_pos (show un = 30 by omega) | exact if_neg (show ¬ un = 30 by omega)]; exact hP
    exact mX_vret hAe C hP hS dX2_note_56
theorem hd_X2_restore : yX2_restore.cls = RX2 ∧ yX2_restore.cls ≠ "java/lang/invoke/MethodHandle" ∧ yX2_restore.cls ≠ "java/lang/invoke/VarHandle" ∧ (parseMethodDescriptor yX2_restore.desc).map (fun d => d.parameters.length) = some 2 := by decide +kernel
set_option maxRecDepth 100000 in
set_option maxHeartbeats 4000000 in
theorem c_X2_restore (l : Launch) (G : gG) (h0 : Nat) (h1 : Nat) (ra : Nat → Nat) (s0 : Nat) (s1 : Nat) (s2 : Nat) (s3 : Nat) (s4 : Nat) (r0 : Nat) (r1 : Nat) (r2 : Nat) (r3 : Nat) (r4 : Nat) (ka : Nat) (kb : Nat) (i : Nat → Int32) (eo : Nat → Int32) (n : Nat → Int32) (rj : Nat → Int32) (un : Nat) (od : Nat) (k : Nat) (hun : i 5 = nI un) (hul : un ≤ 30) (hod : eo 0 = nI od) (hol : od < 30) (hk1 : 1 ≤ k) (hku : k ≤ un) (hrj : ra ((od + (un - k)) % 30) = r0) : mX l yX2_restore wsX2_restore ({ frames := 2, cells := 0, slots := 0, locals := 42 }) G (hnW G h0 h1 ra s0 s1 s2 s3 s4 r0 r1 r2 r3 r4 ka kb i eo n rj) (hnW G h0 h1 ra s0 s1 s2 s3 s4 r0 r1 r2 r3 r4 ka kb (upd i 5 (nI (un - k))) eo rj rj) [.ref h0, .ref s0, .int (nI k)] (.returned none) := by
  refine mX.of (cc := cX2_restore) (maxL := 3) (ret := none) (by decide) rfl (Nat.le_of_ble_eq_true rfl) ?_
  intro zp ze zs zm zb zt zc ls A hAe C hP hK hD hS hl
  obtain ⟨hx, hb, hr, hml, hown, hts, hlk⟩ := id C
  have hl : lv_has ls 3 [(0, .ref h0), (1, .ref s0), (2, .int (nI k))] := hl
  have k0 := hts (.fieldLink RX2 20 "DebtDowry$History" "count" "I") (by decide +kernel)
  have k1 := (fun w h => by revert w; decide +kernel : ∀ w ∈ wsX20, w ∈ wsX2_restore)
  have k2 := hts (.fieldLink RX2 11 "DebtDowry$History" "ring" "[LDebtDowry$State;") (by decide +kernel)
  have k3 := hts (.fieldLink RX2 24 "DebtDowry$History" "oldest" "I") (by decide +kernel)
  refine lv_iload_n hx hb dX2_restore_0 rfl (lv_at hl 2 rfl) ?_
  refine lv_iconst (v := 1) hx hb dX2_restore_1 (by decide) ?_
  refine n_icmp_lt (tgt := 13) hx hb dX2_restore_2 (by decide) (u := k) (v := 1) rfl rfl (by omega) (by omega) (fun cq1 => ?_) (fun cq1 => ?_)
  · exact absurd cq1 (by omega)
  · skip
    refine lv_iload_n hx hb dX2_restore_5 rfl (lv_at hl 2 rfl) ?_
    refine lv_aload_n hx hb dX2_restore_6 rfl (lv_at hl 0 rfl) ?_
    refine va_get (D := G.1) (ci := 2) (v := .int (i 5)) (C := RX2) (T := TX2) (N := 3) hx hb hts k1 hown hK hP 0 rfl rfl 2 (by decide) k0 (fun _ h9 => h9) rfl dX2_restore_7 ?_
    refine n_icmp_le (tgt := 14) hx hb dX2_restore_10 (by decide) (u := k) (v := un) rfl hun (by omega) (by omega) (fun cq2 => ?_) (fun cq2 => ?_)
    · skip
      refine lv_aload_n hx hb dX2_restore_14 rfl (lv_at hl 0 rfl) ?_
      refine lv_dup hx hb dX2_restore_15 rfl ?_
      refine va_get (D := G.1) (ci := 2) (v := .int (i 5)) (C := RX2) (T := TX2) (N := 3) hx hb hts k1 hown hK hP 0 rfl rfl 2 (by decide) k0 (fun _ h9 => h9) rfl dX2_restore_16 ?_
      refine lv_iload_n hx hb dX2_restore_19 rfl (lv_at hl 2 rfl) ?_
      refine n_isub hx hb dX2_restore_20 (u := un) (v := k) hun rfl (by omega) (j := un - k) (by omega) ?_
      refine n_putQ (D := G.1) (wsn := hnW G h0 h1 ra s0 s1 s2 s3 s4 r0 r1 r2 r3 r4 ka kb (upd i 5 (nI (un - k))) eo n rj) (ci := 2) (v := .int (nI (un - k))) (ty := .int) (C := RX2) (T := TX2) (N := 3) hx hb hts k1 tyX2 tyX2_ok nmX2 hown hK hP hD hS 0 rfl rfl 2 (by decide) k0 (fun _ h9 => h9) rfl (by decide +kernel) rfl rfl (Nat.le_of_ble_eq_true rfl) hnW_p0_2 dX2_restore_21 (fun H locs hP hD hS => ?_)
      refine lv_aload_n hx hb dX2_restore_24 rfl (lv_at hl 1 rfl) ?_
      refine lv_aload_n hx hb dX2_restore_25 rfl (lv_at hl 0 rfl) ?_
      refine va_get (D := G.1) (ci := 2) (v := .ref h1) (C := RX2) (T := TX2) (N := 3) hx hb hts k1 hown hK hP 0 rfl rfl 0 (by decide) k2 (fun _ h9 => h9) rfl dX2_restore_26 ?_
      refine lv_aload_n hx hb dX2_restore_29 rfl (lv_at hl 0 rfl) ?_
      refine va_get (D := G.1) (ci := 2) (v := .int (eo 0)) (C := RX2) (T := TX2) (N := 3) hx hb hts k1 hown hK hP 0 rfl rfl 1 (by decide) k3 (fun _ h9 => h9) rfl dX2_restore_30 ?_
      refine lv_aload_n hx hb dX2_restore_33 rfl (lv_at hl 0 rfl) ?_
      refine va_get (D := G.1) (ci := 2) (v := .int (nI (un - k))) (C := RX2) (T := TX2) (N := 3) hx hb hts k1 hown hK hP 0 rfl rfl 2 (by decide) k0 (fun _ h9 => h9) rfl dX2_restore_34 ?_
      refine n_iadd hx hb dX2_restore_37 (u := od) (v := un - k) hod rfl (j := od + (un - k)) (by omega) ?_
      refine lv_bipush (v := 30) hx hb dX2_restore_38 (by decide) ?_
      refine n_irem hx hb dX2_restore_40 (u := od + (un - k)) (v := 30) rfl rfl (by omega) (by omega) (by omega) ?_
      refine n_aald hx hb hK hP 1 2 rfl rfl (j := (od + (un - k)) % 30) (r := r0) rfl (by omega) (by decide) (congrArg some hrj) dX2_restore_41 ?_
      refine cX_V (Cn := RX7) (n := 1) (As := [.ref r0]) (rest := []) (wsn := hnW G h0 h1 ra s0 s1 s2 s3 s4 r0 r1 r2 r3 r4 ka kb (upd i 5 (nI (un - k))) eo rj rj) C (c_X7_take l G s0 s1 s2 s3 s4 r0 r1 r2 r3 r4 ka kb n rj   ) gX2_restore_X7_take rfl ⟨rfl, rfl⟩ hd_X7_take ⟨(Nat.le_of_ble_eq_true rfl), (Nat.le_of_ble_eq_true rfl)⟩ hK hP hD hS [2, 3, 4, 5, 6, 7, 8, 9, 10, 11] (by decide) rfl (s2W_f.trans s2W_f.symm) rfl (hnW_f.trans hnW_f.symm) (va_recv hK hP (ci := 7) (q0 := 2) rfl rfl) rfl hl.1 rfl (Nat.le_of_ble_eq_true rfl) dX2_restore_42 ⟨(Nat.le_of_ble_eq_true rfl), (Nat.le_of_ble_eq_true rfl)⟩ (fun H locs hP hD hS => ?_)
      exact mX_vret hAe C hP hS dX2_restore_45
    · exact absurd cq2 (by omega)
