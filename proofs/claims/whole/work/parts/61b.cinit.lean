set_option maxRecDepth 100000 in
set_option maxHeartbeats 4000000 in
theorem c_X8_init (l : Launch) (G : gG) (sz b : Nat) : mN l yX8_init wsX8_init ({ frames := 1, cells := 3, slots := 12, locals := 20 }) 3 12 G sz [(b, oA 8 [.int 0, .int 0, .int 0, .int 0, .int 0, .int 0, .null, .null, .null])] (fun q => [(b, oA 8 [.int 0, .int 0, .int 0, .int 0, .int 0, .int 0, .ref (q 1), .ref (q 2), .ref (q 3)]), ((q 1), iA G 4 (fun _ => 0)), ((q 2), iA G 4 (fun _ => 0)), ((q 3), iA G 4 (fun _ => 0))]) [.ref b] := by
  refine mN.of (cc := cX8_init) (maxL := 1) (by decide) rfl (Nat.le_of_ble_eq_true rfl) rfl ?_
  intro zp ze zs zm zb zt zc ls A hAe C hin hO hP hK hD hS hA hl
  obtain ⟨hx, hb, hr, hml, hown, hts, hlk⟩ := id C
  have hl : lv_has ls 1 [(0, .ref b)] := hl
  have k0 := (fun w h => by revert w; decide +kernel : ∀ w ∈ wsX80, w ∈ wsX8_init)
  have k1 := hts (.fieldLink RX8 9 "DebtDowry$Terms" "low" "[I") (by decide +kernel)
  have k2 := hts (.fieldLink RX8 15 "DebtDowry$Terms" "high" "[I") (by decide +kernel)
  have k3 := hts (.fieldLink RX8 18 "DebtDowry$Terms" "great" "[I") (by decide +kernel)
  refine lv_aload_n hx hb dX8_init_0 rfl (lv_at hl 0 rfl) ?_
  refine W.objInit hx hb hown (hts (.methodLink RX8 3 objectInit) (by decide +kernel)) (hts (.instanceMethod objectInit) (by decide +kernel)) (hts _ (List.mem_of_getElem? (i := 3) rfl)) rfl (by rw [hml]; exact hl.1) rfl dX8_init_1 (Nat.le_of_ble_eq_true rfl) (Nat.le_of_ble_eq_true rfl) ?_
  refine W.eq (g2 := F0 zm 4 ls []) rfl ?_
  refine lv_aload_n hx hb dX8_init_4 rfl (lv_at hl 0 rfl) ?_
  refine lv_iconst (v := 4) hx hb dX8_init_5 (by decide) ?_
  refine n_newI C (by decide +kernel) hK hP hD hS hA 4 (by decide) (by decide) (by decide) (Nat.le_of_ble_eq_true rfl) (Nat.le_of_ble_eq_true rfl) dX8_init_6 (fun q1 H hP hD hS => ?_)
  have hP : va_P G.1 vwCl [(b, oA 8 [.int 0, .int 0, .int 0, .int 0, .int 0, .int 0, .null, .null, .null]), (q1, iA G 4 (fun _ => 0))] H := hP
  have hD : va_D A [(b, oA 8 [.int 0, .int 0, .int 0, .int 0, .int 0, .int 0, .null, .null, .null]), (q1, iA G 4 (fun _ => 0))] := hD
  refine W.widen (k := 1) (n := 4) (by decide) (by decide) ?_
  refine va_putF (D := G.1) (ci := 8) (v := .ref q1) (ty := tyX8 6) (C := RX8) (T := TX8) (N := 9) hx hb hts (k0) tyX8 tyX8_ok nmX8 hown hK hP hD hS 0 rfl rfl 6 (by decide) k1 (fun _ h9 => h9) rfl hin rfl (by decide +kernel) rfl rfl (Nat.le_of_ble_eq_true rfl) dX8_init_8 (fun H locs hP hD hS => ?_)
  have hP : va_P G.1 vwCl [(b, oA 8 [.int 0, .int 0, .int 0, .int 0, .int 0, .int 0, .ref q1, .null, .null]), (q1, iA G 4 (fun _ => 0))] H := hP
  have hD : va_D A [(b, oA 8 [.int 0, .int 0, .int 0, .int 0, .int 0, .int 0, .ref q1, .null, .null]), (q1, iA G 4 (fun _ => 0))] := hD
  refine lv_aload_n hx hb dX8_init_11 rfl (lv_at hl 0 rfl) ?_
  refine lv_iconst (v := 4) hx hb dX8_init_12 (by decide) ?_
  refine n_newI C (by decide +kernel) hK hP hD hS hA 4 (by decide) (by decide) (by decide) (Nat.le_of_ble_eq_true rfl) (Nat.le_of_ble_eq_true rfl) dX8_init_13 (fun q2 H hP hD hS => ?_)
  have hP : va_P G.1 vwCl [(b, oA 8 [.int 0, .int 0, .int 0, .int 0, .int 0, .int 0, .ref q1, .null, .null]), (q1, iA G 4 (fun _ => 0)), (q2, iA G 4 (fun _ => 0))] H := hP
  have hD : va_D A [(b, oA 8 [.int 0, .int 0, .int 0, .int 0, .int 0, .int 0, .ref q1, .null, .null]), (q1, iA G 4 (fun _ => 0)), (q2, iA G 4 (fun _ => 0))] := hD
  refine W.widen (k := 2) (n := 8) (by decide) (by decide) ?_
  refine va_putF (D := G.1) (ci := 8) (v := .ref q2) (ty := tyX8 7) (C := RX8) (T := TX8) (N := 9) hx hb hts (k0) tyX8 tyX8_ok nmX8 hown hK hP hD hS 0 rfl rfl 7 (by decide) k2 (fun _ h9 => h9) rfl hin rfl (by decide +kernel) rfl rfl (Nat.le_of_ble_eq_true rfl) dX8_init_15 (fun H locs hP hD hS => ?_)
  have hP : va_P G.1 vwCl [(b, oA 8 [.int 0, .int 0, .int 0, .int 0, .int 0, .int 0, .ref q1, .ref q2, .null]), (q1, iA G 4 (fun _ => 0)), (q2, iA G 4 (fun _ => 0))] H := hP
  have hD : va_D A [(b, oA 8 [.int 0, .int 0, .int 0, .int 0, .int 0, .int 0, .ref q1, .ref q2, .null]), (q1, iA G 4 (fun _ => 0)), (q2, iA G 4 (fun _ => 0))] := hD
  refine lv_aload_n hx hb dX8_init_18 rfl (lv_at hl 0 rfl) ?_
  refine lv_iconst (v := 4) hx hb dX8_init_19 (by decide) ?_
  refine n_newI C (by decide +kernel) hK hP hD hS hA 4 (by decide) (by decide) (by decide) (Nat.le_of_ble_eq_true rfl) (Nat.le_of_ble_eq_true rfl) dX8_init_20 (fun q3 H hP hD hS => ?_)
  have hP : va_P G.1 vwCl [(b, oA 8 [.int 0, .int 0, .int 0, .int 0, .int 0, .int 0, .ref q1, .ref q2, .null]), (q1, iA G 4 (fun _ => 0)), (q2, iA G 4 (fun _ => 0)), (q3, iA G 4 (fun _ => 0))] H := hP
  have hD : va_D A [(b, oA 8 [.int 0, .int 0, .int 0, .int 0, .int 0, .int 0, .ref q1, .ref q2, .null]), (q1, iA G 4 (fun _ => 0)), (q2, iA G 4 (fun _ => 0)), (q3, iA G 4 (fun _ => 0))] := hD
  refine W.widen (k := 3) (n := 12) (by decide) (by decide) ?_
  refine va_putF (D := G.1) (ci := 8) (v := .ref q3) (ty := tyX8 8) (C := RX8) (T := TX8) (N := 9) hx hb hts (k0) tyX8 tyX8_ok nmX8 hown hK hP hD hS 0 rfl rfl 8 (by decide) k3 (fun _ h9 => h9) rfl hin rfl (by decide +kernel) rfl rfl (Nat.le_of_ble_eq_true rfl) dX8_init_22 (fun H locs hP hD hS => ?_)
  have hP : va_P G.1 vwCl [(b, oA 8 [.int 0, .int 0, .int 0, .int 0, .int 0, .int 0, .ref q1, .ref q2, .ref q3]), (q1, iA G 4 (fun _ => 0)), (q2, iA G 4 (fun _ => 0)), (q3, iA G 4 (fun _ => 0))] H := hP
  have hD : va_D A [(b, oA 8 [.int 0, .int 0, .int 0, .int 0, .int 0, .int 0, .ref q1, .ref q2, .ref q3]), (q1, iA G 4 (fun _ => 0)), (q2, iA G 4 (fun _ => 0)), (q3, iA G 4 (fun _ => 0))] := hD
  exact mN_vret hAe C (fun k => match k with | 1 => q1 | 2 => q2 | 3 => q3 | _ => 0) hP hD hS dX8_init_25

set_option maxRecDepth 100000 in
set_option maxHeartbeats 4000000 in
theorem c_X7_init (l : Launch) (G : gG) (sz b tq : Nat) : mN l yX7_init wsX7_init ({ frames := 1, cells := 4, slots := 52, locals := 20 }) 4 52 G sz [(b, oA 7 [.null, .null, .null, .null, .null, .int 0, .int 0])] (fun q => [(b, oA 7 [.ref tq, .ref (q 1), .ref (q 2), .ref (q 3), .ref (q 4), .int 0, .int 0]), ((q 1), iA G 32 (fun _ => 0)), ((q 2), iA G 4 (fun _ => 0)), ((q 3), iA G 8 (fun _ => 0)), ((q 4), iA G 8 (fun _ => 0))]) [.ref b, .ref tq] := by
  refine mN.of (cc := cX7_init) (maxL := 2) (by decide) rfl (Nat.le_of_ble_eq_true rfl) rfl ?_
  intro zp ze zs zm zb zt zc ls A hAe C hin hO hP hK hD hS hA hl
  obtain ⟨hx, hb, hr, hml, hown, hts, hlk⟩ := id C
  have hl : lv_has ls 2 [(0, .ref b), (1, .ref tq)] := hl
  have k0 := (fun w h => by revert w; decide +kernel : ∀ w ∈ wsX70, w ∈ wsX7_init)
  have k1 := hts (.fieldLink RX7 9 "DebtDowry$State" "owed" "[I") (by decide +kernel)
  have k2 := hts (.fieldLink RX7 15 "DebtDowry$State" "purse" "[I") (by decide +kernel)
  have k3 := hts (.fieldLink RX7 18 "DebtDowry$State" "insults" "[I") (by decide +kernel)
  have k4 := hts (.fieldLink RX7 21 "DebtDowry$State" "spouse" "[I") (by decide +kernel)
  have k5 := hts (.fieldLink RX7 24 "DebtDowry$State" "terms" "LDebtDowry$Terms;") (by decide +kernel)
  refine lv_aload_n hx hb dX7_init_0 rfl (lv_at hl 0 rfl) ?_
  refine W.objInit hx hb hown (hts (.methodLink RX7 3 objectInit) (by decide +kernel)) (hts (.instanceMethod objectInit) (by decide +kernel)) (hts _ (List.mem_of_getElem? (i := 3) rfl)) rfl (by rw [hml]; exact hl.1) rfl dX7_init_1 (Nat.le_of_ble_eq_true rfl) (Nat.le_of_ble_eq_true rfl) ?_
  refine W.eq (g2 := F0 zm 4 ls []) rfl ?_
  refine lv_aload_n hx hb dX7_init_4 rfl (lv_at hl 0 rfl) ?_
  refine lv_bipush (v := 32) hx hb dX7_init_5 (by decide) ?_
  refine n_newI C (by decide +kernel) hK hP hD hS hA 32 (by decide) (by decide) (by decide) (Nat.le_of_ble_eq_true rfl) (Nat.le_of_ble_eq_true rfl) dX7_init_7 (fun q1 H hP hD hS => ?_)
  have hP : va_P G.1 vwCl [(b, oA 7 [.null, .null, .null, .null, .null, .int 0, .int 0]), (q1, iA G 32 (fun _ => 0))] H := hP
  have hD : va_D A [(b, oA 7 [.null, .null, .null, .null, .null, .int 0, .int 0]), (q1, iA G 32 (fun _ => 0))] := hD
  refine W.widen (k := 1) (n := 32) (by decide) (by decide) ?_
  refine va_putF (D := G.1) (ci := 7) (v := .ref q1) (ty := tyX7 1) (C := RX7) (T := TX7) (N := 7) hx hb hts (k0) tyX7 tyX7_ok nmX7 hown hK hP hD hS 0 rfl rfl 1 (by decide) k1 (fun _ h9 => h9) rfl hin rfl (by decide +kernel) rfl rfl (Nat.le_of_ble_eq_true rfl) dX7_init_9 (fun H locs hP hD hS => ?_)
  have hP : va_P G.1 vwCl [(b, oA 7 [.null, .ref q1, .null, .null, .null, .int 0, .int 0]), (q1, iA G 32 (fun _ => 0))] H := hP
  have hD : va_D A [(b, oA 7 [.null, .ref q1, .null, .null, .null, .int 0, .int 0]), (q1, iA G 32 (fun _ => 0))] := hD
  refine lv_aload_n hx hb dX7_init_12 rfl (lv_at hl 0 rfl) ?_
  refine lv_iconst (v := 4) hx hb dX7_init_13 (by decide) ?_
  refine n_newI C (by decide +kernel) hK hP hD hS hA 4 (by decide) (by decide) (by decide) (Nat.le_of_ble_eq_true rfl) (Nat.le_of_ble_eq_true rfl) dX7_init_14 (fun q2 H hP hD hS => ?_)
  have hP : va_P G.1 vwCl [(b, oA 7 [.null, .ref q1, .null, .null, .null, .int 0, .int 0]), (q1, iA G 32 (fun _ => 0)), (q2, iA G 4 (fun _ => 0))] H := hP
  have hD : va_D A [(b, oA 7 [.null, .ref q1, .null, .null, .null, .int 0, .int 0]), (q1, iA G 32 (fun _ => 0)), (q2, iA G 4 (fun _ => 0))] := hD
  refine W.widen (k := 2) (n := 36) (by decide) (by decide) ?_
  refine va_putF (D := G.1) (ci := 7) (v := .ref q2) (ty := tyX7 2) (C := RX7) (T := TX7) (N := 7) hx hb hts (k0) tyX7 tyX7_ok nmX7 hown hK hP hD hS 0 rfl rfl 2 (by decide) k2 (fun _ h9 => h9) rfl hin rfl (by decide +kernel) rfl rfl (Nat.le_of_ble_eq_true rfl) dX7_init_16 (fun H locs hP hD hS => ?_)
  have hP : va_P G.1 vwCl [(b, oA 7 [.null, .ref q1, .ref q2, .null, .null, .int 0, .int 0]), (q1, iA G 32 (fun _ => 0)), (q2, iA G 4 (fun _ => 0))] H := hP
  have hD : va_D A [(b, oA 7 [.null, .ref q1, .ref q2, .null, .null, .int 0, .int 0]), (q1, iA G 32 (fun _ => 0)), (q2, iA G 4 (fun _ => 0))] := hD
  refine lv_aload_n hx hb dX7_init_19 rfl (lv_at hl 0 rfl) ?_
  refine lv_bipush (v := 8) hx hb dX7_init_20 (by decide) ?_
  refine n_newI C (by decide +kernel) hK hP hD hS hA 8 (by decide) (by decide) (by decide) (Nat.le_of_ble_eq_true rfl) (Nat.le_of_ble_eq_true rfl) dX7_init_22 (fun q3 H hP hD hS => ?_)
  have hP : va_P G.1 vwCl [(b, oA 7 [.null, .ref q1, .ref q2, .null, .null, .int 0, .int 0]), (q1, iA G 32 (fun _ => 0)), (q2, iA G 4 (fun _ => 0)), (q3, iA G 8 (fun _ => 0))] H := hP
  have hD : va_D A [(b, oA 7 [.null, .ref q1, .ref q2, .null, .null, .int 0, .int 0]), (q1, iA G 32 (fun _ => 0)), (q2, iA G 4 (fun _ => 0)), (q3, iA G 8 (fun _ => 0))] := hD
  refine W.widen (k := 3) (n := 44) (by decide) (by decide) ?_
  refine va_putF (D := G.1) (ci := 7) (v := .ref q3) (ty := tyX7 3) (C := RX7) (T := TX7) (N := 7) hx hb hts (k0) tyX7 tyX7_ok nmX7 hown hK hP hD hS 0 rfl rfl 3 (by decide) k3 (fun _ h9 => h9) rfl hin rfl (by decide +kernel) rfl rfl (Nat.le_of_ble_eq_true rfl) dX7_init_24 (fun H locs hP hD hS => ?_)
  have hP : va_P G.1 vwCl [(b, oA 7 [.null, .ref q1, .ref q2, .ref q3, .null, .int 0, .int 0]), (q1, iA G 32 (fun _ => 0)), (q2, iA G 4 (fun _ => 0)), (q3, iA G 8 (fun _ => 0))] H := hP
  have hD : va_D A [(b, oA 7 [.null, .ref q1, .ref q2, .ref q3, .null, .int 0, .int 0]), (q1, iA G 32 (fun _ => 0)), (q2, iA G 4 (fun _ => 0)), (q3, iA G 8 (fun _ => 0))] := hD
  refine lv_aload_n hx hb dX7_init_27 rfl (lv_at hl 0 rfl) ?_
  refine lv_bipush (v := 8) hx hb dX7_init_28 (by decide) ?_
  refine n_newI C (by decide +kernel) hK hP hD hS hA 8 (by decide) (by decide) (by decide) (Nat.le_of_ble_eq_true rfl) (Nat.le_of_ble_eq_true rfl) dX7_init_30 (fun q4 H hP hD hS => ?_)
  have hP : va_P G.1 vwCl [(b, oA 7 [.null, .ref q1, .ref q2, .ref q3, .null, .int 0, .int 0]), (q1, iA G 32 (fun _ => 0)), (q2, iA G 4 (fun _ => 0)), (q3, iA G 8 (fun _ => 0)), (q4, iA G 8 (fun _ => 0))] H := hP
  have hD : va_D A [(b, oA 7 [.null, .ref q1, .ref q2, .ref q3, .null, .int 0, .int 0]), (q1, iA G 32 (fun _ => 0)), (q2, iA G 4 (fun _ => 0)), (q3, iA G 8 (fun _ => 0)), (q4, iA G 8 (fun _ => 0))] := hD
  refine W.widen (k := 4) (n := 52) (by decide) (by decide) ?_
  refine va_putF (D := G.1) (ci := 7) (v := .ref q4) (ty := tyX7 4) (C := RX7) (T := TX7) (N := 7) hx hb hts (k0) tyX7 tyX7_ok nmX7 hown hK hP hD hS 0 rfl rfl 4 (by decide) k4 (fun _ h9 => h9) rfl hin rfl (by decide +kernel) rfl rfl (Nat.le_of_ble_eq_true rfl) dX7_init_32 (fun H locs hP hD hS => ?_)
  have hP : va_P G.1 vwCl [(b, oA 7 [.null, .ref q1, .ref q2, .ref q3, .ref q4, .int 0, .int 0]), (q1, iA G 32 (fun _ => 0)), (q2, iA G 4 (fun _ => 0)), (q3, iA G 8 (fun _ => 0)), (q4, iA G 8 (fun _ => 0))] H := hP
  have hD : va_D A [(b, oA 7 [.null, .ref q1, .ref q2, .ref q3, .ref q4, .int 0, .int 0]), (q1, iA G 32 (fun _ => 0)), (q2, iA G 4 (fun _ => 0)), (q3, iA G 8 (fun _ => 0)), (q4, iA G 8 (fun _ => 0))] := hD
  refine lv_aload_n hx hb dX7_init_35 rfl (lv_at hl 0 rfl) ?_
  refine lv_aload_n hx hb dX7_init_36 rfl (lv_at hl 1 rfl) ?_
  refine va_putF (D := G.1) (ci := 7) (v := .ref tq) (ty := tyX7 0) (C := RX7) (T := TX7) (N := 7) hx hb hts (k0) tyX7 tyX7_ok nmX7 hown hK hP hD hS 0 rfl rfl 0 (by decide) k5 (fun _ h9 => h9) rfl hin rfl (by decide +kernel) rfl rfl (Nat.le_of_ble_eq_true rfl) dX7_init_37 (fun H locs hP hD hS => ?_)
  have hP : va_P G.1 vwCl [(b, oA 7 [.ref tq, .ref q1, .ref q2, .ref q3, .ref q4, .int 0, .int 0]), (q1, iA G 32 (fun _ => 0)), (q2, iA G 4 (fun _ => 0)), (q3, iA G 8 (fun _ => 0)), (q4, iA G 8 (fun _ => 0))] H := hP
  have hD : va_D A [(b, oA 7 [.ref tq, .ref q1, .ref q2, .ref q3, .ref q4, .int 0, .int 0]), (q1, iA G 32 (fun _ => 0)), (q2, iA G 4 (fun _ => 0)), (q3, iA G 8 (fun _ => 0)), (q4, iA G 8 (fun _ => 0))] := hD
  exact mN_vret hAe C (fun k => match k with | 1 => q1 | 2 => q2 | 3 => q3 | 4 => q4 | _ => 0) hP hD hS dX7_init_40

set_option maxRecDepth 100000 in
set_option maxHeartbeats 4000000 in
theorem c_X4_init (l : Launch) (G : gG) (sz b : Nat) : mN l yX4_init wsX4_init ({ frames := 1, cells := 1, slots := 8, locals := 20 }) 1 8 G sz [(b, oA 4 [.null])] (fun q => [(b, oA 4 [.ref (q 1)]), ((q 1), iA G 8 (fun _ => 0))]) [.ref b] := by
  refine mN.of (cc := cX4_init) (maxL := 1) (by decide) rfl (Nat.le_of_ble_eq_true rfl) rfl ?_
  intro zp ze zs zm zb zt zc ls A hAe C hin hO hP hK hD hS hA hl
  obtain ⟨hx, hb, hr, hml, hown, hts, hlk⟩ := id C
  have hl : lv_has ls 1 [(0, .ref b)] := hl
  have k0 := (fun w h => by revert w; decide +kernel : ∀ w ∈ wsX40, w ∈ wsX4_init)
  have k1 := hts (.fieldLink RX4 9 "DebtDowry$Matcher" "manOf" "[I") (by decide +kernel)
  refine lv_aload_n hx hb dX4_init_0 rfl (lv_at hl 0 rfl) ?_
  refine W.objInit hx hb hown (hts (.methodLink RX4 3 objectInit) (by decide +kernel)) (hts (.instanceMethod objectInit) (by decide +kernel)) (hts _ (List.mem_of_getElem? (i := 3) rfl)) rfl (by rw [hml]; exact hl.1) rfl dX4_init_1 (Nat.le_of_ble_eq_true rfl) (Nat.le_of_ble_eq_true rfl) ?_
  refine W.eq (g2 := F0 zm 4 ls []) rfl ?_
  refine lv_aload_n hx hb dX4_init_4 rfl (lv_at hl 0 rfl) ?_
  refine lv_bipush (v := 8) hx hb dX4_init_5 (by decide) ?_
  refine n_newI C (by decide +kernel) hK hP hD hS hA 8 (by decide) (by decide) (by decide) (Nat.le_of_ble_eq_true rfl) (Nat.le_of_ble_eq_true rfl) dX4_init_7 (fun q1 H hP hD hS => ?_)
  have hP : va_P G.1 vwCl [(b, oA 4 [.null]), (q1, iA G 8 (fun _ => 0))] H := hP
  have hD : va_D A [(b, oA 4 [.null]), (q1, iA G 8 (fun _ => 0))] := hD
  refine W.widen (k := 1) (n := 8) (by decide) (by decide) ?_
  refine va_putF (D := G.1) (ci := 4) (v := .ref q1) (ty := tyX4 0) (C := RX4) (T := TX4) (N := 1) hx hb hts (k0) tyX4 tyX4_ok nmX4 hown hK hP hD hS 0 rfl rfl 0 (by decide) k1 (fun _ h9 => h9) rfl hin rfl (by decide +kernel) rfl rfl (Nat.le_of_ble_eq_true rfl) dX4_init_9 (fun H locs hP hD hS => ?_)
  have hP : va_P G.1 vwCl [(b, oA 4 [.ref q1]), (q1, iA G 8 (fun _ => 0))] H := hP
  have hD : va_D A [(b, oA 4 [.ref q1]), (q1, iA G 8 (fun _ => 0))] := hD
  exact mN_vret hAe C (fun k => match k with | 1 => q1 | _ => 0) hP hD hS dX4_init_12

set_option maxRecDepth 100000 in
set_option maxHeartbeats 4000000 in
theorem c_X5_init (l : Launch) (G : gG) (sz b : Nat) : mN l yX5_init wsX5_init ({ frames := 1, cells := 1, slots := 1000, locals := 20 }) 1 1000 G sz [(b, oA 5 [.null, .int 0, .int 0])] (fun q => [(b, oA 5 [.ref (q 1), .int 0, .int 0]), ((q 1), iA G 1000 (fun _ => 0))]) [.ref b] := by
  refine mN.of (cc := cX5_init) (maxL := 1) (by decide) rfl (Nat.le_of_ble_eq_true rfl) rfl ?_
  intro zp ze zs zm zb zt zc ls A hAe C hin hO hP hK hD hS hA hl
  obtain ⟨hx, hb, hr, hml, hown, hts, hlk⟩ := id C
  have hl : lv_has ls 1 [(0, .ref b)] := hl
  have k0 := (fun w h => by revert w; decide +kernel : ∀ w ∈ wsX50, w ∈ wsX5_init)
  have k1 := hts (.fieldLink RX5 9 "DebtDowry$Planner" "cost" "[I") (by decide +kernel)
  refine lv_aload_n hx hb dX5_init_0 rfl (lv_at hl 0 rfl) ?_
  refine W.objInit hx hb hown (hts (.methodLink RX5 3 objectInit) (by decide +kernel)) (hts (.instanceMethod objectInit) (by decide +kernel)) (hts _ (List.mem_of_getElem? (i := 3) rfl)) rfl (by rw [hml]; exact hl.1) rfl dX5_init_1 (Nat.le_of_ble_eq_true rfl) (Nat.le_of_ble_eq_true rfl) ?_
  refine W.eq (g2 := F0 zm 4 ls []) rfl ?_
  refine lv_aload_n hx hb dX5_init_4 rfl (lv_at hl 0 rfl) ?_
  refine lv_sipush (v := 1000) hx hb dX5_init_5 (by decide) ?_
  refine n_newI C (by decide +kernel) hK hP hD hS hA 1000 (by decide) (by decide) (by decide) (Nat.le_of_ble_eq_true rfl) (Nat.le_of_ble_eq_true rfl) dX5_init_8 (fun q1 H hP hD hS => ?_)
  have hP : va_P G.1 vwCl [(b, oA 5 [.null, .int 0, .int 0]), (q1, iA G 1000 (fun _ => 0))] H := hP
  have hD : va_D A [(b, oA 5 [.null, .int 0, .int 0]), (q1, iA G 1000 (fun _ => 0))] := hD
  refine W.widen (k := 1) (n := 1000) (by decide) (by decide) ?_
  refine va_putF (D := G.1) (ci := 5) (v := .ref q1) (ty := tyX5 0) (C := RX5) (T := TX5) (N := 3) hx hb hts (k0) tyX5 tyX5_ok nmX5 hown hK hP hD hS 0 rfl rfl 0 (by decide) k1 (fun _ h9 => h9) rfl hin rfl (by decide +kernel) rfl rfl (Nat.le_of_ble_eq_true rfl) dX5_init_10 (fun H locs hP hD hS => ?_)
  have hP : va_P G.1 vwCl [(b, oA 5 [.ref q1, .int 0, .int 0]), (q1, iA G 1000 (fun _ => 0))] H := hP
  have hD : va_D A [(b, oA 5 [.ref q1, .int 0, .int 0]), (q1, iA G 1000 (fun _ => 0))] := hD
  exact mN_vret hAe C (fun k => match k with | 1 => q1 | _ => 0) hP hD hS dX5_init_13

set_option maxRecDepth 100000 in
set_option maxHeartbeats 4000000 in
theorem c_X1_init (l : Launch) (G : gG) (sz b : Nat) : mN l yX1_init wsX1_init ({ frames := 1, cells := 5, slots := 124, locals := 20 }) 5 124 G sz [(b, oA 1 [.null, .null, .null, .null, .int 0, .null, .int 0])] (fun q => [(b, oA 1 [.ref (q 1), .ref (q 2), .ref (q 3), .ref (q 4), .int 0, .ref (q 5), .int 0]), ((q 1), iA G 6 (fun _ => 0)), ((q 2), iA G 6 (fun _ => 0)), ((q 3), iA G 6 (fun _ => 0)), ((q 4), zA G 6 (fun _ => 0)), ((q 5), iA G 100 (fun _ => 0))]) [.ref b] := by
  refine mN.of (cc := cX1_init) (maxL := 1) (by decide) rfl (Nat.le_of_ble_eq_true rfl) rfl ?_
  intro zp ze zs zm zb zt zc ls A hAe C hin hO hP hK hD hS hA hl
  obtain ⟨hx, hb, hr, hml, hown, hts, hlk⟩ := id C
  have hl : lv_has ls 1 [(0, .ref b)] := hl
  have k0 := (fun w h => by revert w; decide +kernel : ∀ w ∈ wsX10, w ∈ wsX1_init)
  have k1 := hts (.fieldLink RX1 9 "DebtDowry$Cards" "person" "[I") (by decide +kernel)
  have k2 := hts (.fieldLink RX1 15 "DebtDowry$Cards" "creditor" "[I") (by decide +kernel)
  have k3 := hts (.fieldLink RX1 18 "DebtDowry$Cards" "quarters" "[I") (by decide +kernel)
  have k4 := hts (.fieldLink RX1 21 "DebtDowry$Cards" "civil" "[Z") (by decide +kernel)
  have k5 := hts (.fieldLink RX1 25 "DebtDowry$Cards" "sums" "[I") (by decide +kernel)
  refine lv_aload_n hx hb dX1_init_0 rfl (lv_at hl 0 rfl) ?_
  refine W.objInit hx hb hown (hts (.methodLink RX1 3 objectInit) (by decide +kernel)) (hts (.instanceMethod objectInit) (by decide +kernel)) (hts _ (List.mem_of_getElem? (i := 3) rfl)) rfl (by rw [hml]; exact hl.1) rfl dX1_init_1 (Nat.le_of_ble_eq_true rfl) (Nat.le_of_ble_eq_true rfl) ?_
  refine W.eq (g2 := F0 zm 4 ls []) rfl ?_
  refine lv_aload_n hx hb dX1_init_4 rfl (lv_at hl 0 rfl) ?_
  refine lv_bipush (v := 6) hx hb dX1_init_5 (by decide) ?_
  refine n_newI C (by decide +kernel) hK hP hD hS hA 6 (by decide) (by decide) (by decide) (Nat.le_of_ble_eq_true rfl) (Nat.le_of_ble_eq_true rfl) dX1_init_7 (fun q1 H hP hD hS => ?_)
  have hP : va_P G.1 vwCl [(b, oA 1 [.null, .null, .null, .null, .int 0, .null, .int 0]), (q1, iA G 6 (fun _ => 0))] H := hP
  have hD : va_D A [(b, oA 1 [.null, .null, .null, .null, .int 0, .null, .int 0]), (q1, iA G 6 (fun _ => 0))] := hD
  refine W.widen (k := 1) (n := 6) (by decide) (by decide) ?_
  refine va_putF (D := G.1) (ci := 1) (v := .ref q1) (ty := tyX1 0) (C := RX1) (T := TX1) (N := 7) hx hb hts (k0) tyX1 tyX1_ok nmX1 hown hK hP hD hS 0 rfl rfl 0 (by decide) k1 (fun _ h9 => h9) rfl hin rfl (by decide +kernel) rfl rfl (Nat.le_of_ble_eq_true rfl) dX1_init_9 (fun H locs hP hD hS => ?_)
  have hP : va_P G.1 vwCl [(b, oA 1 [.ref q1, .null, .null, .null, .int 0, .null, .int 0]), (q1, iA G 6 (fun _ => 0))] H := hP
  have hD : va_D A [(b, oA 1 [.ref q1, .null, .null, .null, .int 0, .null, .int 0]), (q1, iA G 6 (fun _ => 0))] := hD
  refine lv_aload_n hx hb dX1_init_12 rfl (lv_at hl 0 rfl) ?_
  refine lv_bipush (v := 6) hx hb dX1_init_13 (by decide) ?_
  refine n_newI C (by decide +kernel) hK hP hD hS hA 6 (by decide) (by decide) (by decide) (Nat.le_of_ble_eq_true rfl) (Nat.le_of_ble_eq_true rfl) dX1_init_15 (fun q2 H hP hD hS => ?_)
  have hP : va_P G.1 vwCl [(b, oA 1 [.ref q1, .null, .null, .null, .int 0, .null, .int 0]), (q1, iA G 6 (fun _ => 0)), (q2, iA G 6 (fun _ => 0))] H := hP
  have hD : va_D A [(b, oA 1 [.ref q1, .null, .null, .null, .int 0, .null, .int 0]), (q1, iA G 6 (fun _ => 0)), (q2, iA G 6 (fun _ => 0))] := hD
  refine W.widen (k := 2) (n := 12) (by decide) (by decide) ?_
  refine va_putF (D := G.1) (ci := 1) (v := .ref q2) (ty := tyX1 1) (C := RX1) (T := TX1) (N := 7) hx hb hts (k0) tyX1 tyX1_ok nmX1 hown hK hP hD hS 0 rfl rfl 1 (by decide) k2 (fun _ h9 => h9) rfl hin rfl (by decide +kernel) rfl rfl (Nat.le_of_ble_eq_true rfl) dX1_init_17 (fun H locs hP hD hS => ?_)
  have hP : va_P G.1 vwCl [(b, oA 1 [.ref q1, .ref q2, .null, .null, .int 0, .null, .int 0]), (q1, iA G 6 (fun _ => 0)), (q2, iA G 6 (fun _ => 0))] H := hP
  have hD : va_D A [(b, oA 1 [.ref q1, .ref q2, .null, .null, .int 0, .null, .int 0]), (q1, iA G 6 (fun _ => 0)), (q2, iA G 6 (fun _ => 0))] := hD
  refine lv_aload_n hx hb dX1_init_20 rfl (lv_at hl 0 rfl) ?_
  refine lv_bipush (v := 6) hx hb dX1_init_21 (by decide) ?_
  refine n_newI C (by decide +kernel) hK hP hD hS hA 6 (by decide) (by decide) (by decide) (Nat.le_of_ble_eq_true rfl) (Nat.le_of_ble_eq_true rfl) dX1_init_23 (fun q3 H hP hD hS => ?_)
  have hP : va_P G.1 vwCl [(b, oA 1 [.ref q1, .ref q2, .null, .null, .int 0, .null, .int 0]), (q1, iA G 6 (fun _ => 0)), (q2, iA G 6 (fun _ => 0)), (q3, iA G 6 (fun _ => 0))] H := hP
  have hD : va_D A [(b, oA 1 [.ref q1, .ref q2, .null, .null, .int 0, .null, .int 0]), (q1, iA G 6 (fun _ => 0)), (q2, iA G 6 (fun _ => 0)), (q3, iA G 6 (fun _ => 0))] := hD
  refine W.widen (k := 3) (n := 18) (by decide) (by decide) ?_
  refine va_putF (D := G.1) (ci := 1) (v := .ref q3) (ty := tyX1 2) (C := RX1) (T := TX1) (N := 7) hx hb hts (k0) tyX1 tyX1_ok nmX1 hown hK hP hD hS 0 rfl rfl 2 (by decide) k3 (fun _ h9 => h9) rfl hin rfl (by decide +kernel) rfl rfl (Nat.le_of_ble_eq_true rfl) dX1_init_25 (fun H locs hP hD hS => ?_)
  have hP : va_P G.1 vwCl [(b, oA 1 [.ref q1, .ref q2, .ref q3, .null, .int 0, .null, .int 0]), (q1, iA G 6 (fun _ => 0)), (q2, iA G 6 (fun _ => 0)), (q3, iA G 6 (fun _ => 0))] H := hP
  have hD : va_D A [(b, oA 1 [.ref q1, .ref q2, .ref q3, .null, .int 0, .null, .int 0]), (q1, iA G 6 (fun _ => 0)), (q2, iA G 6 (fun _ => 0)), (q3, iA G 6 (fun _ => 0))] := hD
  refine lv_aload_n hx hb dX1_init_28 rfl (lv_at hl 0 rfl) ?_
  refine lv_bipush (v := 6) hx hb dX1_init_29 (by decide) ?_
  refine n_newZ C (by decide +kernel) hK hP hD hS hA 6 (by decide) (by decide) (by decide) (Nat.le_of_ble_eq_true rfl) (Nat.le_of_ble_eq_true rfl) dX1_init_31 (fun q4 H hP hD hS => ?_)
  have hP : va_P G.1 vwCl [(b, oA 1 [.ref q1, .ref q2, .ref q3, .null, .int 0, .null, .int 0]), (q1, iA G 6 (fun _ => 0)), (q2, iA G 6 (fun _ => 0)), (q3, iA G 6 (fun _ => 0)), (q4, zA G 6 (fun _ => 0))] H := hP
  have hD : va_D A [(b, oA 1 [.ref q1, .ref q2, .ref q3, .null, .int 0, .null, .int 0]), (q1, iA G 6 (fun _ => 0)), (q2, iA G 6 (fun _ => 0)), (q3, iA G 6 (fun _ => 0)), (q4, zA G 6 (fun _ => 0))] := hD
  refine W.widen (k := 4) (n := 24) (by decide) (by decide) ?_
  refine va_putF (D := G.1) (ci := 1) (v := .ref q4) (ty := tyX1 3) (C := RX1) (T := TX1) (N := 7) hx hb hts (k0) tyX1 tyX1_ok nmX1 hown hK hP hD hS 0 rfl rfl 3 (by decide) k4 (fun _ h9 => h9) rfl hin rfl (by decide +kernel) rfl rfl (Nat.le_of_ble_eq_true rfl) dX1_init_33 (fun H locs hP hD hS => ?_)
  have hP : va_P G.1 vwCl [(b, oA 1 [.ref q1, .ref q2, .ref q3, .ref q4, .int 0, .null, .int 0]), (q1, iA G 6 (fun _ => 0)), (q2, iA G 6 (fun _ => 0)), (q3, iA G 6 (fun _ => 0)), (q4, zA G 6 (fun _ => 0))] H := hP
  have hD : va_D A [(b, oA 1 [.ref q1, .ref q2, .ref q3, .ref q4, .int 0, .null, .int 0]), (q1, iA G 6 (fun _ => 0)), (q2, iA G 6 (fun _ => 0)), (q3, iA G 6 (fun _ => 0)), (q4, zA G 6 (fun _ => 0))] := hD
  refine lv_aload_n hx hb dX1_init_36 rfl (lv_at hl 0 rfl) ?_
  refine lv_bipush (v := 100) hx hb dX1_init_37 (by decide) ?_
  refine n_newI C (by decide +kernel) hK hP hD hS hA 100 (by decide) (by decide) (by decide) (Nat.le_of_ble_eq_true rfl) (Nat.le_of_ble_eq_true rfl) dX1_init_39 (fun q5 H hP hD hS => ?_)
  have hP : va_P G.1 vwCl [(b, oA 1 [.ref q1, .ref q2, .ref q3, .ref q4, .int 0, .null, .int 0]), (q1, iA G 6 (fun _ => 0)), (q2, iA G 6 (fun _ => 0)), (q3, iA G 6 (fun _ => 0)), (q4, zA G 6 (fun _ => 0)), (q5, iA G 100 (fun _ => 0))] H := hP
  have hD : va_D A [(b, oA 1 [.ref q1, .ref q2, .ref q3, .ref q4, .int 0, .null, .int 0]), (q1, iA G 6 (fun _ => 0)), (q2, iA G 6 (fun _ => 0)), (q3, iA G 6 (fun _ => 0)), (q4, zA G 6 (fun _ => 0)), (q5, iA G 100 (fun _ => 0))] := hD
  refine W.widen (k := 5) (n := 124) (by decide) (by decide) ?_
  refine va_putF (D := G.1) (ci := 1) (v := .ref q5) (ty := tyX1 5) (C := RX1) (T := TX1) (N := 7) hx hb hts (k0) tyX1 tyX1_ok nmX1 hown hK hP hD hS 0 rfl rfl 5 (by decide) k5 (fun _ h9 => h9) rfl hin rfl (by decide +kernel) rfl rfl (Nat.le_of_ble_eq_true rfl) dX1_init_41 (fun H locs hP hD hS => ?_)
  have hP : va_P G.1 vwCl [(b, oA 1 [.ref q1, .ref q2, .ref q3, .ref q4, .int 0, .ref q5, .int 0]), (q1, iA G 6 (fun _ => 0)), (q2, iA G 6 (fun _ => 0)), (q3, iA G 6 (fun _ => 0)), (q4, zA G 6 (fun _ => 0)), (q5, iA G 100 (fun _ => 0))] H := hP
  have hD : va_D A [(b, oA 1 [.ref q1, .ref q2, .ref q3, .ref q4, .int 0, .ref q5, .int 0]), (q1, iA G 6 (fun _ => 0)), (q2, iA G 6 (fun _ => 0)), (q3, iA G 6 (fun _ => 0)), (q4, zA G 6 (fun _ => 0)), (q5, iA G 100 (fun _ => 0))] := hD
  exact mN_vret hAe C (fun k => match k with | 1 => q1 | 2 => q2 | 3 => q3 | 4 => q4 | 5 => q5 | _ => 0) hP hD hS dX1_init_44

set_option maxRecDepth 100000 in
set_option maxHeartbeats 4000000 in
theorem c_X0_init (l : Launch) (G : gG) (sz b : Nat) : mN l yX0_init wsX0_init ({ frames := 1, cells := 2, slots := 40, locals := 20 }) 2 40 G sz [(b, oA 0 [.null, .null, .int 0])] (fun q => [(b, oA 0 [.ref (q 1), .ref (q 2), .int 0]), ((q 1), iA G 20 (fun _ => 0)), ((q 2), iA G 20 (fun _ => 0))]) [.ref b] := by
  refine mN.of (cc := cX0_init) (maxL := 1) (by decide) rfl (Nat.le_of_ble_eq_true rfl) rfl ?_
  intro zp ze zs zm zb zt zc ls A hAe C hin hO hP hK hD hS hA hl
  obtain ⟨hx, hb, hr, hml, hown, hts, hlk⟩ := id C
  have hl : lv_has ls 1 [(0, .ref b)] := hl
  have k0 := (fun w h => by revert w; decide +kernel : ∀ w ∈ wsX00, w ∈ wsX0_init)
  have k1 := hts (.fieldLink RX0 9 "DebtDowry$Book" "person" "[I") (by decide +kernel)
  have k2 := hts (.fieldLink RX0 15 "DebtDowry$Book" "standing" "[I") (by decide +kernel)
  refine lv_aload_n hx hb dX0_init_0 rfl (lv_at hl 0 rfl) ?_
  refine W.objInit hx hb hown (hts (.methodLink RX0 3 objectInit) (by decide +kernel)) (hts (.instanceMethod objectInit) (by decide +kernel)) (hts _ (List.mem_of_getElem? (i := 3) rfl)) rfl (by rw [hml]; exact hl.1) rfl dX0_init_1 (Nat.le_of_ble_eq_true rfl) (Nat.le_of_ble_eq_true rfl) ?_
  refine W.eq (g2 := F0 zm 4 ls []) rfl ?_
  refine lv_aload_n hx hb dX0_init_4 rfl (lv_at hl 0 rfl) ?_
  refine lv_bipush (v := 20) hx hb dX0_init_5 (by decide) ?_
  refine n_newI C (by decide +kernel) hK hP hD hS hA 20 (by decide) (by decide) (by decide) (Nat.le_of_ble_eq_true rfl) (Nat.le_of_ble_eq_true rfl) dX0_init_7 (fun q1 H hP hD hS => ?_)
  have hP : va_P G.1 vwCl [(b, oA 0 [.null, .null, .int 0]), (q1, iA G 20 (fun _ => 0))] H := hP
  have hD : va_D A [(b, oA 0 [.null, .null, .int 0]), (q1, iA G 20 (fun _ => 0))] := hD
  refine W.widen (k := 1) (n := 20) (by decide) (by decide) ?_
  refine va_putF (D := G.1) (ci := 0) (v := .ref q1) (ty := tyX0 0) (C := RX0) (T := TX0) (N := 3) hx hb hts (k0) tyX0 tyX0_ok nmX0 hown hK hP hD hS 0 rfl rfl 0 (by decide) k1 (fun _ h9 => h9) rfl hin rfl (by decide +kernel) rfl rfl (Nat.le_of_ble_eq_true rfl) dX0_init_9 (fun H locs hP hD hS => ?_)
  have hP : va_P G.1 vwCl [(b, oA 0 [.ref q1, .null, .int 0]), (q1, iA G 20 (fun _ => 0))] H := hP
  have hD : va_D A [(b, oA 0 [.ref q1, .null, .int 0]), (q1, iA G 20 (fun _ => 0))] := hD
  refine lv_aload_n hx hb dX0_init_12 rfl (lv_at hl 0 rfl) ?_
  refine lv_bipush (v := 20) hx hb dX0_init_13 (by decide) ?_
  refine n_newI C (by decide +kernel) hK hP hD hS hA 20 (by decide) (by decide) (by decide) (Nat.le_of_ble_eq_true rfl) (Nat.le_of_ble_eq_true rfl) dX0_init_15 (fun q2 H hP hD hS => ?_)
  have hP : va_P G.1 vwCl [(b, oA 0 [.ref q1, .null, .int 0]), (q1, iA G 20 (fun _ => 0)), (q2, iA G 20 (fun _ => 0))] H := hP
  have hD : va_D A [(b, oA 0 [.ref q1, .null, .int 0]), (q1, iA G 20 (fun _ => 0)), (q2, iA G 20 (fun _ => 0))] := hD
  refine W.widen (k := 2) (n := 40) (by decide) (by decide) ?_
  refine va_putF (D := G.1) (ci := 0) (v := .ref q2) (ty := tyX0 1) (C := RX0) (T := TX0) (N := 3) hx hb hts (k0) tyX0 tyX0_ok nmX0 hown hK hP hD hS 0 rfl rfl 1 (by decide) k2 (fun _ h9 => h9) rfl hin rfl (by decide +kernel) rfl rfl (Nat.le_of_ble_eq_true rfl) dX0_init_17 (fun H locs hP hD hS => ?_)
  have hP : va_P G.1 vwCl [(b, oA 0 [.ref q1, .ref q2, .int 0]), (q1, iA G 20 (fun _ => 0)), (q2, iA G 20 (fun _ => 0))] H := hP
  have hD : va_D A [(b, oA 0 [.ref q1, .ref q2, .int 0]), (q1, iA G 20 (fun _ => 0)), (q2, iA G 20 (fun _ => 0))] := hD
  exact mN_vret hAe C (fun k => match k with | 1 => q1 | 2 => q2 | _ => 0) hP hD hS dX0_init_20

set_option maxRecDepth 100000 in
set_option maxHeartbeats 4000000 in
theorem c_X3_init (l : Launch) (G : gG) (sz b tq : Nat) : mN l yX3_init wsX3_init ({ frames := 2, cells := 5, slots := 59, locals := 45 }) 5 59 G sz [(b, oA 3 [.null, .int 0, .int 0])] (fun q => [(b, oA 3 [.ref (q 1), .int 0, .int 0]), ((q 1), oA 7 [.ref tq, .ref (q 2), .ref (q 3), .ref (q 4), .ref (q 5), .int 0, .int 0]), ((q 2), iA G 32 (fun _ => 0)), ((q 3), iA G 4 (fun _ => 0)), ((q 4), iA G 8 (fun _ => 0)), ((q 5), iA G 8 (fun _ => 0))]) [.ref b, .ref tq] := by
  refine mN.of (cc := cX3_init) (maxL := 2) (by decide) rfl (Nat.le_of_ble_eq_true rfl) rfl ?_
  intro zp ze zs zm zb zt zc ls A hAe C hin hO hP hK hD hS hA hl
  obtain ⟨hx, hb, hr, hml, hown, hts, hlk⟩ := id C
  have hl : lv_has ls 2 [(0, .ref b), (1, .ref tq)] := hl
  have k0 := (fun w h => by revert w; decide +kernel : ∀ w ∈ wsX70, w ∈ wsX3_init)
  have k1 := hts (.classLink RX3 7 RX7) (by decide +kernel)
  have k2 := hts (.instantiable RX7 7) (by decide +kernel)
  have k3 := hts (.initialized RX7) (by decide +kernel)
  have k4 := (fun w h => by revert w; decide +kernel : ∀ w ∈ wsX30, w ∈ wsX3_init)
  have k5 := hts (.fieldLink RX3 12 "DebtDowry$Image" "state" "LDebtDowry$State;") (by decide +kernel)
  refine lv_aload_n hx hb dX3_init_0 rfl (lv_at hl 0 rfl) ?_
  refine W.objInit hx hb hown (hts (.methodLink RX3 1 objectInit) (by decide +kernel)) (hts (.instanceMethod objectInit) (by decide +kernel)) (hts _ (List.mem_of_getElem? (i := 3) rfl)) rfl (by rw [hml]; exact hl.1) rfl dX3_init_1 (Nat.le_of_ble_eq_true rfl) (Nat.le_of_ble_eq_true rfl) ?_
  refine W.eq (g2 := F0 zm 4 ls []) rfl ?_
  refine lv_aload_n hx hb dX3_init_4 rfl (lv_at hl 0 rfl) ?_
  refine va_new (ci := 7) (fs := [.null, .null, .null, .null, .null, .int 0, .int 0]) (C := RX7) (T := TX7) (N := 7) hx hb hts (k0) tyX7 tyX7_ok hown k1 k2 k3 hK hP hD hS hA rfl (fun j hj => match j, hj with | 0, _ => rfl | 1, _ => rfl | 2, _ => rfl | 3, _ => rfl | 4, _ => rfl | 5, _ => rfl | 6, _ => rfl | j + 7, h => absurd h (by omega)) (Nat.le_of_ble_eq_true rfl) (Nat.le_of_ble_eq_true rfl) dX3_init_5 (fun q1 H hP hD hS => ?_)
  have hP : va_P G.1 vwCl ([(b, oA 3 [.null, .int 0, .int 0])] ++ [(q1, oA 7 [.null, .null, .null, .null, .null, .int 0, .int 0])]) H := hP
  have hD : va_D A ([(b, oA 3 [.null, .int 0, .int 0])] ++ [(q1, oA 7 [.null, .null, .null, .null, .null, .int 0, .int 0])]) := hD
  refine W.widen (k := 1) (n := 7) (by decide) (by decide) ?_
  refine lv_dup hx hb dX3_init_8 rfl ?_
  refine lv_aload_n hx hb dX3_init_9 rfl (lv_at hl 1 rfl) ?_
  refine n_ctor (X := [(b, oA 3 [.null, .int 0, .int 0])]) (As := [.ref tq]) (rest := [.ref q1, .ref b]) C (c_X7_init l G H.size q1 tq) gX3_init_X7_init rfl ⟨rfl, rfl⟩ (by decide +kernel) (by decide +kernel) (by decide +kernel) rfl (n := 1) (by decide +kernel) ⟨(Nat.le_of_ble_eq_true rfl), (Nat.le_of_ble_eq_true rfl)⟩ hO hK hP hD hS hA rfl hl.1 rfl (Nat.le_of_ble_eq_true rfl) dX3_init_10 ⟨(Nat.le_of_ble_eq_true rfl), (Nat.le_of_ble_eq_true rfl)⟩ (fun q2 H locs hP hD hS => ?_)
  have hP : va_P G.1 vwCl [(b, oA 3 [.null, .int 0, .int 0]), (q1, oA 7 [.ref tq, .ref (q2 1), .ref (q2 2), .ref (q2 3), .ref (q2 4), .int 0, .int 0]), ((q2 1), iA G 32 (fun _ => 0)), ((q2 2), iA G 4 (fun _ => 0)), ((q2 3), iA G 8 (fun _ => 0)), ((q2 4), iA G 8 (fun _ => 0))] H := hP
  have hD : va_D A [(b, oA 3 [.null, .int 0, .int 0]), (q1, oA 7 [.ref tq, .ref (q2 1), .ref (q2 2), .ref (q2 3), .ref (q2 4), .int 0, .int 0]), ((q2 1), iA G 32 (fun _ => 0)), ((q2 2), iA G 4 (fun _ => 0)), ((q2 3), iA G 8 (fun _ => 0)), ((q2 4), iA G 8 (fun _ => 0))] := hD
  refine W.widen (k := 5) (n := 59) (by decide) (by decide) ?_
  refine va_putF (D := G.1) (ci := 3) (v := .ref q1) (ty := tyX3 0) (C := RX3) (T := TX3) (N := 3) hx hb hts (k4) tyX3 tyX3_ok nmX3 hown hK hP hD hS 0 rfl rfl 0 (by decide) k5 (fun _ h9 => h9) rfl hin rfl (by decide +kernel) rfl rfl (Nat.le_of_ble_eq_true rfl) dX3_init_13 (fun H locs hP hD hS => ?_)
  have hP : va_P G.1 vwCl [(b, oA 3 [.ref q1, .int 0, .int 0]), (q1, oA 7 [.ref tq, .ref (q2 1), .ref (q2 2), .ref (q2 3), .ref (q2 4), .int 0, .int 0]), ((q2 1), iA G 32 (fun _ => 0)), ((q2 2), iA G 4 (fun _ => 0)), ((q2 3), iA G 8 (fun _ => 0)), ((q2 4), iA G 8 (fun _ => 0))] H := hP
  have hD : va_D A [(b, oA 3 [.ref q1, .int 0, .int 0]), (q1, oA 7 [.ref tq, .ref (q2 1), .ref (q2 2), .ref (q2 3), .ref (q2 4), .int 0, .int 0]), ((q2 1), iA G 32 (fun _ => 0)), ((q2 2), iA G 4 (fun _ => 0)), ((q2 3), iA G 8 (fun _ => 0)), ((q2 4), iA G 8 (fun _ => 0))] := hD
  exact mN_vret hAe C (fun k => match k with | 1 => q1 | 2 => (q2 1) | 3 => (q2 2) | 4 => (q2 3) | 5 => (q2 4) | _ => 0) hP hD hS dX3_init_16

set_option maxRecDepth 100000 in
set_option maxHeartbeats 4000000 in
theorem c_X6_init (l : Launch) (G : gG) (sz b : Nat) : mN l yX6_init wsX6_init ({ frames := 2, cells := 10, slots := 320, locals := 45 }) 10 320 G sz [(b, oA 6 [.null, .null, .null, .int 0, .int 0, .int 0, .int 0, .int 0])] (fun q => [(b, oA 6 [.ref (q 1), .ref (q 5), .ref (q 10), .int 0, .int 0, .int (-1), .int 0, .int 0]), ((q 1), oA 8 [.int 0, .int 0, .int 0, .int 0, .int 0, .int 0, .ref (q 2), .ref (q 3), .ref (q 4)]), ((q 2), iA G 4 (fun _ => 0)), ((q 3), iA G 4 (fun _ => 0)), ((q 4), iA G 4 (fun _ => 0)), ((q 5), oA 7 [.ref (q 1), .ref (q 6), .ref (q 7), .ref (q 8), .ref (q 9), .int 0, .int 0]), ((q 6), iA G 32 (fun _ => 0)), ((q 7), iA G 4 (fun _ => 0)), ((q 8), iA G 8 (fun _ => 0)), ((q 9), iA G 8 (fun _ => 0)), ((q 10), iA G 240 (fun _ => 0))]) [.ref b] := by
  refine mN.of (cc := cX6_init) (maxL := 1) (by decide) rfl (Nat.le_of_ble_eq_true rfl) rfl ?_
  intro zp ze zs zm zb zt zc ls A hAe C hin hO hP hK hD hS hA hl
  obtain ⟨hx, hb, hr, hml, hown, hts, hlk⟩ := id C
  have hl : lv_has ls 1 [(0, .ref b)] := hl
  have k0 := (fun w h => by revert w; decide +kernel : ∀ w ∈ wsX80, w ∈ wsX6_init)
  have k1 := hts (.classLink RX6 9 RX8) (by decide +kernel)
  have k2 := hts (.instantiable RX8 9) (by decide +kernel)
  have k3 := hts (.initialized RX8) (by decide +kernel)
  have k4 := (fun w h => by revert w; decide +kernel : ∀ w ∈ wsX60, w ∈ wsX6_init)
  have k5 := hts (.fieldLink RX6 12 "DebtDowry$Reader" "terms" "LDebtDowry$Terms;") (by decide +kernel)
  have k6 := (fun w h => by revert w; decide +kernel : ∀ w ∈ wsX70, w ∈ wsX6_init)
  have k7 := hts (.classLink RX6 18 RX7) (by decide +kernel)
  have k8 := hts (.instantiable RX7 7) (by decide +kernel)
  have k9 := hts (.initialized RX7) (by decide +kernel)
  have k10 := hts (.fieldLink RX6 23 "DebtDowry$Reader" "state" "LDebtDowry$State;") (by decide +kernel)
  have k11 := hts (.fieldLink RX6 27 "DebtDowry$Reader" "letters" "[I") (by decide +kernel)
  have k12 := hts (.fieldLink RX6 31 "DebtDowry$Reader" "faultAt" "I") (by decide +kernel)
  refine lv_aload_n hx hb dX6_init_0 rfl (lv_at hl 0 rfl) ?_
  refine W.objInit hx hb hown (hts (.methodLink RX6 3 objectInit) (by decide +kernel)) (hts (.instanceMethod objectInit) (by decide +kernel)) (hts _ (List.mem_of_getElem? (i := 3) rfl)) rfl (by rw [hml]; exact hl.1) rfl dX6_init_1 (Nat.le_of_ble_eq_true rfl) (Nat.le_of_ble_eq_true rfl) ?_
  refine W.eq (g2 := F0 zm 4 ls []) rfl ?_
  refine lv_aload_n hx hb dX6_init_4 rfl (lv_at hl 0 rfl) ?_
  refine va_new (ci := 8) (fs := [.int 0, .int 0, .int 0, .int 0, .int 0, .int 0, .null, .null, .null]) (C := RX8) (T := TX8) (N := 9) hx hb hts (k0) tyX8 tyX8_ok hown k1 k2 k3 hK hP hD hS hA rfl (fun j hj => match j, hj with | 0, _ => rfl | 1, _ => rfl | 2, _ => rfl | 3, _ => rfl | 4, _ => rfl | 5, _ => rfl | 6, _ => rfl | 7, _ => rfl | 8, _ => rfl | j + 9, h => absurd h (by omega)) (Nat.le_of_ble_eq_true rfl) (Nat.le_of_ble_eq_true rfl) dX6_init_5 (fun q1 H hP hD hS => ?_)
  have hP : va_P G.1 vwCl ([(b, oA 6 [.null, .null, .null, .int 0, .int 0, .int 0, .int 0, .int 0])] ++ [(q1, oA 8 [.int 0, .int 0, .int 0, .int 0, .int 0, .int 0, .null, .null, .null])]) H := hP
  have hD : va_D A ([(b, oA 6 [.null, .null, .null, .int 0, .int 0, .int 0, .int 0, .int 0])] ++ [(q1, oA 8 [.int 0, .int 0, .int 0, .int 0, .int 0, .int 0, .null, .null, .null])]) := hD
  refine W.widen (k := 1) (n := 9) (by decide) (by decide) ?_
  refine lv_dup hx hb dX6_init_8 rfl ?_
  refine n_ctorN (X := [(b, oA 6 [.null, .null, .null, .int 0, .int 0, .int 0, .int 0, .int 0])]) (As := []) (rest := [.ref q1, .ref b]) C (c_X8_init l G H.size q1 ) gX6_init_X8_init_n11 rfl ⟨rfl, rfl⟩ (by decide +kernel) hO.2.2.1 (by decide +kernel) rfl (n := 0) (by decide +kernel) ⟨(Nat.le_of_ble_eq_true rfl), (Nat.le_of_ble_eq_true rfl)⟩ hO hK hP hD hS hA rfl hl.1 rfl (Nat.le_of_ble_eq_true rfl) dX6_init_9 ⟨(Nat.le_of_ble_eq_true rfl), (Nat.le_of_ble_eq_true rfl)⟩ (fun q2 H locs hP hD hS => ?_)
  have hP : va_P G.1 vwCl [(b, oA 6 [.null, .null, .null, .int 0, .int 0, .int 0, .int 0, .int 0]), (q1, oA 8 [.int 0, .int 0, .int 0, .int 0, .int 0, .int 0, .ref (q2 1), .ref (q2 2), .ref (q2 3)]), ((q2 1), iA G 4 (fun _ => 0)), ((q2 2), iA G 4 (fun _ => 0)), ((q2 3), iA G 4 (fun _ => 0))] H := hP
  have hD : va_D A [(b, oA 6 [.null, .null, .null, .int 0, .int 0, .int 0, .int 0, .int 0]), (q1, oA 8 [.int 0, .int 0, .int 0, .int 0, .int 0, .int 0, .ref (q2 1), .ref (q2 2), .ref (q2 3)]), ((q2 1), iA G 4 (fun _ => 0)), ((q2 2), iA G 4 (fun _ => 0)), ((q2 3), iA G 4 (fun _ => 0))] := hD
  refine W.widen (k := 4) (n := 21) (by decide) (by decide) ?_
  refine va_putF (D := G.1) (ci := 6) (v := .ref q1) (ty := tyX6 0) (C := RX6) (T := TX6) (N := 8) hx hb hts (k4) tyX6 tyX6_ok nmX6 hown hK hP hD hS 0 rfl rfl 0 (by decide) k5 (fun _ h9 => h9) rfl hin rfl (by decide +kernel) rfl rfl (Nat.le_of_ble_eq_true rfl) dX6_init_12 (fun H locs hP hD hS => ?_)
  have hP : va_P G.1 vwCl [(b, oA 6 [.ref q1, .null, .null, .int 0, .int 0, .int 0, .int 0, .int 0]), (q1, oA 8 [.int 0, .int 0, .int 0, .int 0, .int 0, .int 0, .ref (q2 1), .ref (q2 2), .ref (q2 3)]), ((q2 1), iA G 4 (fun _ => 0)), ((q2 2), iA G 4 (fun _ => 0)), ((q2 3), iA G 4 (fun _ => 0))] H := hP
  have hD : va_D A [(b, oA 6 [.ref q1, .null, .null, .int 0, .int 0, .int 0, .int 0, .int 0]), (q1, oA 8 [.int 0, .int 0, .int 0, .int 0, .int 0, .int 0, .ref (q2 1), .ref (q2 2), .ref (q2 3)]), ((q2 1), iA G 4 (fun _ => 0)), ((q2 2), iA G 4 (fun _ => 0)), ((q2 3), iA G 4 (fun _ => 0))] := hD
  refine lv_aload_n hx hb dX6_init_15 rfl (lv_at hl 0 rfl) ?_
  refine va_new (ci := 7) (fs := [.null, .null, .null, .null, .null, .int 0, .int 0]) (C := RX7) (T := TX7) (N := 7) hx hb hts (k6) tyX7 tyX7_ok hown k7 k8 k9 hK hP hD hS hA rfl (fun j hj => match j, hj with | 0, _ => rfl | 1, _ => rfl | 2, _ => rfl | 3, _ => rfl | 4, _ => rfl | 5, _ => rfl | 6, _ => rfl | j + 7, h => absurd h (by omega)) (Nat.le_of_ble_eq_true rfl) (Nat.le_of_ble_eq_true rfl) dX6_init_16 (fun q3 H hP hD hS => ?_)
  have hP : va_P G.1 vwCl ([(b, oA 6 [.ref q1, .null, .null, .int 0, .int 0, .int 0, .int 0, .int 0]), (q1, oA 8 [.int 0, .int 0, .int 0, .int 0, .int 0, .int 0, .ref (q2 1), .ref (q2 2), .ref (q2 3)]), ((q2 1), iA G 4 (fun _ => 0)), ((q2 2), iA G 4 (fun _ => 0)), ((q2 3), iA G 4 (fun _ => 0))] ++ [(q3, oA 7 [.null, .null, .null, .null, .null, .int 0, .int 0])]) H := hP
  have hD : va_D A ([(b, oA 6 [.ref q1, .null, .null, .int 0, .int 0, .int 0, .int 0, .int 0]), (q1, oA 8 [.int 0, .int 0, .int 0, .int 0, .int 0, .int 0, .ref (q2 1), .ref (q2 2), .ref (q2 3)]), ((q2 1), iA G 4 (fun _ => 0)), ((q2 2), iA G 4 (fun _ => 0)), ((q2 3), iA G 4 (fun _ => 0))] ++ [(q3, oA 7 [.null, .null, .null, .null, .null, .int 0, .int 0])]) := hD
  refine W.widen (k := 5) (n := 28) (by decide) (by decide) ?_
  refine lv_dup hx hb dX6_init_19 rfl ?_
  refine lv_aload_n hx hb dX6_init_20 rfl (lv_at hl 0 rfl) ?_
  refine va_get (D := G.1) (ci := 6) (v := .ref q1) (C := RX6) (T := TX6) (N := 8) hx hb hts (k4) hown hK hP 0 rfl rfl 0 (by decide) k5 (fun _ h9 => h9) rfl dX6_init_21 ?_
  refine n_ctor (X := [(b, oA 6 [.ref q1, .null, .null, .int 0, .int 0, .int 0, .int 0, .int 0]), (q1, oA 8 [.int 0, .int 0, .int 0, .int 0, .int 0, .int 0, .ref (q2 1), .ref (q2 2), .ref (q2 3)]), ((q2 1), iA G 4 (fun _ => 0)), ((q2 2), iA G 4 (fun _ => 0)), ((q2 3), iA G 4 (fun _ => 0))]) (As := [.ref q1]) (rest := [.ref q3, .ref b]) C (c_X7_init l G H.size q3 q1) gX6_init_X7_init rfl ⟨rfl, rfl⟩ (by decide +kernel) (by decide +kernel) (by decide +kernel) rfl (n := 1) (by decide +kernel) ⟨(Nat.le_of_ble_eq_true rfl), (Nat.le_of_ble_eq_true rfl)⟩ hO hK hP hD hS hA rfl hl.1 rfl (Nat.le_of_ble_eq_true rfl) dX6_init_24 ⟨(Nat.le_of_ble_eq_true rfl), (Nat.le_of_ble_eq_true rfl)⟩ (fun q4 H locs hP hD hS => ?_)
  have hP : va_P G.1 vwCl [(b, oA 6 [.ref q1, .null, .null, .int 0, .int 0, .int 0, .int 0, .int 0]), (q1, oA 8 [.int 0, .int 0, .int 0, .int 0, .int 0, .int 0, .ref (q2 1), .ref (q2 2), .ref (q2 3)]), ((q2 1), iA G 4 (fun _ => 0)), ((q2 2), iA G 4 (fun _ => 0)), ((q2 3), iA G 4 (fun _ => 0)), (q3, oA 7 [.ref q1, .ref (q4 1), .ref (q4 2), .ref (q4 3), .ref (q4 4), .int 0, .int 0]), ((q4 1), iA G 32 (fun _ => 0)), ((q4 2), iA G 4 (fun _ => 0)), ((q4 3), iA G 8 (fun _ => 0)), ((q4 4), iA G 8 (fun _ => 0))] H := hP
  have hD : va_D A [(b, oA 6 [.ref q1, .null, .null, .int 0, .int 0, .int 0, .int 0, .int 0]), (q1, oA 8 [.int 0, .int 0, .int 0, .int 0, .int 0, .int 0, .ref (q2 1), .ref (q2 2), .ref (q2 3)]), ((q2 1), iA G 4 (fun _ => 0)), ((q2 2), iA G 4 (fun _ => 0)), ((q2 3), iA G 4 (fun _ => 0)), (q3, oA 7 [.ref q1, .ref (q4 1), .ref (q4 2), .ref (q4 3), .ref (q4 4), .int 0, .int 0]), ((q4 1), iA G 32 (fun _ => 0)), ((q4 2), iA G 4 (fun _ => 0)), ((q4 3), iA G 8 (fun _ => 0)), ((q4 4), iA G 8 (fun _ => 0))] := hD
  refine W.widen (k := 9) (n := 80) (by decide) (by decide) ?_
  refine va_putF (D := G.1) (ci := 6) (v := .ref q3) (ty := tyX6 1) (C := RX6) (T := TX6) (N := 8) hx hb hts (k4) tyX6 tyX6_ok nmX6 hown hK hP hD hS 0 rfl rfl 1 (by decide) k10 (fun _ h9 => h9) rfl hin rfl (by decide +kernel) rfl rfl (Nat.le_of_ble_eq_true rfl) dX6_init_27 (fun H locs hP hD hS => ?_)
  have hP : va_P G.1 vwCl [(b, oA 6 [.ref q1, .ref q3, .null, .int 0, .int 0, .int 0, .int 0, .int 0]), (q1, oA 8 [.int 0, .int 0, .int 0, .int 0, .int 0, .int 0, .ref (q2 1), .ref (q2 2), .ref (q2 3)]), ((q2 1), iA G 4 (fun _ => 0)), ((q2 2), iA G 4 (fun _ => 0)), ((q2 3), iA G 4 (fun _ => 0)), (q3, oA 7 [.ref q1, .ref (q4 1), .ref (q4 2), .ref (q4 3), .ref (q4 4), .int 0, .int 0]), ((q4 1), iA G 32 (fun _ => 0)), ((q4 2), iA G 4 (fun _ => 0)), ((q4 3), iA G 8 (fun _ => 0)), ((q4 4), iA G 8 (fun _ => 0))] H := hP
  have hD : va_D A [(b, oA 6 [.ref q1, .ref q3, .null, .int 0, .int 0, .int 0, .int 0, .int 0]), (q1, oA 8 [.int 0, .int 0, .int 0, .int 0, .int 0, .int 0, .ref (q2 1), .ref (q2 2), .ref (q2 3)]), ((q2 1), iA G 4 (fun _ => 0)), ((q2 2), iA G 4 (fun _ => 0)), ((q2 3), iA G 4 (fun _ => 0)), (q3, oA 7 [.ref q1, .ref (q4 1), .ref (q4 2), .ref (q4 3), .ref (q4 4), .int 0, .int 0]), ((q4 1), iA G 32 (fun _ => 0)), ((q4 2), iA G 4 (fun _ => 0)), ((q4 3), iA G 8 (fun _ => 0)), ((q4 4), iA G 8 (fun _ => 0))] := hD
  refine lv_aload_n hx hb dX6_init_30 rfl (lv_at hl 0 rfl) ?_
  refine lv_sipush (v := 240) hx hb dX6_init_31 (by decide) ?_
  refine n_newI C (by decide +kernel) hK hP hD hS hA 240 (by decide) (by decide) (by decide) (Nat.le_of_ble_eq_true rfl) (Nat.le_of_ble_eq_true rfl) dX6_init_34 (fun q5 H hP hD hS => ?_)
  have hP : va_P G.1 vwCl [(b, oA 6 [.ref q1, .ref q3, .null, .int 0, .int 0, .int 0, .int 0, .int 0]), (q1, oA 8 [.int 0, .int 0, .int 0, .int 0, .int 0, .int 0, .ref (q2 1), .ref (q2 2), .ref (q2 3)]), ((q2 1), iA G 4 (fun _ => 0)), ((q2 2), iA G 4 (fun _ => 0)), ((q2 3), iA G 4 (fun _ => 0)), (q3, oA 7 [.ref q1, .ref (q4 1), .ref (q4 2), .ref (q4 3), .ref (q4 4), .int 0, .int 0]), ((q4 1), iA G 32 (fun _ => 0)), ((q4 2), iA G 4 (fun _ => 0)), ((q4 3), iA G 8 (fun _ => 0)), ((q4 4), iA G 8 (fun _ => 0)), (q5, iA G 240 (fun _ => 0))] H := hP
  have hD : va_D A [(b, oA 6 [.ref q1, .ref q3, .null, .int 0, .int 0, .int 0, .int 0, .int 0]), (q1, oA 8 [.int 0, .int 0, .int 0, .int 0, .int 0, .int 0, .ref (q2 1), .ref (q2 2), .ref (q2 3)]), ((q2 1), iA G 4 (fun _ => 0)), ((q2 2), iA G 4 (fun _ => 0)), ((q2 3), iA G 4 (fun _ => 0)), (q3, oA 7 [.ref q1, .ref (q4 1), .ref (q4 2), .ref (q4 3), .ref (q4 4), .int 0, .int 0]), ((q4 1), iA G 32 (fun _ => 0)), ((q4 2), iA G 4 (fun _ => 0)), ((q4 3), iA G 8 (fun _ => 0)), ((q4 4), iA G 8 (fun _ => 0)), (q5, iA G 240 (fun _ => 0))] := hD
  refine W.widen (k := 10) (n := 320) (by decide) (by decide) ?_
  refine va_putF (D := G.1) (ci := 6) (v := .ref q5) (ty := tyX6 2) (C := RX6) (T := TX6) (N := 8) hx hb hts (k4) tyX6 tyX6_ok nmX6 hown hK hP hD hS 0 rfl rfl 2 (by decide) k11 (fun _ h9 => h9) rfl hin rfl (by decide +kernel) rfl rfl (Nat.le_of_ble_eq_true rfl) dX6_init_36 (fun H locs hP hD hS => ?_)
  have hP : va_P G.1 vwCl [(b, oA 6 [.ref q1, .ref q3, .ref q5, .int 0, .int 0, .int 0, .int 0, .int 0]), (q1, oA 8 [.int 0, .int 0, .int 0, .int 0, .int 0, .int 0, .ref (q2 1), .ref (q2 2), .ref (q2 3)]), ((q2 1), iA G 4 (fun _ => 0)), ((q2 2), iA G 4 (fun _ => 0)), ((q2 3), iA G 4 (fun _ => 0)), (q3, oA 7 [.ref q1, .ref (q4 1), .ref (q4 2), .ref (q4 3), .ref (q4 4), .int 0, .int 0]), ((q4 1), iA G 32 (fun _ => 0)), ((q4 2), iA G 4 (fun _ => 0)), ((q4 3), iA G 8 (fun _ => 0)), ((q4 4), iA G 8 (fun _ => 0)), (q5, iA G 240 (fun _ => 0))] H := hP
  have hD : va_D A [(b, oA 6 [.ref q1, .ref q3, .ref q5, .int 0, .int 0, .int 0, .int 0, .int 0]), (q1, oA 8 [.int 0, .int 0, .int 0, .int 0, .int 0, .int 0, .ref (q2 1), .ref (q2 2), .ref (q2 3)]), ((q2 1), iA G 4 (fun _ => 0)), ((q2 2), iA G 4 (fun _ => 0)), ((q2 3), iA G 4 (fun _ => 0)), (q3, oA 7 [.ref q1, .ref (q4 1), .ref (q4 2), .ref (q4 3), .ref (q4 4), .int 0, .int 0]), ((q4 1), iA G 32 (fun _ => 0)), ((q4 2), iA G 4 (fun _ => 0)), ((q4 3), iA G 8 (fun _ => 0)), ((q4 4), iA G 8 (fun _ => 0)), (q5, iA G 240 (fun _ => 0))] := hD
  refine lv_aload_n hx hb dX6_init_39 rfl (lv_at hl 0 rfl) ?_
  refine lv_iconst (v := -1) hx hb dX6_init_40 (by decide) ?_
  refine va_put (D := G.1) (ci := 6) (v := .int (-1)) (ty := tyX6 5) (C := RX6) (T := TX6) (N := 8) hx hb hts (k4) tyX6 tyX6_ok nmX6 hown hK hP hD hS 0 rfl rfl 5 (by decide) k12 (fun _ h9 => h9) rfl (by decide +kernel) rfl rfl (Nat.le_of_ble_eq_true rfl) dX6_init_41 (fun H locs hP hD hS => ?_)
  have hP : va_P G.1 vwCl [(b, oA 6 [.ref q1, .ref q3, .ref q5, .int 0, .int 0, .int (-1), .int 0, .int 0]), (q1, oA 8 [.int 0, .int 0, .int 0, .int 0, .int 0, .int 0, .ref (q2 1), .ref (q2 2), .ref (q2 3)]), ((q2 1), iA G 4 (fun _ => 0)), ((q2 2), iA G 4 (fun _ => 0)), ((q2 3), iA G 4 (fun _ => 0)), (q3, oA 7 [.ref q1, .ref (q4 1), .ref (q4 2), .ref (q4 3), .ref (q4 4), .int 0, .int 0]), ((q4 1), iA G 32 (fun _ => 0)), ((q4 2), iA G 4 (fun _ => 0)), ((q4 3), iA G 8 (fun _ => 0)), ((q4 4), iA G 8 (fun _ => 0)), (q5, iA G 240 (fun _ => 0))] H := hP
  have hD : va_D A [(b, oA 6 [.ref q1, .ref q3, .ref q5, .int 0, .int 0, .int (-1), .int 0, .int 0]), (q1, oA 8 [.int 0, .int 0, .int 0, .int 0, .int 0, .int 0, .ref (q2 1), .ref (q2 2), .ref (q2 3)]), ((q2 1), iA G 4 (fun _ => 0)), ((q2 2), iA G 4 (fun _ => 0)), ((q2 3), iA G 4 (fun _ => 0)), (q3, oA 7 [.ref q1, .ref (q4 1), .ref (q4 2), .ref (q4 3), .ref (q4 4), .int 0, .int 0]), ((q4 1), iA G 32 (fun _ => 0)), ((q4 2), iA G 4 (fun _ => 0)), ((q4 3), iA G 8 (fun _ => 0)), ((q4 4), iA G 8 (fun _ => 0)), (q5, iA G 240 (fun _ => 0))] := hD
  exact mN_vret hAe C (fun k => match k with | 1 => q1 | 2 => (q2 1) | 3 => (q2 2) | 4 => (q2 3) | 5 => q3 | 6 => (q4 1) | 7 => (q4 2) | 8 => (q4 3) | 9 => (q4 4) | 10 => q5 | _ => 0) hP hD hS dX6_init_44
