theorem hd_X10_begins : yX10_begins.cls = RX10 ∧ yX10_begins.cls ≠ "java/lang/invoke/MethodHandle" ∧ yX10_begins.cls ≠ "java/lang/invoke/VarHandle" ∧ (parseMethodDescriptor yX10_begins.desc).map (fun d => d.parameters.length) = some 0 := by decide +kernel
set_option maxRecDepth 100000 in
set_option maxHeartbeats 4000000 in
theorem c_X10_begins (l : Launch) (G : gG) (a : Nat → Nat) (i : Nat → Int32) (j : Nat → Int32) (t : Nat → Int32) (r : Nat → Int32) (n : Nat → Int32) (d : Nat → Int32) (ps : Nat → Int32) (im : Nat → Int32) (kp : Nat → Int32) (tx : Nat → Int32) (cd : Nat → Int32) (bk : Nat → Int32) (py : Nat → Int32) (pt : Nat → Int32) (mt : Nat → Int32) : mX l yX10_begins wsX10_begins ({ frames := 1, cells := 0, slots := 0, locals := 25 }) G (mW G a i j t r n d ps im kp tx cd bk py pt mt) (mW G a (begI i) j t r (begN t n) d ps im (begK kp) tx cd bk py pt mt) [.ref (a 0)] (.returned none) := by
  refine mX.of (cc := cX10_begins) (maxL := 2) (ret := none) (by decide) rfl (Nat.le_of_ble_eq_true rfl) ?_
  intro zp ze zs zm zb zt zc ls A hAe C hP hK hD hS hl
  obtain ⟨hx, hb, hr, hml, hown, hts, hlk⟩ := id C
  have hl : lv_has ls 2 [(0, .ref (a 0))] := hl
  have k0 := hts (.fieldLink RX10 7 "DebtDowryModel" "town" "[I") (by decide +kernel)
  have k1 := (fun w h => by revert w; decide +kernel : ∀ w ∈ wsX100, w ∈ wsX10_begins)
  have k2 := hts (.fieldLink RX10 16 "DebtDowryModel" "now" "[I") (by decide +kernel)
  have k3 := hts (.fieldLink RX10 69 "DebtDowryModel" "undos" "I") (by decide +kernel)
  have k4 := hts (.fieldLink RX10 72 "DebtDowryModel" "cardMany" "I") (by decide +kernel)
  have k5 := hts (.fieldLink RX10 75 "DebtDowryModel" "bookMany" "I") (by decide +kernel)
  have k6 := hts (.fieldLink RX10 28 "DebtDowryModel" "kept" "[Z") (by decide +kernel)
  have k7 := hts (.constantLong RX10 61 (44)) (by decide +kernel)
  have k8 := hts (.constantLong RX10 63 (51)) (by decide +kernel)
  refine lv_aload_n hx hb dX10_begins_0 rfl (lv_at hl 0 rfl) ?_
  refine va_get (D := G.1) (ci := 10) (v := .ref (a 1)) (C := RX10) (T := TX10) (N := 25) hx hb hts k1 hown hK hP 0 rfl rfl 0 (by decide) k0 (fun _ h9 => h9) rfl dX10_begins_1 ?_
  refine lv_bipush (v := 22) hx hb dX10_begins_4 (by decide) ?_
  refine lv_aload_n hx hb dX10_begins_6 rfl (lv_at hl 0 rfl) ?_
  refine va_get (D := G.1) (ci := 10) (v := .ref (a 3)) (C := RX10) (T := TX10) (N := 25) hx hb hts k1 hown hK hP 0 rfl rfl 2 (by decide) k2 (fun _ h9 => h9) rfl dX10_begins_7 ?_
  refine lv_iconst (v := 0) hx hb dX10_begins_10 (by decide) ?_
  refine lv_bipush (v := 32) hx hb dX10_begins_11 (by decide) ?_
  refine cX_S (n := 5) (As := [.ref (a 1), .int (nI 22), .ref (a 3), .int (nI 0), .int (nI 32)]) (rest := []) (wsn := mW G a i j t r (va_cpy t n 22 0 32) d ps im kp tx cd bk py pt mt) C (c_X10_copies l G (a 1) (a 3) 54 54 t n  22 0 32 (by omega) (by omega) (by decide)) gX10_begins_X10_copies rfl ⟨rfl, rfl⟩ hd_X10_copies ⟨(Nat.le_of_ble_eq_true rfl), (Nat.le_of_ble_eq_true rfl)⟩ hK hP hD hS [1, 3] (by decide) rfl (cpW_f.trans cpW_f.symm) rfl (mW_f.trans mW_f.symm) rfl hl.1 rfl (Nat.le_of_ble_eq_true rfl) dX10_begins_13 ⟨(Nat.le_of_ble_eq_true rfl), (Nat.le_of_ble_eq_true rfl)⟩ (fun H locs hP hD hS => ?_)
  refine lv_aload_n hx hb dX10_begins_16 rfl (lv_at hl 0 rfl) ?_
  refine va_get (D := G.1) (ci := 10) (v := .ref (a 1)) (C := RX10) (T := TX10) (N := 25) hx hb hts k1 hown hK hP 0 rfl rfl 0 (by decide) k0 (fun _ h9 => h9) rfl dX10_begins_17 ?_
  refine lv_iconst (v := 5) hx hb dX10_begins_20 (by decide) ?_
  refine lv_aload_n hx hb dX10_begins_21 rfl (lv_at hl 0 rfl) ?_
  refine va_get (D := G.1) (ci := 10) (v := .ref (a 3)) (C := RX10) (T := TX10) (N := 25) hx hb hts k1 hown hK hP 0 rfl rfl 2 (by decide) k2 (fun _ h9 => h9) rfl dX10_begins_22 ?_
  refine lv_bipush (v := 32) hx hb dX10_begins_25 (by decide) ?_
  refine lv_iconst (v := 4) hx hb dX10_begins_27 (by decide) ?_
  refine cX_S (n := 5) (As := [.ref (a 1), .int (nI 5), .ref (a 3), .int (nI 32), .int (nI 4)]) (rest := []) (wsn := mW G a i j t r (va_cpy t (va_cpy t n 22 0 32) 5 32 4) d ps im kp tx cd bk py pt mt) C (c_X10_copies l G (a 1) (a 3) 54 54 t (va_cpy t n 22 0 32)  5 32 4 (by omega) (by omega) (by decide)) gX10_begins_X10_copies rfl ⟨rfl, rfl⟩ hd_X10_copies ⟨(Nat.le_of_ble_eq_true rfl), (Nat.le_of_ble_eq_true rfl)⟩ hK hP hD hS [1, 3] (by decide) rfl (cpW_f.trans cpW_f.symm) rfl (mW_f.trans mW_f.symm) rfl hl.1 rfl (Nat.le_of_ble_eq_true rfl) dX10_begins_28 ⟨(Nat.le_of_ble_eq_true rfl), (Nat.le_of_ble_eq_true rfl)⟩ (fun H locs hP hD hS => ?_)
  refine lv_bipush (v := 36) hx hb dX10_begins_31 (by decide) ?_
  refine lv_istore_n (lv' := [(1, .int 36), (0, .ref (a 0))]) hx hb dX10_begins_33 rfl hl (by decide) rfl (fun ls hl => ?_)
  refine wl_X (B := 54) (i0 := 36) (Inv := fun i1 H locs ls => va_P G.1 vwCl (mW G a i j t r (rng (va_cpy t (va_cpy t n 22 0 32) 5 32 4) (fun k => if inB (nI k) 44 51 then -1 else 0) 36 i1) d ps im kp tx cd bk py pt mt) H ∧ va_D A (mW G a i j t r (rng (va_cpy t (va_cpy t n 22 0 32) 5 32 4) (fun k => if inB (nI k) 44 51 then -1 else 0) 36 i1) d ps im kp tx cd bk py pt mt) ∧ va_S A zs.heap H locs ∧ lv_has ls 2 [(0, .ref (a 0)), (1, .int (nI i1))] ∧ 36 ≤ i1) (by omega) ⟨by rw [rng_0]; exact hP, by rw [rng_0]; exact hD, hS, lv_sub hl [1, 0] (rfl), (by omega)⟩ ?_
  rintro i1 H locs ls hle34 ⟨hP, hD, hS, hl, hge⟩ ih34
  refine lv_iload_n hx hb dX10_begins_34 rfl (lv_at hl 1 rfl) ?_
  refine lv_bipush (v := 54) hx hb dX10_begins_35 (by decide) ?_
  refine n_icmp_ge (tgt := 71) hx hb dX10_begins_37 (by decide) (u := i1) (v := 54) rfl rfl (by omega) (by omega) (fun cq1 => ?_) (fun cq1 => ?_)
  · skip
    obtain rfl : i1 = 54 := by omega
    refine lv_aload_n hx hb dX10_begins_71 rfl (lv_at hl 0 rfl) ?_
    refine lv_iconst (v := 0) hx hb dX10_begins_72 (by decide) ?_
    refine n_put (D := G.1) (wsn := mW G a (upd i 5 0) j t r (rng (va_cpy t (va_cpy t n 22 0 32) 5 32 4) (fun k => if inB (nI k) 44 51 then -1 else 0) 36 54) d ps im kp tx cd bk py pt mt) (ci := 10) (v := .int 0) (ty := .int) (C := RX10) (T := TX10) (N := 25) hx hb hts k1 tyX10 tyX10_ok nmX10 hown hK hP hD hS 0 rfl rfl 5 (by decide) k3 (fun _ h9 => h9) rfl (by decide +kernel) rfl rfl (Nat.le_of_ble_eq_true rfl) rfl dX10_begins_73 (fun H locs hP hD hS => ?_)
    refine lv_aload_n hx hb dX10_begins_76 rfl (lv_at hl 0 rfl) ?_
    refine lv_iconst (v := 0) hx hb dX10_begins_77 (by decide) ?_
    refine n_put (D := G.1) (wsn := mW G a (upd (upd i 5 0) 13 0) j t r (rng (va_cpy t (va_cpy t n 22 0 32) 5 32 4) (fun k => if inB (nI k) 44 51 then -1 else 0) 36 54) d ps im kp tx cd bk py pt mt) (ci := 10) (v := .int 0) (ty := .int) (C := RX10) (T := TX10) (N := 25) hx hb hts k1 tyX10 tyX10_ok nmX10 hown hK hP hD hS 0 rfl rfl 13 (by decide) k4 (fun _ h9 => h9) rfl (by decide +kernel) rfl rfl (Nat.le_of_ble_eq_true rfl) rfl dX10_begins_78 (fun H locs hP hD hS => ?_)
    refine lv_aload_n hx hb dX10_begins_81 rfl (lv_at hl 0 rfl) ?_
    refine lv_iconst (v := 0) hx hb dX10_begins_82 (by decide) ?_
    refine n_put (D := G.1) (wsn := mW G a (upd (upd (upd i 5 0) 13 0) 15 0) j t r (rng (va_cpy t (va_cpy t n 22 0 32) 5 32 4) (fun k => if inB (nI k) 44 51 then -1 else 0) 36 54) d ps im kp tx cd bk py pt mt) (ci := 10) (v := .int 0) (ty := .int) (C := RX10) (T := TX10) (N := 25) hx hb hts k1 tyX10 tyX10_ok nmX10 hown hK hP hD hS 0 rfl rfl 15 (by decide) k5 (fun _ h9 => h9) rfl (by decide +kernel) rfl rfl (Nat.le_of_ble_eq_true rfl) rfl dX10_begins_83 (fun H locs hP hD hS => ?_)
    refine lv_aload_n hx hb dX10_begins_86 rfl (lv_at hl 0 rfl) ?_
    refine va_get (D := G.1) (ci := 10) (v := .ref (a 7)) (C := RX10) (T := TX10) (N := 25) hx hb hts k1 hown hK hP 0 rfl rfl 7 (by decide) k6 (fun _ h9 => h9) rfl dX10_begins_87 ?_
    refine lv_iconst (v := 0) hx hb dX10_begins_90 (by decide) ?_
    refine lv_iconst (v := 0) hx hb dX10_begins_91 (by decide) ?_
    refine n_zast hx hb hK hP hD hS 7 1 rfl rfl (x := 0) (j := 0) rfl (by decide) (by decide) (by decide) dX10_begins_92 (wsn := mW G a (upd (upd (upd i 5 0) 13 0) 15 0) j t r (rng (va_cpy t (va_cpy t n 22 0 32) 5 32 4) (fun k => if inB (nI k) 44 51 then -1 else 0) 36 54) d ps im (upd kp 0 0) tx cd bk py pt mt) rfl (fun H locs hP hD hS => ?_)
    refine lv_aload_n hx hb dX10_begins_93 rfl (lv_at hl 0 rfl) ?_
    refine va_get (D := G.1) (ci := 10) (v := .ref (a 7)) (C := RX10) (T := TX10) (N := 25) hx hb hts k1 hown hK hP 0 rfl rfl 7 (by decide) k6 (fun _ h9 => h9) rfl dX10_begins_94 ?_
    refine lv_iconst (v := 1) hx hb dX10_begins_97 (by decide) ?_
    refine lv_iconst (v := 0) hx hb dX10_begins_98 (by decide) ?_
    refine n_zast hx hb hK hP hD hS 7 1 rfl rfl (x := 0) (j := 1) rfl (by decide) (by decide) (by decide) dX10_begins_99 (wsn := mW G a (upd (upd (upd i 5 0) 13 0) 15 0) j t r (rng (va_cpy t (va_cpy t n 22 0 32) 5 32 4) (fun k => if inB (nI k) 44 51 then -1 else 0) 36 54) d ps im (upd (upd kp 0 0) 1 0) tx cd bk py pt mt) rfl (fun H locs hP hD hS => ?_)
    have hP : va_P G.1 vwCl (mW G a (begI i) j t r (begN t n) d ps im (begK kp) tx cd bk py pt mt) H := by rw [show (begI i) = (upd (upd (upd i 5 0) 13 0) 15 0) from rfl, show (begN t n) = (rng (va_cpy t (va_cpy t n 22 0 32) 5 32 4) (fun k => if inB (nI k) 44 51 then -1 else 0) 36 54) from rfl, show (begK kp) = (upd (upd kp 0 0) 1 0) from rfl]; exact hP
    exact mX_vret hAe C hP hS dX10_begins_100
  · skip
    refine lv_aload_n hx hb dX10_begins_40 rfl (lv_at hl 0 rfl) ?_
    refine va_get (D := G.1) (ci := 10) (v := .ref (a 3)) (C := RX10) (T := TX10) (N := 25) hx hb hts k1 hown hK hP 0 rfl rfl 2 (by decide) k2 (fun _ h9 => h9) rfl dX10_begins_41 ?_
    refine lv_iload_n hx hb dX10_begins_44 rfl (lv_at hl 1 rfl) ?_
    refine lv_iload_n hx hb dX10_begins_45 rfl (lv_at hl 1 rfl) ?_
    refine lv_i2l (v := (nI i1).toInt64) hx hb dX10_begins_46 rfl ?_
    refine lv_ldc2 hx hb hown k7 dX10_begins_47 ?_
    refine lv_ldc2 hx hb hown k8 dX10_begins_50 ?_
    refine cR_S (n := 3) (As := [.long ((nI i1).toInt64), .long 44, .long 51]) (rest := [.int (nI i1), .ref (a 3)]) C (c_X10_in l G    (nI i1) ((nI i1).toInt64) rfl 44 44 rfl 51 51 rfl ) gX10_begins_X10_in rfl ⟨rfl, rfl⟩ hd_X10_in ⟨(Nat.le_of_ble_eq_true rfl), (Nat.le_of_ble_eq_true rfl)⟩ hK (hP.sub [] rfl) rfl hl.1 rfl (Nat.le_of_ble_eq_true rfl) dX10_begins_53 ⟨(Nat.le_of_ble_eq_true rfl), (Nat.le_of_ble_eq_true rfl)⟩ ?_
    refine b_if_eq (tgt := 63) hx hb dX10_begins_56 (by decide) (fun cq2 => ?_) (fun cq2 => ?_)
    · skip
      have QQ := cq2
      refine lv_iconst (v := 0) hx hb dX10_begins_63 (by decide) ?_
      refine n_iast hx hb hK hP hD hS 3 0 rfl rfl (x := 0) (j := i1) rfl (by omega) (by decide) dX10_begins_64 (wsn := mW G a i j t r (upd (rng (va_cpy t (va_cpy t n 22 0 32) 5 32 4) (fun k => if inB (nI k) 44 51 then -1 else 0) 36 i1) i1 0) d ps im kp tx cd bk py pt mt) rfl (fun H locs hP hD hS => ?_)
      refine lv_iinc (v := nI (i1 + 1)) (lv' := [(1, .int (nI (i1 + 1))), (0, .ref (a 0))]) hx hb dX10_begins_65 hl (k := 1) rfl (by rw [show (nI i1 : Int32) = nI i1 from rfl]; exact nI_add _ 1) (by decide) rfl (fun ls hl => ?_)
      refine lv_goto (tgt := 34) hx hb dX10_begins_68 (by decide) ?_
      have e3 : (upd (rng (va_cpy t (va_cpy t n 22 0 32) 5 32 4) (fun k => if inB (nI k) 44 51 then -1 else 0) 36 i1) i1 0) = rng (va_cpy t (va_cpy t n 22 0 32) 5 32 4) (fun k => if inB (nI k) 44 51 then -1 else 0) 36 (i1 + 1) := rng_v (by omega) (by first | exact (if_pos QQ).symm | exact (if_neg QQ).symm)
      rw [e3] at hP hD
      exact ih34 _ _ _ (by omega) ⟨hP, hD, hS, lv_sub hl [1, 0] (rfl), (by omega)⟩
    · skip
      have QQ := cq2
      refine lv_iconst (v := (-1)) hx hb dX10_begins_59 (by decide) ?_
      refine lv_goto (tgt := 64) hx hb dX10_begins_60 (by decide) ?_
      refine n_iast hx hb hK hP hD hS 3 0 rfl rfl (x := (-1)) (j := i1) rfl (by omega) (by decide) dX10_begins_64 (wsn := mW G a i j t r (upd (rng (va_cpy t (va_cpy t n 22 0 32) 5 32 4) (fun k => if inB (nI k) 44 51 then -1 else 0) 36 i1) i1 (-1)) d ps im kp tx cd bk py pt mt) rfl (fun H locs hP hD hS => ?_)
      refine lv_iinc (v := nI (i1 + 1)) (lv' := [(1, .int (nI (i1 + 1))), (0, .ref (a 0))]) hx hb dX10_begins_65 hl (k := 1) rfl (by rw [show (nI i1 : Int32) = nI i1 from rfl]; exact nI_add _ 1) (by decide) rfl (fun ls hl => ?_)
      refine lv_goto (tgt := 34) hx hb dX10_begins_68 (by decide) ?_
      have e4 : (upd (rng (va_cpy t (va_cpy t n 22 0 32) 5 32 4) (fun k => if inB (nI k) 44 51 then -1 else 0) 36 i1) i1 (-1)) = rng (va_cpy t (va_cpy t n 22 0 32) 5 32 4) (fun k => if inB (nI k) 44 51 then -1 else 0) 36 (i1 + 1) := rng_v (by omega) (by first | exact (if_pos QQ).symm | exact (if_neg QQ).symm)
      rw [e4] at hP hD
      exact ih34 _ _ _ (by omega) ⟨hP, hD, hS, lv_sub hl [1, 0] (rfl), (by omega)⟩
theorem hd_X10_feed : yX10_feed.cls = RX10 ∧ yX10_feed.cls ≠ "java/lang/invoke/MethodHandle" ∧ yX10_feed.cls ≠ "java/lang/invoke/VarHandle" ∧ (parseMethodDescriptor yX10_feed.desc).map (fun d => d.parameters.length) = some 1 := by decide +kernel
set_option maxRecDepth 100000 in
set_option maxHeartbeats 4000000 in
theorem c_X10_feed (l : Launch) (G : gG) (a : Nat → Nat) (i : Nat → Int32) (j : Nat → Int32) (t : Nat → Int32) (r : Nat → Int32) (n : Nat → Int32) (d : Nat → Int32) (ps : Nat → Int32) (im : Nat → Int32) (kp : Nat → Int32) (tx : Nat → Int32) (cd : Nat → Int32) (bk : Nat → Int32) (py : Nat → Int32) (pt : Nat → Int32) (mt : Nat → Int32) (sz : Nat) (x : Int32) (hsz : i 10 = nI sz) (hs : sz ≤ 240) : mX l yX10_feed wsX10_feed ({ frames := 1, cells := 0, slots := 0, locals := 25 }) G (mW G a i j t r n d ps im kp tx cd bk py pt mt) (mW G a (if okFd sz x then upd i 10 (nI (sz + 1)) else i) j t r n d ps im kp (if okFd sz x then upd tx sz x else tx) cd bk py pt mt) [.ref (a 0), .int x] (.returned (some (.int (fdR sz x)))) := by
  refine mX.of (cc := cX10_feed) (maxL := 2) (ret := (some .int)) (by decide) rfl (Nat.le_of_ble_eq_true rfl) ?_
  intro zp ze zs zm zb zt zc ls A hAe C hP hK hD hS hl
  obtain ⟨hx, hb, hr, hml, hown, hts, hlk⟩ := id C
  have hl : lv_has ls 2 [(0, .ref (a 0)), (1, .int x)] := hl
  have k0 := hts (.constantLong RX10 78 (255)) (by decide +kernel)
  have k1 := hts (.fieldLink RX10 81 "DebtDowryModel" "size" "I") (by decide +kernel)
  have k2 := (fun w h => by revert w; decide +kernel : ∀ w ∈ wsX100, w ∈ wsX10_feed)
  have k3 := hts (.fieldLink RX10 32 "DebtDowryModel" "text" "[I") (by decide +kernel)
  have k4 := hts (.constant RX10 84 (-1000000004)) (by decide +kernel)
  have k5 := hts (.constant RX10 80 (-1000000002)) (by decide +kernel)
  refine lv_iload_n hx hb dX10_feed_0 rfl (lv_at hl 1 rfl) ?_
  refine lv_i2l (v := x.toInt64) hx hb dX10_feed_1 rfl ?_
  refine lv_lconst (v := 0) hx hb dX10_feed_2 (by decide) ?_
  refine lv_ldc2 hx hb hown k0 dX10_feed_3 ?_
  refine cR_S (n := 3) (As := [.long x.toInt64, .long 0, .long 255]) (rest := []) C (c_X10_in l G    x x.toInt64 rfl 0 0 rfl 255 255 rfl ) gX10_feed_X10_in rfl ⟨rfl, rfl⟩ hd_X10_in ⟨(Nat.le_of_ble_eq_true rfl), (Nat.le_of_ble_eq_true rfl)⟩ hK (hP.sub [] rfl) rfl hl.1 rfl (Nat.le_of_ble_eq_true rfl) dX10_feed_6 ⟨(Nat.le_of_ble_eq_true rfl), (Nat.le_of_ble_eq_true rfl)⟩ ?_
  refine b_if_ne (tgt := 15) hx hb dX10_feed_9 (by decide) (fun cq1 => ?_) (fun cq1 => ?_)
  · skip
    refine lv_aload_n hx hb dX10_feed_15 rfl (lv_at hl 0 rfl) ?_
    refine va_get (D := G.1) (ci := 10) (v := .int (i 10)) (C := RX10) (T := TX10) (N := 25) hx hb hts k2 hown hK hP 0 rfl rfl 10 (by decide) k1 (fun _ h9 => h9) rfl dX10_feed_16 ?_
    refine lv_sipush (v := 240) hx hb dX10_feed_19 (by decide) ?_
    refine n_icmp_ne (tgt := 28) hx hb dX10_feed_22 (by decide) (u := sz) (v := 240) hsz rfl (by omega) (by omega) (fun cq2 => ?_) (fun cq2 => ?_)
    · skip
      have hne : ¬ sz = 240 := cq2
      refine lv_aload_n hx hb dX10_feed_28 rfl (lv_at hl 0 rfl) ?_
      refine va_get (D := G.1) (ci := 10) (v := .ref (a 8)) (C := RX10) (T := TX10) (N := 25) hx hb hts k2 hown hK hP 0 rfl rfl 9 (by decide) k3 (fun _ h9 => h9) rfl dX10_feed_29 ?_
      refine lv_aload_n hx hb dX10_feed_32 rfl (lv_at hl 0 rfl) ?_
      refine va_get (D := G.1) (ci := 10) (v := .int (i 10)) (C := RX10) (T := TX10) (N := 25) hx hb hts k2 hown hK hP 0 rfl rfl 10 (by decide) k1 (fun _ h9 => h9) rfl dX10_feed_33 ?_
      refine lv_iload_n hx hb dX10_feed_36 rfl (lv_at hl 1 rfl) ?_
      refine n_iast hx hb hK hP hD hS 8 0 rfl rfl (x := x) (j := sz) hsz (by omega) (by decide) dX10_feed_37 (wsn := mW G a i j t r n d ps im kp (upd tx sz x) cd bk py pt mt) rfl (fun H locs hP hD hS => ?_)
      refine lv_aload_n hx hb dX10_feed_38 rfl (lv_at hl 0 rfl) ?_
      refine lv_dup hx hb dX10_feed_39 rfl ?_
      refine va_get (D := G.1) (ci := 10) (v := .int (i 10)) (C := RX10) (T := TX10) (N := 25) hx hb hts k2 hown hK hP 0 rfl rfl 10 (by decide) k1 (fun _ h9 => h9) rfl dX10_feed_40 ?_
      refine lv_iconst (v := 1) hx hb dX10_feed_43 (by decide) ?_
      refine n_iadd hx hb dX10_feed_44 (u := sz) (v := 1) hsz rfl (j := sz + 1) (by omega) ?_
      refine n_put (D := G.1) (wsn := mW G a (upd i 10 (nI (sz + 1))) j t r n d ps im kp (upd tx sz x) cd bk py pt mt) (ci := 10) (v := .int (nI (sz + 1))) (ty := .int) (C := RX10) (T := TX10) (N := 25) hx hb hts k2 tyX10 tyX10_ok nmX10 hown hK hP hD hS 0 rfl rfl 10 (by decide) k1 (fun _ h9 => h9) rfl (by decide +kernel) rfl rfl (Nat.le_of_ble_eq_true rfl) rfl dX10_feed_45 (fun H locs hP hD hS => ?_)
      refine lv_aload_n hx hb dX10_feed_48 rfl (lv_at hl 0 rfl) ?_
      refine va_get (D := G.1) (ci := 10) (v := .int (nI (sz + 1))) (C := RX10) (T := TX10) (N := 25) hx hb hts k2 hown hK hP 0 rfl rfl 10 (by decide) k1 (fun _ h9 => h9) rfl dX10_feed_49 ?_
      have hP : va_P G.1 vwCl (mW G a (if okFd sz x then upd i 10 (nI (sz + 1)) else i) j t r n d ps im kp (if okFd sz x then upd tx sz x else tx) cd bk py pt mt) H := by rw [show (if okFd sz x then upd i 10 (nI (sz + 1)) else i) = (upd i 10 (nI (sz + 1))) from by first | rfl | simp [cq1, cq2, hne], show (if okFd sz x then upd tx sz x else tx) = (upd tx sz x) from by first | rfl | simp [cq1, cq2, hne]]; exact hP
      exact mX_iret hAe C hP hS dX10_feed_52 (by simp [fdR, cq1, cq2, hne])
    · skip
      refine lv_ldc hx hb hown k4 dX10_feed_25 ?_
      have hP : va_P G.1 vwCl (mW G a (if okFd sz x then upd i 10 (nI (sz + 1)) else i) j t r n d ps im kp (if okFd sz x then upd tx sz x else tx) cd bk py pt mt) zs.heap := by rw [show (if okFd sz x then upd i 10 (nI (sz + 1)) else i) = i from by first | rfl | simp [cq1, cq2], show (if okFd sz x then upd tx sz x else tx) = tx from by first | rfl | simp [cq1, cq2]]; exact hP
      exact mX_iret hAe C hP hS dX10_feed_27 (by simp [fdR, cq1, cq2])
  · skip
    refine lv_ldc hx hb hown k5 dX10_feed_12 ?_
    have hP : va_P G.1 vwCl (mW G a (if okFd sz x then upd i 10 (nI (sz + 1)) else i) j t r n d ps im kp (if okFd sz x then upd tx sz x else tx) cd bk py pt mt) zs.heap := by rw [show (if okFd sz x then upd i 10 (nI (sz + 1)) else i) = i from by first | rfl | simp [cq1], show (if okFd sz x then upd tx sz x else tx) = tx from by first | rfl | simp [cq1]]; exact hP
    exact mX_iret hAe C hP hS dX10_feed_14 (by simp [fdR, cq1])
theorem hd_X10_fault : yX10_fault.cls = RX10 ∧ yX10_fault.cls ≠ "java/lang/invoke/MethodHandle" ∧ yX10_fault.cls ≠ "java/lang/invoke/VarHandle" ∧ (parseMethodDescriptor yX10_fault.desc).map (fun d => d.parameters.length) = some 0 := by decide +kernel
set_option maxRecDepth 100000 in
set_option maxHeartbeats 4000000 in
theorem c_X10_fault (l : Launch) (G : gG) (a : Nat → Nat) (i : Nat → Int32) (j : Nat → Int32) (t : Nat → Int32) (r : Nat → Int32) (n : Nat → Int32) (d : Nat → Int32) (ps : Nat → Int32) (im : Nat → Int32) (kp : Nat → Int32) (tx : Nat → Int32) (cd : Nat → Int32) (bk : Nat → Int32) (py : Nat → Int32) (pt : Nat → Int32) (mt : Nat → Int32) : mR l yX10_fault wsX10_fault ({ frames := 0, cells := 0, slots := 0, locals := 0 }) G (mW G a i j t r n d ps im kp tx cd bk py pt mt) [.ref (a 0)] (i 11) := by
  refine mR.of (cc := cX10_fault) (maxL := 1) (ret := (some .int)) (by decide) rfl (Nat.le_of_ble_eq_true rfl) ?_
  intro zp ze zs zm zb zt zc ls C hP hK hl
  obtain ⟨hx, hb, hr, hml, hown, hts, hlk⟩ := id C
  have hl : lv_has ls 1 [(0, .ref (a 0))] := hl
  have k0 := hts (.fieldLink RX10 35 "DebtDowryModel" "fault" "I") (by decide +kernel)
  have k1 := (fun w h => by revert w; decide +kernel : ∀ w ∈ wsX100, w ∈ wsX10_fault)
  refine lv_aload_n hx hb dX10_fault_0 rfl (lv_at hl 0 rfl) ?_
  refine va_get (D := G.1) (ci := 10) (v := .int (i 11)) (C := RX10) (T := TX10) (N := 25) hx hb hts k1 hown hK hP 0 rfl rfl 11 (by decide) k0 (fun _ h9 => h9) rfl dX10_fault_1 ?_
  exact mR_iret C dX10_fault_4 (rfl)
theorem hd_X10_takes : yX10_takes.cls = RX10 ∧ yX10_takes.cls ≠ "java/lang/invoke/MethodHandle" ∧ yX10_takes.cls ≠ "java/lang/invoke/VarHandle" ∧ (parseMethodDescriptor yX10_takes.desc).map (fun d => d.parameters.length) = some 2 := by decide +kernel
set_option maxRecDepth 100000 in
set_option maxHeartbeats 4000000 in
theorem c_X10_takes (l : Launch) (G : gG) (a : Nat → Nat) (i : Nat → Int32) (j : Nat → Int32) (t : Nat → Int32) (r : Nat → Int32) (n : Nat → Int32) (d : Nat → Int32) (ps : Nat → Int32) (im : Nat → Int32) (kp : Nat → Int32) (tx : Nat → Int32) (cd : Nat → Int32) (bk : Nat → Int32) (py : Nat → Int32) (pt : Nat → Int32) (mt : Nat → Int32) (nc : Nat) (np : Nat) (p : Nat) (s : Nat) (hT : tw t nc np) (hp : p < 8) : mX l yX10_takes wsX10_takes ({ frames := 2, cells := 0, slots := 0, locals := 45 }) G (mW G a i j t r n d ps im kp tx cd bk py pt mt) (mW G a i j t r n (tkE t n (va_cpy n d 0 0 54) p s nc) ps im kp tx cd bk py pt mt) [.ref (a 0), .int (nI p), .int (nI s)] (.returned (some (.int (tkS t n p s nc)))) := by
  refine mX.of (cc := cX10_takes) (maxL := 7) (ret := (some .int)) (by decide) rfl (Nat.le_of_ble_eq_true rfl) ?_
  intro zp ze zs zm zb zt zc ls A hAe C hP hK hD hS hl
  obtain ⟨hx, hb, hr, hml, hown, hts, hlk⟩ := id C
  have hl : lv_has ls 7 [(0, .ref (a 0)), (1, .int (nI p)), (2, .int (nI s))] := hl
  have hT2 := hT.2.2
  have k0 := hts (.fieldLink RX10 7 "DebtDowryModel" "town" "[I") (by decide +kernel)
  have k1 := (fun w h => by revert w; decide +kernel : ∀ w ∈ wsX100, w ∈ wsX10_takes)
  have k2 := hts (.fieldLink RX10 16 "DebtDowryModel" "now" "[I") (by decide +kernel)
  have k3 := hts (.constant RX10 248 (1000000)) (by decide +kernel)
  have k4 := hts (.fieldLink RX10 19 "DebtDowryModel" "aside" "[I") (by decide +kernel)
  refine lv_iconst (v := 0) hx hb dX10_takes_0 (by decide) ?_
  refine lv_istore_n (lv' := [(3, .int 0), (0, .ref (a 0)), (1, .int (nI p)), (2, .int (nI s))]) hx hb dX10_takes_1 rfl hl (by decide) rfl (fun ls hl => ?_)
  refine lv_aload_n hx hb dX10_takes_2 rfl (lv_at hl 1 rfl) ?_
  refine cX_V (Cn := RX10) (n := 0) (As := []) (rest := []) (wsn := mW G a i j t r n (va_cpy n d 0 0 54) ps im kp tx cd bk py pt mt) C (c_X10_layAside l G a i j t r n d ps im kp tx cd bk py pt mt   ) gX10_takes_X10_layAside rfl ⟨rfl, rfl⟩ hd_X10_layAside ⟨(Nat.le_of_ble_eq_true rfl), (Nat.le_of_ble_eq_true rfl)⟩ hK hP hD hS [0, 1, 2, 3, 4, 5, 6, 7, 8, 9, 10, 11, 12, 13] (by decide) rfl (mW_f.trans mW_f.symm) rfl (mW_f.trans mW_f.symm) (va_recv hK hP (ci := 10) (q0 := 0) rfl rfl) rfl hl.1 rfl (Nat.le_of_ble_eq_true rfl) dX10_takes_3 ⟨(Nat.le_of_ble_eq_true rfl), (Nat.le_of_ble_eq_true rfl)⟩ (fun H locs hP hD hS => ?_)
  refine lv_iconst (v := 0) hx hb dX10_takes_6 (by decide) ?_
  refine lv_istore (lv' := [(4, .int 0), (3, .int 0), (0, .ref (a 0)), (1, .int (nI p)), (2, .int (nI s))]) hx hb dX10_takes_7 hl (by decide) rfl (fun ls hl => ?_)
  refine wl_X (B := nc) (i0 := 0) (Inv := fun i1 H locs ls => va_P G.1 vwCl (mW G a i j t r n (tkE t n (va_cpy n d 0 0 54) p s i1) ps im kp tx cd bk py pt mt) H ∧ va_D A (mW G a i j t r n (tkE t n (va_cpy n d 0 0 54) p s i1) ps im kp tx cd bk py pt mt) ∧ va_S A zs.heap H locs ∧ lv_has ls 7 [(0, .ref (a 0)), (1, .int (nI p)), (2, .int (nI s)), (3, .int (tkS t n p s i1)), (4, .int (nI i1))] ∧ True) (by omega) ⟨hP, hD, hS, lv_sub hl [2, 3, 4, 1, 0] (rfl), trivial⟩ ?_
  rintro i1 H locs ls hle9 ⟨hP, hD, hS, hl, -⟩ ih9
  refine lv_iload hx hb dX10_takes_9 (lv_at hl 4 rfl) ?_
  refine lv_aload_n hx hb dX10_takes_11 rfl (lv_at hl 0 rfl) ?_
  refine va_get (D := G.1) (ci := 10) (v := .ref (a 1)) (C := RX10) (T := TX10) (N := 25) hx hb hts k1 hown hK hP 0 rfl rfl 0 (by decide) k0 (fun _ h9 => h9) rfl dX10_takes_12 ?_
  refine lv_iconst (v := 3) hx hb dX10_takes_15 (by decide) ?_
  refine n_iald hx hb hK hP 1 0 rfl rfl (j := 3) rfl (by decide) (by decide) dX10_takes_16 ?_
  refine n_icmp_ge (tgt := 158) hx hb dX10_takes_17 (by decide) (u := i1) (v := nc) rfl hT.1 (by omega) (by omega) (fun cq1 => ?_) (fun cq1 => ?_)
  · skip
    obtain rfl : nc = i1 := by omega
    refine lv_iload_n hx hb dX10_takes_158 rfl (lv_at hl 3 rfl) ?_
    exact mX_iret hAe C hP hS dX10_takes_159 (rfl)
  · skip
    refine lv_iload_n hx hb dX10_takes_20 rfl (lv_at hl 2 rfl) ?_
    refine lv_iload hx hb dX10_takes_21 (lv_at hl 4 rfl) ?_
    refine cR_S (n := 2) (As := [.int (nI s), .int (nI i1)]) (rest := []) C (c_X10_has l G    (nI s) i1 ) gX10_takes_X10_has rfl ⟨rfl, rfl⟩ hd_X10_has ⟨(Nat.le_of_ble_eq_true rfl), (Nat.le_of_ble_eq_true rfl)⟩ hK (hP.sub [] rfl) rfl hl.1 rfl (Nat.le_of_ble_eq_true rfl) dX10_takes_23 ⟨(Nat.le_of_ble_eq_true rfl), (Nat.le_of_ble_eq_true rfl)⟩ ?_
    refine b_if_eq (tgt := 152) hx hb dX10_takes_26 (by decide) (fun cq2 => ?_) (fun cq2 => ?_)
    · skip
      have hset := cq2
      refine lv_iinc (v := nI (i1 + 1)) (lv' := [(4, .int (nI (i1 + 1))), (0, .ref (a 0)), (1, .int (nI p)), (2, .int (nI s)), (3, .int (tkS t n p s i1))]) hx hb dX10_takes_152 hl (k := 4) rfl (by rw [show (nI i1 : Int32) = nI i1 from rfl]; exact nI_add _ 1) (by decide) rfl (fun ls hl => ?_)
      refine lv_goto (tgt := 9) hx hb dX10_takes_155 (by decide) ?_
      have e3 : tkS t n p s i1 = tkS t n p s (i1 + 1) := by first | exact (if_neg hset).symm | (show _ = ite _ _ _; rw [if_pos hset]; first | rw [if_pos hmay] | rw [if_neg hmay])
      have e4 : tkE t n (va_cpy n d 0 0 54) p s i1 = tkE t n (va_cpy n d 0 0 54) p s (i1 + 1) := by first | exact (if_neg hset).symm | exact (if_pos hset).symm
      rw [e4] at hP hD
      exact ih9 _ _ _ (by omega) ⟨hP, hD, hS, lv_sub hl [1, 2, 3, 4, 0] (by rw [← e3]; rfl), trivial⟩
    · skip
      have hset := cq2
      refine lv_aload_n hx hb dX10_takes_29 rfl (lv_at hl 0 rfl) ?_
      refine va_get (D := G.1) (ci := 10) (v := .ref (a 1)) (C := RX10) (T := TX10) (N := 25) hx hb hts k1 hown hK hP 0 rfl rfl 0 (by decide) k0 (fun _ h9 => h9) rfl dX10_takes_30 ?_
      refine lv_bipush (v := 9) hx hb dX10_takes_33 (by decide) ?_
      refine lv_iload hx hb dX10_takes_35 (lv_at hl 4 rfl) ?_
      refine n_iadd hx hb dX10_takes_37 (u := 9) (v := i1) rfl rfl (j := 9 + i1) (by omega) ?_
      refine n_iald hx hb hK hP 1 0 rfl rfl (j := 9 + i1) rfl (by omega) (by decide) dX10_takes_38 ?_
      refine lv_aload_n hx hb dX10_takes_39 rfl (lv_at hl 0 rfl) ?_
      refine va_get (D := G.1) (ci := 10) (v := .ref (a 3)) (C := RX10) (T := TX10) (N := 25) hx hb hts k1 hown hK hP 0 rfl rfl 2 (by decide) k2 (fun _ h9 => h9) rfl dX10_takes_40 ?_
      refine lv_iconst (v := 0) hx hb dX10_takes_43 (by decide) ?_
      refine lv_iconst (v := 4) hx hb dX10_takes_44 (by decide) ?_
      refine lv_iload_n hx hb dX10_takes_45 rfl (lv_at hl 1 rfl) ?_
      refine n_imul hx hb dX10_takes_46 (u := 4) (v := p) rfl rfl (j := 4 * p) (by omega) ?_
      refine n_iadd hx hb dX10_takes_47 (u := 0) (v := 4 * p) rfl rfl (j := 4 * p) (by omega) ?_
      refine lv_iload hx hb dX10_takes_48 (lv_at hl 4 rfl) ?_
      refine n_iadd hx hb dX10_takes_50 (u := 4 * p) (v := i1) rfl rfl (j := (4 * p) + i1) (by omega) ?_
      refine n_iald hx hb hK hP 3 0 rfl rfl (j := (4 * p) + i1) rfl (by omega) (by decide) dX10_takes_51 ?_
      refine lv_isub hx hb dX10_takes_52 ?_
      refine lv_istore (lv' := [(5, .int ((t (9 + i1)) - (n ((4 * p) + i1)))), (0, .ref (a 0)), (1, .int (nI p)), (2, .int (nI s)), (3, .int (tkS t n p s i1)), (4, .int (nI i1))]) hx hb dX10_takes_53 hl (by decide) rfl (fun ls hl => ?_)
      refine lv_aload_n hx hb dX10_takes_55 rfl (lv_at hl 1 rfl) ?_
      refine va_get (D := G.1) (ci := 10) (v := .ref (a 3)) (C := RX10) (T := TX10) (N := 25) hx hb hts k1 hown hK hP 0 rfl rfl 2 (by decide) k2 (fun _ h9 => h9) rfl dX10_takes_56 ?_
      refine lv_bipush (v := 52) hx hb dX10_takes_59 (by decide) ?_
      refine n_iald hx hb hK hP 3 0 rfl rfl (j := 52) rfl (by decide) (by decide) dX10_takes_61 ?_
      refine lv_iload hx hb dX10_takes_62 (lv_at hl 5 rfl) ?_
      refine cR_S (n := 2) (As := [.int (n 52), .int (nI i1)]) (rest := []) C (c_X10_has l G    (n 52) i1 ) gX10_takes_X10_has rfl ⟨rfl, rfl⟩ hd_X10_has ⟨(Nat.le_of_ble_eq_true rfl), (Nat.le_of_ble_eq_true rfl)⟩ hK (hP.sub [] rfl) rfl hl.1 rfl (Nat.le_of_ble_eq_true rfl) dX10_takes_64 ⟨(Nat.le_of_ble_eq_true rfl), (Nat.le_of_ble_eq_true rfl)⟩ ?_
      refine b_if_ne (tgt := 111) hx hb dX10_takes_67 (by decide) (fun cq5 => ?_) (fun cq5 => ?_)
      · skip
        have hmay : ¬ mayT t n p i1 := fun q => q.1 cq5
        refine lv_iconst (v := 0) hx hb dX10_takes_111 (by decide) ?_
        refine lv_istore (lv' := [(6, .int 0), (5, .int ((t (9 + i1)) - (n ((4 * p) + i1)))), (0, .ref (a 0)), (1, .int (nI p)), (2, .int (nI s)), (3, .int (tkS t n p s i1)), (4, .int (nI i1))]) hx hb dX10_takes_112 hl (by decide) rfl (fun ls hl => ?_)
        refine lv_iload_n hx hb dX10_takes_114 rfl (lv_at hl 5 rfl) ?_
        refine lv_iload hx hb dX10_takes_115 (lv_at hl 0 rfl) ?_
        refine lv_if_eq (tgt := 125) hx hb dX10_takes_117 (by decide) (fun cq6 => ?_) (fun cq6 => ?_)
        rotate_left
        · exact absurd cq6 (by decide)
        refine lv_ldc hx hb hown k3 dX10_takes_125 ?_
        refine lv_iadd hx hb dX10_takes_127 ?_
        refine lv_istore_n (lv' := [(3, .int ((tkS t n p s i1) + 1000000)), (6, .int 0), (5, .int ((t (9 + i1)) - (n ((4 * p) + i1)))), (0, .ref (a 0)), (1, .int (nI p)), (2, .int (nI s)), (4, .int (nI i1))]) hx hb dX10_takes_128 rfl hl (by decide) rfl (fun ls hl => ?_)
        refine lv_aload_n hx hb dX10_takes_129 rfl (lv_at hl 3 rfl) ?_
        refine va_get (D := G.1) (ci := 10) (v := .ref (a 4)) (C := RX10) (T := TX10) (N := 25) hx hb hts k1 hown hK hP 0 rfl rfl 3 (by decide) k4 (fun _ h9 => h9) rfl dX10_takes_130 ?_
        refine lv_iconst (v := 0) hx hb dX10_takes_133 (by decide) ?_
        refine lv_iconst (v := 4) hx hb dX10_takes_134 (by decide) ?_
        refine lv_iload_n hx hb dX10_takes_135 rfl (lv_at hl 4 rfl) ?_
        refine n_imul hx hb dX10_takes_136 (u := 4) (v := p) rfl rfl (j := 4 * p) (by omega) ?_
        refine n_iadd hx hb dX10_takes_137 (u := 0) (v := 4 * p) rfl rfl (j := 4 * p) (by omega) ?_
        refine lv_iload hx hb dX10_takes_138 (lv_at hl 6 rfl) ?_
        refine n_iadd hx hb dX10_takes_140 (u := 4 * p) (v := i1) rfl rfl (j := (4 * p) + i1) (by omega) ?_
        refine lv_aload_n hx hb dX10_takes_141 rfl (lv_at hl 3 rfl) ?_
        refine va_get (D := G.1) (ci := 10) (v := .ref (a 1)) (C := RX10) (T := TX10) (N := 25) hx hb hts k1 hown hK hP 0 rfl rfl 0 (by decide) k0 (fun _ h9 => h9) rfl dX10_takes_142 ?_
        refine lv_bipush (v := 9) hx hb dX10_takes_145 (by decide) ?_
        refine lv_iload hx hb dX10_takes_147 (lv_at hl 6 rfl) ?_
        refine n_iadd hx hb dX10_takes_149 (u := 9) (v := i1) rfl rfl (j := 9 + i1) (by omega) ?_
        refine n_iald hx hb hK hP 1 0 rfl rfl (j := 9 + i1) rfl (by omega) (by decide) dX10_takes_150 ?_
        refine n_iast hx hb hK hP hD hS 4 0 rfl rfl (x := (t (9 + i1))) (j := (4 * p) + i1) rfl (by omega) (by decide) dX10_takes_151 (wsn := mW G a i j t r n (upd (tkE t n (va_cpy n d 0 0 54) p s i1) ((4 * p) + i1) (t (9 + i1))) ps im kp tx cd bk py pt mt) rfl (fun H locs hP hD hS => ?_)
        refine lv_iinc (v := nI (i1 + 1)) (lv' := [(4, .int (nI (i1 + 1))), (3, .int ((tkS t n p s i1) + 1000000)), (6, .int 0), (5, .int ((t (9 + i1)) - (n ((4 * p) + i1)))), (0, .ref (a 0)), (1, .int (nI p)), (2, .int (nI s))]) hx hb dX10_takes_152 hl (k := 6) rfl (by rw [show (nI i1 : Int32) = nI i1 from rfl]; exact nI_add _ 1) (by decide) rfl (fun ls hl => ?_)
        refine lv_goto (tgt := 9) hx hb dX10_takes_155 (by decide) ?_
        have e7 : (tkS t n p s i1) + 1000000 = tkS t n p s (i1 + 1) := by first | exact (if_neg hset).symm | (show _ = ite _ _ _; rw [if_pos hset]; first | rw [if_pos hmay] | rw [if_neg hmay])
        have e8 : (upd (tkE t n (va_cpy n d 0 0 54) p s i1) ((4 * p) + i1) (t (9 + i1))) = tkE t n (va_cpy n d 0 0 54) p s (i1 + 1) := by first | exact (if_neg hset).symm | exact (if_pos hset).symm
        rw [e8] at hP hD
        exact ih9 _ _ _ (by omega) ⟨hP, hD, hS, lv_sub hl [4, 5, 6, 1, 0] (by rw [← e7]; rfl), trivial⟩
      · skip
        have h67 := cq5
        refine lv_aload_n hx hb dX10_takes_70 rfl (lv_at hl 1 rfl) ?_
        refine va_get (D := G.1) (ci := 10) (v := .ref (a 3)) (C := RX10) (T := TX10) (N := 25) hx hb hts k1 hown hK hP 0 rfl rfl 2 (by decide) k2 (fun _ h9 => h9) rfl dX10_takes_71 ?_
        refine lv_bipush (v := 36) hx hb dX10_takes_74 (by decide) ?_
        refine lv_iload_n hx hb dX10_takes_76 rfl (lv_at hl 2 rfl) ?_
        refine n_iadd hx hb dX10_takes_77 (u := 36) (v := p) rfl rfl (j := 36 + p) (by omega) ?_
        refine n_iald hx hb hK hP 3 0 rfl rfl (j := 36 + p) rfl (by omega) (by decide) dX10_takes_78 ?_
        refine lv_iload hx hb dX10_takes_79 (lv_at hl 5 rfl) ?_
        refine cR_S (n := 2) (As := [.int (n (36 + p)), .int (nI i1)]) (rest := []) C (c_X10_has l G    (n (36 + p)) i1 ) gX10_takes_X10_has rfl ⟨rfl, rfl⟩ hd_X10_has ⟨(Nat.le_of_ble_eq_true rfl), (Nat.le_of_ble_eq_true rfl)⟩ hK (hP.sub [] rfl) rfl hl.1 rfl (Nat.le_of_ble_eq_true rfl) dX10_takes_81 ⟨(Nat.le_of_ble_eq_true rfl), (Nat.le_of_ble_eq_true rfl)⟩ ?_
        refine b_if_ne (tgt := 111) hx hb dX10_takes_84 (by decide) (fun cq9 => ?_) (fun cq9 => ?_)
        · skip
          have hmay : ¬ mayT t n p i1 := fun q => q.2.1 cq9
          refine lv_iconst (v := 0) hx hb dX10_takes_111 (by decide) ?_
          refine lv_istore (lv' := [(6, .int 0), (5, .int ((t (9 + i1)) - (n ((4 * p) + i1)))), (0, .ref (a 0)), (1, .int (nI p)), (2, .int (nI s)), (3, .int (tkS t n p s i1)), (4, .int (nI i1))]) hx hb dX10_takes_112 hl (by decide) rfl (fun ls hl => ?_)
          refine lv_iload_n hx hb dX10_takes_114 rfl (lv_at hl 5 rfl) ?_
          refine lv_iload hx hb dX10_takes_115 (lv_at hl 0 rfl) ?_
          refine lv_if_eq (tgt := 125) hx hb dX10_takes_117 (by decide) (fun cq10 => ?_) (fun cq10 => ?_)
          rotate_left
          · exact absurd cq10 (by decide)
          refine lv_ldc hx hb hown k3 dX10_takes_125 ?_
          refine lv_iadd hx hb dX10_takes_127 ?_
          refine lv_istore_n (lv' := [(3, .int ((tkS t n p s i1) + 1000000)), (6, .int 0), (5, .int ((t (9 + i1)) - (n ((4 * p) + i1)))), (0, .ref (a 0)), (1, .int (nI p)), (2, .int (nI s)), (4, .int (nI i1))]) hx hb dX10_takes_128 rfl hl (by decide) rfl (fun ls hl => ?_)
          refine lv_aload_n hx hb dX10_takes_129 rfl (lv_at hl 3 rfl) ?_
          refine va_get (D := G.1) (ci := 10) (v := .ref (a 4)) (C := RX10) (T := TX10) (N := 25) hx hb hts k1 hown hK hP 0 rfl rfl 3 (by decide) k4 (fun _ h9 => h9) rfl dX10_takes_130 ?_
          refine lv_iconst (v := 0) hx hb dX10_takes_133 (by decide) ?_
          refine lv_iconst (v := 4) hx hb dX10_takes_134 (by decide) ?_
          refine lv_iload_n hx hb dX10_takes_135 rfl (lv_at hl 4 rfl) ?_
          refine n_imul hx hb dX10_takes_136 (u := 4) (v := p) rfl rfl (j := 4 * p) (by omega) ?_
          refine n_iadd hx hb dX10_takes_137 (u := 0) (v := 4 * p) rfl rfl (j := 4 * p) (by omega) ?_
          refine lv_iload hx hb dX10_takes_138 (lv_at hl 6 rfl) ?_
          refine n_iadd hx hb dX10_takes_140 (u := 4 * p) (v := i1) rfl rfl (j := (4 * p) + i1) (by omega) ?_
          refine lv_aload_n hx hb dX10_takes_141 rfl (lv_at hl 3 rfl) ?_
          refine va_get (D := G.1) (ci := 10) (v := .ref (a 1)) (C := RX10) (T := TX10) (N := 25) hx hb hts k1 hown hK hP 0 rfl rfl 0 (by decide) k0 (fun _ h9 => h9) rfl dX10_takes_142 ?_
          refine lv_bipush (v := 9) hx hb dX10_takes_145 (by decide) ?_
          refine lv_iload hx hb dX10_takes_147 (lv_at hl 6 rfl) ?_
          refine n_iadd hx hb dX10_takes_149 (u := 9) (v := i1) rfl rfl (j := 9 + i1) (by omega) ?_
          refine n_iald hx hb hK hP 1 0 rfl rfl (j := 9 + i1) rfl (by omega) (by decide) dX10_takes_150 ?_
          refine n_iast hx hb hK hP hD hS 4 0 rfl rfl (x := (t (9 + i1))) (j := (4 * p) + i1) rfl (by omega) (by decide) dX10_takes_151 (wsn := mW G a i j t r n (upd (tkE t n (va_cpy n d 0 0 54) p s i1) ((4 * p) + i1) (t (9 + i1))) ps im kp tx cd bk py pt mt) rfl (fun H locs hP hD hS => ?_)
          refine lv_iinc (v := nI (i1 + 1)) (lv' := [(4, .int (nI (i1 + 1))), (3, .int ((tkS t n p s i1) + 1000000)), (6, .int 0), (5, .int ((t (9 + i1)) - (n ((4 * p) + i1)))), (0, .ref (a 0)), (1, .int (nI p)), (2, .int (nI s))]) hx hb dX10_takes_152 hl (k := 6) rfl (by rw [show (nI i1 : Int32) = nI i1 from rfl]; exact nI_add _ 1) (by decide) rfl (fun ls hl => ?_)
          refine lv_goto (tgt := 9) hx hb dX10_takes_155 (by decide) ?_
          have e11 : (tkS t n p s i1) + 1000000 = tkS t n p s (i1 + 1) := by first | exact (if_neg hset).symm | (show _ = ite _ _ _; rw [if_pos hset]; first | rw [if_pos hmay] | rw [if_neg hmay])
          have e12 : (upd (tkE t n (va_cpy n d 0 0 54) p s i1) ((4 * p) + i1) (t (9 + i1))) = tkE t n (va_cpy n d 0 0 54) p s (i1 + 1) := by first | exact (if_neg hset).symm | exact (if_pos hset).symm
          rw [e12] at hP hD
          exact ih9 _ _ _ (by omega) ⟨hP, hD, hS, lv_sub hl [4, 5, 6, 1, 0] (by rw [← e11]; rfl), trivial⟩
        · skip
          have h84 := cq9
          refine lv_iload hx hb dX10_takes_87 (lv_at hl 0 rfl) ?_
          refine lv_if_le (tgt := 111) hx hb dX10_takes_89 (by decide) (fun cq13 => ?_) (fun cq13 => ?_)
          · skip
            have hmay : ¬ mayT t n p i1 := fun q => i32_nlt.mpr cq13 q.2.2.1
            refine lv_iconst (v := 0) hx hb dX10_takes_111 (by decide) ?_
            refine lv_istore (lv' := [(6, .int 0), (5, .int ((t (9 + i1)) - (n ((4 * p) + i1)))), (0, .ref (a 0)), (1, .int (nI p)), (2, .int (nI s)), (3, .int (tkS t n p s i1)), (4, .int (nI i1))]) hx hb dX10_takes_112 hl (by decide) rfl (fun ls hl => ?_)
            refine lv_iload_n hx hb dX10_takes_114 rfl (lv_at hl 5 rfl) ?_
            refine lv_iload hx hb dX10_takes_115 (lv_at hl 0 rfl) ?_
            refine lv_if_eq (tgt := 125) hx hb dX10_takes_117 (by decide) (fun cq14 => ?_) (fun cq14 => ?_)
            rotate_left
            · exact absurd cq14 (by decide)
            refine lv_ldc hx hb hown k3 dX10_takes_125 ?_
            refine lv_iadd hx hb dX10_takes_127 ?_
            refine lv_istore_n (lv' := [(3, .int ((tkS t n p s i1) + 1000000)), (6, .int 0), (5, .int ((t (9 + i1)) - (n ((4 * p) + i1)))), (0, .ref (a 0)), (1, .int (nI p)), (2, .int (nI s)), (4, .int (nI i1))]) hx hb dX10_takes_128 rfl hl (by decide) rfl (fun ls hl => ?_)
            refine lv_aload_n hx hb dX10_takes_129 rfl (lv_at hl 3 rfl) ?_
            refine va_get (D := G.1) (ci := 10) (v := .ref (a 4)) (C := RX10) (T := TX10) (N := 25) hx hb hts k1 hown hK hP 0 rfl rfl 3 (by decide) k4 (fun _ h9 => h9) rfl dX10_takes_130 ?_
            refine lv_iconst (v := 0) hx hb dX10_takes_133 (by decide) ?_
            refine lv_iconst (v := 4) hx hb dX10_takes_134 (by decide) ?_
            refine lv_iload_n hx hb dX10_takes_135 rfl (lv_at hl 4 rfl) ?_
            refine n_imul hx hb dX10_takes_136 (u := 4) (v := p) rfl rfl (j := 4 * p) (by omega) ?_
            refine n_iadd hx hb dX10_takes_137 (u := 0) (v := 4 * p) rfl rfl (j := 4 * p) (by omega) ?_
            refine lv_iload hx hb dX10_takes_138 (lv_at hl 6 rfl) ?_
            refine n_iadd hx hb dX10_takes_140 (u := 4 * p) (v := i1) rfl rfl (j := (4 * p) + i1) (by omega) ?_
            refine lv_aload_n hx hb dX10_takes_141 rfl (lv_at hl 3 rfl) ?_
            refine va_get (D := G.1) (ci := 10) (v := .ref (a 1)) (C := RX10) (T := TX10) (N := 25) hx hb hts k1 hown hK hP 0 rfl rfl 0 (by decide) k0 (fun _ h9 => h9) rfl dX10_takes_142 ?_
            refine lv_bipush (v := 9) hx hb dX10_takes_145 (by decide) ?_
            refine lv_iload hx hb dX10_takes_147 (lv_at hl 6 rfl) ?_
            refine n_iadd hx hb dX10_takes_149 (u := 9) (v := i1) rfl rfl (j := 9 + i1) (by omega) ?_
            refine n_iald hx hb hK hP 1 0 rfl rfl (j := 9 + i1) rfl (by omega) (by decide) dX10_takes_150 ?_
            refine n_iast hx hb hK hP hD hS 4 0 rfl rfl (x := (t (9 + i1))) (j := (4 * p) + i1) rfl (by omega) (by decide) dX10_takes_151 (wsn := mW G a i j t r n (upd (tkE t n (va_cpy n d 0 0 54) p s i1) ((4 * p) + i1) (t (9 + i1))) ps im kp tx cd bk py pt mt) rfl (fun H locs hP hD hS => ?_)
            refine lv_iinc (v := nI (i1 + 1)) (lv' := [(4, .int (nI (i1 + 1))), (3, .int ((tkS t n p s i1) + 1000000)), (6, .int 0), (5, .int ((t (9 + i1)) - (n ((4 * p) + i1)))), (0, .ref (a 0)), (1, .int (nI p)), (2, .int (nI s))]) hx hb dX10_takes_152 hl (k := 6) rfl (by rw [show (nI i1 : Int32) = nI i1 from rfl]; exact nI_add _ 1) (by decide) rfl (fun ls hl => ?_)
            refine lv_goto (tgt := 9) hx hb dX10_takes_155 (by decide) ?_
            have e15 : (tkS t n p s i1) + 1000000 = tkS t n p s (i1 + 1) := by first | exact (if_neg hset).symm | (show _ = ite _ _ _; rw [if_pos hset]; first | rw [if_pos hmay] | rw [if_neg hmay])
            have e16 : (upd (tkE t n (va_cpy n d 0 0 54) p s i1) ((4 * p) + i1) (t (9 + i1))) = tkE t n (va_cpy n d 0 0 54) p s (i1 + 1) := by first | exact (if_neg hset).symm | exact (if_pos hset).symm
            rw [e16] at hP hD
            exact ih9 _ _ _ (by omega) ⟨hP, hD, hS, lv_sub hl [4, 5, 6, 1, 0] (by rw [← e15]; rfl), trivial⟩
          · skip
            have h89 := cq13
            refine lv_iload hx hb dX10_takes_92 (lv_at hl 0 rfl) ?_
            refine lv_aload_n hx hb dX10_takes_94 rfl (lv_at hl 1 rfl) ?_
            refine va_get (D := G.1) (ci := 10) (v := .ref (a 3)) (C := RX10) (T := TX10) (N := 25) hx hb hts k1 hown hK hP 0 rfl rfl 2 (by decide) k2 (fun _ h9 => h9) rfl dX10_takes_95 ?_
            refine lv_bipush (v := 32) hx hb dX10_takes_98 (by decide) ?_
            refine lv_iload hx hb dX10_takes_100 (lv_at hl 5 rfl) ?_
            refine n_iadd hx hb dX10_takes_102 (u := 32) (v := i1) rfl rfl (j := 32 + i1) (by omega) ?_
            refine n_iald hx hb hK hP 3 0 rfl rfl (j := 32 + i1) rfl (by omega) (by decide) dX10_takes_103 ?_
            refine lv_icmp_gt (tgt := 111) hx hb dX10_takes_104 (by decide) (fun cq17 => ?_) (fun cq17 => ?_)
            · skip
              have hmay : ¬ mayT t n p i1 := fun q => i32_nle.mpr cq17 q.2.2.2
              refine lv_iconst (v := 0) hx hb dX10_takes_111 (by decide) ?_
              refine lv_istore (lv' := [(6, .int 0), (5, .int ((t (9 + i1)) - (n ((4 * p) + i1)))), (0, .ref (a 0)), (1, .int (nI p)), (2, .int (nI s)), (3, .int (tkS t n p s i1)), (4, .int (nI i1))]) hx hb dX10_takes_112 hl (by decide) rfl (fun ls hl => ?_)
              refine lv_iload_n hx hb dX10_takes_114 rfl (lv_at hl 5 rfl) ?_
              refine lv_iload hx hb dX10_takes_115 (lv_at hl 0 rfl) ?_
              refine lv_if_eq (tgt := 125) hx hb dX10_takes_117 (by decide) (fun cq18 => ?_) (fun cq18 => ?_)
              rotate_left
              · exact absurd cq18 (by decide)
              refine lv_ldc hx hb hown k3 dX10_takes_125 ?_
              refine lv_iadd hx hb dX10_takes_127 ?_
              refine lv_istore_n (lv' := [(3, .int ((tkS t n p s i1) + 1000000)), (6, .int 0), (5, .int ((t (9 + i1)) - (n ((4 * p) + i1)))), (0, .ref (a 0)), (1, .int (nI p)), (2, .int (nI s)), (4, .int (nI i1))]) hx hb dX10_takes_128 rfl hl (by decide) rfl (fun ls hl => ?_)
              refine lv_aload_n hx hb dX10_takes_129 rfl (lv_at hl 3 rfl) ?_
              refine va_get (D := G.1) (ci := 10) (v := .ref (a 4)) (C := RX10) (T := TX10) (N := 25) hx hb hts k1 hown hK hP 0 rfl rfl 3 (by decide) k4 (fun _ h9 => h9) rfl dX10_takes_130 ?_
              refine lv_iconst (v := 0) hx hb dX10_takes_133 (by decide) ?_
              refine lv_iconst (v := 4) hx hb dX10_takes_134 (by decide) ?_
              refine lv_iload_n hx hb dX10_takes_135 rfl (lv_at hl 4 rfl) ?_
              refine n_imul hx hb dX10_takes_136 (u := 4) (v := p) rfl rfl (j := 4 * p) (by omega) ?_
              refine n_iadd hx hb dX10_takes_137 (u := 0) (v := 4 * p) rfl rfl (j := 4 * p) (by omega) ?_
              refine lv_iload hx hb dX10_takes_138 (lv_at hl 6 rfl) ?_
              refine n_iadd hx hb dX10_takes_140 (u := 4 * p) (v := i1) rfl rfl (j := (4 * p) + i1) (by omega) ?_
              refine lv_aload_n hx hb dX10_takes_141 rfl (lv_at hl 3 rfl) ?_
              refine va_get (D := G.1) (ci := 10) (v := .ref (a 1)) (C := RX10) (T := TX10) (N := 25) hx hb hts k1 hown hK hP 0 rfl rfl 0 (by decide) k0 (fun _ h9 => h9) rfl dX10_takes_142 ?_
              refine lv_bipush (v := 9) hx hb dX10_takes_145 (by decide) ?_
              refine lv_iload hx hb dX10_takes_147 (lv_at hl 6 rfl) ?_
              refine n_iadd hx hb dX10_takes_149 (u := 9) (v := i1) rfl rfl (j := 9 + i1) (by omega) ?_
              refine n_iald hx hb hK hP 1 0 rfl rfl (j := 9 + i1) rfl (by omega) (by decide) dX10_takes_150 ?_
              refine n_iast hx hb hK hP hD hS 4 0 rfl rfl (x := (t (9 + i1))) (j := (4 * p) + i1) rfl (by omega) (by decide) dX10_takes_151 (wsn := mW G a i j t r n (upd (tkE t n (va_cpy n d 0 0 54) p s i1) ((4 * p) + i1) (t (9 + i1))) ps im kp tx cd bk py pt mt) rfl (fun H locs hP hD hS => ?_)
              refine lv_iinc (v := nI (i1 + 1)) (lv' := [(4, .int (nI (i1 + 1))), (3, .int ((tkS t n p s i1) + 1000000)), (6, .int 0), (5, .int ((t (9 + i1)) - (n ((4 * p) + i1)))), (0, .ref (a 0)), (1, .int (nI p)), (2, .int (nI s))]) hx hb dX10_takes_152 hl (k := 6) rfl (by rw [show (nI i1 : Int32) = nI i1 from rfl]; exact nI_add _ 1) (by decide) rfl (fun ls hl => ?_)
              refine lv_goto (tgt := 9) hx hb dX10_takes_155 (by decide) ?_
              have e19 : (tkS t n p s i1) + 1000000 = tkS t n p s (i1 + 1) := by first | exact (if_neg hset).symm | (show _ = ite _ _ _; rw [if_pos hset]; first | rw [if_pos hmay] | rw [if_neg hmay])
              have e20 : (upd (tkE t n (va_cpy n d 0 0 54) p s i1) ((4 * p) + i1) (t (9 + i1))) = tkE t n (va_cpy n d 0 0 54) p s (i1 + 1) := by first | exact (if_neg hset).symm | exact (if_pos hset).symm
              rw [e20] at hP hD
              exact ih9 _ _ _ (by omega) ⟨hP, hD, hS, lv_sub hl [4, 5, 6, 1, 0] (by rw [← e19]; rfl), trivial⟩
            · skip
              have hmay : mayT t n p i1 := ⟨h67, h84, i32_nle.mp h89, i32_nlt.mp cq17⟩
              refine lv_iconst (v := 1) hx hb dX10_takes_107 (by decide) ?_
              refine lv_goto (tgt := 112) hx hb dX10_takes_108 (by decide) ?_
              refine lv_istore (lv' := [(6, .int 1), (5, .int ((t (9 + i1)) - (n ((4 * p) + i1)))), (0, .ref (a 0)), (1, .int (nI p)), (2, .int (nI s)), (3, .int (tkS t n p s i1)), (4, .int (nI i1))]) hx hb dX10_takes_112 hl (by decide) rfl (fun ls hl => ?_)
              refine lv_iload_n hx hb dX10_takes_114 rfl (lv_at hl 5 rfl) ?_
              refine lv_iload hx hb dX10_takes_115 (lv_at hl 0 rfl) ?_
              refine lv_if_eq (tgt := 125) hx hb dX10_takes_117 (by decide) (fun cq21 => ?_) (fun cq21 => ?_)
              · exact absurd cq21 (by decide)
              refine lv_iload hx hb dX10_takes_120 (lv_at hl 1 rfl) ?_
              refine lv_goto (tgt := 127) hx hb dX10_takes_122 (by decide) ?_
              refine lv_iadd hx hb dX10_takes_127 ?_
              refine lv_istore_n (lv' := [(3, .int ((tkS t n p s i1) + ((t (9 + i1)) - (n ((4 * p) + i1))))), (6, .int 1), (5, .int ((t (9 + i1)) - (n ((4 * p) + i1)))), (0, .ref (a 0)), (1, .int (nI p)), (2, .int (nI s)), (4, .int (nI i1))]) hx hb dX10_takes_128 rfl hl (by decide) rfl (fun ls hl => ?_)
              refine lv_aload_n hx hb dX10_takes_129 rfl (lv_at hl 3 rfl) ?_
              refine va_get (D := G.1) (ci := 10) (v := .ref (a 4)) (C := RX10) (T := TX10) (N := 25) hx hb hts k1 hown hK hP 0 rfl rfl 3 (by decide) k4 (fun _ h9 => h9) rfl dX10_takes_130 ?_
              refine lv_iconst (v := 0) hx hb dX10_takes_133 (by decide) ?_
              refine lv_iconst (v := 4) hx hb dX10_takes_134 (by decide) ?_
              refine lv_iload_n hx hb dX10_takes_135 rfl (lv_at hl 4 rfl) ?_
              refine n_imul hx hb dX10_takes_136 (u := 4) (v := p) rfl rfl (j := 4 * p) (by omega) ?_
              refine n_iadd hx hb dX10_takes_137 (u := 0) (v := 4 * p) rfl rfl (j := 4 * p) (by omega) ?_
              refine lv_iload hx hb dX10_takes_138 (lv_at hl 6 rfl) ?_
              refine n_iadd hx hb dX10_takes_140 (u := 4 * p) (v := i1) rfl rfl (j := (4 * p) + i1) (by omega) ?_
              refine lv_aload_n hx hb dX10_takes_141 rfl (lv_at hl 3 rfl) ?_
              refine va_get (D := G.1) (ci := 10) (v := .ref (a 1)) (C := RX10) (T := TX10) (N := 25) hx hb hts k1 hown hK hP 0 rfl rfl 0 (by decide) k0 (fun _ h9 => h9) rfl dX10_takes_142 ?_
              refine lv_bipush (v := 9) hx hb dX10_takes_145 (by decide) ?_
              refine lv_iload hx hb dX10_takes_147 (lv_at hl 6 rfl) ?_
              refine n_iadd hx hb dX10_takes_149 (u := 9) (v := i1) rfl rfl (j := 9 + i1) (by omega) ?_
              refine n_iald hx hb hK hP 1 0 rfl rfl (j := 9 + i1) rfl (by omega) (by decide) dX10_takes_150 ?_
              refine n_iast hx hb hK hP hD hS 4 0 rfl rfl (x := (t (9 + i1))) (j := (4 * p) + i1) rfl (by omega) (by decide) dX10_takes_151 (wsn := mW G a i j t r n (upd (tkE t n (va_cpy n d 0 0 54) p s i1) ((4 * p) + i1) (t (9 + i1))) ps im kp tx cd bk py pt mt) rfl (fun H locs hP hD hS => ?_)
              refine lv_iinc (v := nI (i1 + 1)) (lv' := [(4, .int (nI (i1 + 1))), (3, .int ((tkS t n p s i1) + ((t (9 + i1)) - (n ((4 * p) + i1))))), (6, .int 1), (5, .int ((t (9 + i1)) - (n ((4 * p) + i1)))), (0, .ref (a 0)), (1, .int (nI p)), (2, .int (nI s))]) hx hb dX10_takes_152 hl (k := 6) rfl (by rw [show (nI i1 : Int32) = nI i1 from rfl]; exact nI_add _ 1) (by decide) rfl (fun ls hl => ?_)
              refine lv_goto (tgt := 9) hx hb dX10_takes_155 (by decide) ?_
              have e22 : (tkS t n p s i1) + ((t (9 + i1)) - (n ((4 * p) + i1))) = tkS t n p s (i1 + 1) := by first | exact (if_neg hset).symm | (show _ = ite _ _ _; rw [if_pos hset]; first | rw [if_pos hmay] | rw [if_neg hmay])
              have e23 : (upd (tkE t n (va_cpy n d 0 0 54) p s i1) ((4 * p) + i1) (t (9 + i1))) = tkE t n (va_cpy n d 0 0 54) p s (i1 + 1) := by first | exact (if_neg hset).symm | exact (if_pos hset).symm
              rw [e23] at hP hD
              exact ih9 _ _ _ (by omega) ⟨hP, hD, hS, lv_sub hl [4, 5, 6, 1, 0] (by rw [← e22]; rfl), trivial⟩
theorem hd_X10_failing : yX10_failing.cls = RX10 ∧ yX10_failing.cls ≠ "java/lang/invoke/MethodHandle" ∧ yX10_failing.cls ≠ "java/lang/invoke/VarHandle" ∧ (parseMethodDescriptor yX10_failing.desc).map (fun d => d.parameters.length) = some 0 := by decide +kernel
set_option maxRecDepth 100000 in
set_option maxHeartbeats 4000000 in
theorem c_X10_failing (l : Launch) (G : gG) (a : Nat → Nat) (i : Nat → Int32) (j : Nat → Int32) (t : Nat → Int32) (r : Nat → Int32) (n : Nat → Int32) (d : Nat → Int32) (ps : Nat → Int32) (im : Nat → Int32) (kp : Nat → Int32) (tx : Nat → Int32) (cd : Nat → Int32) (bk : Nat → Int32) (py : Nat → Int32) (pt : Nat → Int32) (mt : Nat → Int32) (nc : Nat) (np : Nat) (hT : tw t nc np) : mE l yX10_failing wsX10_failing ({ frames := 4, cells := 0, slots := 0, locals := 92 }) G (mW G a i j t r n d ps im kp tx cd bk py pt mt) (fun u : (Nat → Int32) => mW G a i j t r n u ps im kp tx cd bk py pt mt) [.ref (a 0)] (.returned (some (.int (qgF t n nc np 52 &&& (n 52 ^^^ (-1)))))) := by
  refine mE.of (cc := cX10_failing) (maxL := 1) (ret := (some .int)) (by decide) rfl (Nat.le_of_ble_eq_true rfl) ?_
  intro zp ze zs zm zb zt zc ls A hAe C hP hK hD hS hl
  obtain ⟨hx, hb, hr, hml, hown, hts, hlk⟩ := id C
  have hl : lv_has ls 1 [(0, .ref (a 0))] := hl
  have hT2 := hT.2.2
  have k0 := hts (.fieldLink RX10 19 "DebtDowryModel" "aside" "[I") (by decide +kernel)
  have k1 := (fun w h => by revert w; decide +kernel : ∀ w ∈ wsX100, w ∈ wsX10_failing)
  have k2 := hts (.fieldLink RX10 16 "DebtDowryModel" "now" "[I") (by decide +kernel)
  refine lv_aload_n hx hb dX10_failing_0 rfl (lv_at hl 0 rfl) ?_
  refine cX_V (Cn := RX10) (n := 0) (As := []) (rest := []) (wsn := mW G a i j t r n (va_cpy n d 0 0 54) ps im kp tx cd bk py pt mt) C (c_X10_layAside l G a i j t r n d ps im kp tx cd bk py pt mt   ) gX10_failing_X10_layAside rfl ⟨rfl, rfl⟩ hd_X10_layAside ⟨(Nat.le_of_ble_eq_true rfl), (Nat.le_of_ble_eq_true rfl)⟩ hK hP hD hS [0, 1, 2, 3, 4, 5, 6, 7, 8, 9, 10, 11, 12, 13] (by decide) rfl (mW_f.trans mW_f.symm) rfl (mW_f.trans mW_f.symm) (va_recv hK hP (ci := 10) (q0 := 0) rfl rfl) rfl hl.1 rfl (Nat.le_of_ble_eq_true rfl) dX10_failing_1 ⟨(Nat.le_of_ble_eq_true rfl), (Nat.le_of_ble_eq_true rfl)⟩ (fun H locs hP hD hS => ?_)
  refine lv_aload_n hx hb dX10_failing_4 rfl (lv_at hl 0 rfl) ?_
  refine lv_aload_n hx hb dX10_failing_5 rfl (lv_at hl 0 rfl) ?_
  refine va_get (D := G.1) (ci := 10) (v := .ref (a 4)) (C := RX10) (T := TX10) (N := 25) hx hb hts k1 hown hK hP 0 rfl rfl 3 (by decide) k0 (fun _ h9 => h9) rfl dX10_failing_6 ?_
  refine cX_V (Cn := RX10) (n := 1) (As := [.ref (a 4)]) (rest := []) (wsn := mW G a i j t r n (qgF t (va_cpy n d 0 0 54) nc np) ps im kp tx cd bk py pt mt) C (c_X10_quarterGoes_d l G a i j t r n (va_cpy n d 0 0 54) ps im kp tx cd bk py pt mt nc np  hT) gX10_failing_X10_quarterGoes rfl ⟨rfl, rfl⟩ hd_X10_quarterGoes ⟨(Nat.le_of_ble_eq_true rfl), (Nat.le_of_ble_eq_true rfl)⟩ hK hP hD hS [0, 1, 2, 3, 4, 5, 6, 7, 8, 9, 10, 11, 12, 13] (by decide) rfl (mW_f.trans mW_f.symm) rfl (mW_f.trans mW_f.symm) (va_recv hK hP (ci := 10) (q0 := 0) rfl rfl) rfl hl.1 rfl (Nat.le_of_ble_eq_true rfl) dX10_failing_9 ⟨(Nat.le_of_ble_eq_true rfl), (Nat.le_of_ble_eq_true rfl)⟩ (fun H locs hP hD hS => ?_)
  refine lv_aload_n hx hb dX10_failing_12 rfl (lv_at hl 0 rfl) ?_
  refine va_get (D := G.1) (ci := 10) (v := .ref (a 4)) (C := RX10) (T := TX10) (N := 25) hx hb hts k1 hown hK hP 0 rfl rfl 3 (by decide) k0 (fun _ h9 => h9) rfl dX10_failing_13 ?_
  refine lv_bipush (v := 52) hx hb dX10_failing_16 (by decide) ?_
  refine n_iald hx hb hK hP 4 0 rfl rfl (j := 52) rfl (by decide) (by decide) dX10_failing_18 ?_
  refine lv_aload_n hx hb dX10_failing_19 rfl (lv_at hl 0 rfl) ?_
  refine va_get (D := G.1) (ci := 10) (v := .ref (a 3)) (C := RX10) (T := TX10) (N := 25) hx hb hts k1 hown hK hP 0 rfl rfl 2 (by decide) k2 (fun _ h9 => h9) rfl dX10_failing_20 ?_
  refine lv_bipush (v := 52) hx hb dX10_failing_23 (by decide) ?_
  refine n_iald hx hb hK hP 3 0 rfl rfl (j := 52) rfl (by decide) (by decide) dX10_failing_25 ?_
  refine lv_iconst (v := (-1)) hx hb dX10_failing_26 (by decide) ?_
  refine lv_ixor hx hb dX10_failing_27 ?_
  refine lv_iand hx hb dX10_failing_28 ?_
  exact mE_iret hAe C (u := qgF t (va_cpy n d 0 0 54) nc np) hP hS dX10_failing_29 (by rw [qgF_c hT2.1 hT2.2 (cpy54 _ _) 52 (by decide)])
theorem hd_X10_run : yX10_run.cls = RX10 ∧ yX10_run.cls ≠ "java/lang/invoke/MethodHandle" ∧ yX10_run.cls ≠ "java/lang/invoke/VarHandle" ∧ (parseMethodDescriptor yX10_run.desc).map (fun d => d.parameters.length) = some 1 := by decide +kernel
set_option maxRecDepth 100000 in
set_option maxHeartbeats 4000000 in
theorem c_X10_run (l : Launch) (G : gG) (a : Nat → Nat) (i : Nat → Int32) (j : Nat → Int32) (t : Nat → Int32) (r : Nat → Int32) (n : Nat → Int32) (d : Nat → Int32) (ps : Nat → Int32) (im : Nat → Int32) (kp : Nat → Int32) (tx : Nat → Int32) (cd : Nat → Int32) (bk : Nat → Int32) (py : Nat → Int32) (pt : Nat → Int32) (mt : Nat → Int32) (nc : Nat) (np : Nat) (x : Int32) (hT : tw t nc np) : mE l yX10_run wsX10_run ({ frames := 4, cells := 0, slots := 0, locals := 92 }) G (mW G a i j t r n d ps im kp tx cd bk py pt mt) (fun u : (Nat → Int32) => mW G a i j t r n u ps im kp tx cd bk py pt mt) [.ref (a 0), .int x] (.returned (some (.int (if ¬ inB x 1 20 then cOUT else nQ t nc np n (cl x) 52)))) := by
  refine mE.of (cc := cX10_run) (maxL := 3) (ret := (some .int)) (by decide) rfl (Nat.le_of_ble_eq_true rfl) ?_
  intro zp ze zs zm zb zt zc ls A hAe C hP hK hD hS hl
  obtain ⟨hx, hb, hr, hml, hown, hts, hlk⟩ := id C
  have hl : lv_has ls 3 [(0, .ref (a 0)), (1, .int x)] := hl
  have hT2 := hT.2.2
  have k0 := hts (.constantLong RX10 203 (20)) (by decide +kernel)
  have k1 := hts (.fieldLink RX10 19 "DebtDowryModel" "aside" "[I") (by decide +kernel)
  have k2 := (fun w h => by revert w; decide +kernel : ∀ w ∈ wsX100, w ∈ wsX10_run)
  have k3 := hts (.constant RX10 80 (-1000000002)) (by decide +kernel)
  refine lv_iload_n hx hb dX10_run_0 rfl (lv_at hl 1 rfl) ?_
  refine lv_i2l (v := x.toInt64) hx hb dX10_run_1 rfl ?_
  refine lv_lconst (v := 1) hx hb dX10_run_2 (by decide) ?_
  refine lv_ldc2 hx hb hown k0 dX10_run_3 ?_
  refine cR_S (n := 3) (As := [.long x.toInt64, .long 1, .long 20]) (rest := []) C (c_X10_in l G    x x.toInt64 rfl 1 1 rfl 20 20 rfl ) gX10_run_X10_in rfl ⟨rfl, rfl⟩ hd_X10_in ⟨(Nat.le_of_ble_eq_true rfl), (Nat.le_of_ble_eq_true rfl)⟩ hK (hP.sub [] rfl) rfl hl.1 rfl (Nat.le_of_ble_eq_true rfl) dX10_run_6 ⟨(Nat.le_of_ble_eq_true rfl), (Nat.le_of_ble_eq_true rfl)⟩ ?_
  refine b_if_ne (tgt := 15) hx hb dX10_run_9 (by decide) (fun cq1 => ?_) (fun cq1 => ?_)
  · skip
    obtain ⟨kk, hkk1, hkk2, rfl⟩ := inB_rng (a := 1) (b := 20) rfl rfl (by decide) (by decide) (cq1)
    have hcl_kk := cl_nI (n := kk) (by omega)
    refine lv_aload_n hx hb dX10_run_15 rfl (lv_at hl 0 rfl) ?_
    refine cX_V (Cn := RX10) (n := 0) (As := []) (rest := []) (wsn := mW G a i j t r n (va_cpy n d 0 0 54) ps im kp tx cd bk py pt mt) C (c_X10_layAside l G a i j t r n d ps im kp tx cd bk py pt mt   ) gX10_run_X10_layAside rfl ⟨rfl, rfl⟩ hd_X10_layAside ⟨(Nat.le_of_ble_eq_true rfl), (Nat.le_of_ble_eq_true rfl)⟩ hK hP hD hS [0, 1, 2, 3, 4, 5, 6, 7, 8, 9, 10, 11, 12, 13] (by decide) rfl (mW_f.trans mW_f.symm) rfl (mW_f.trans mW_f.symm) (va_recv hK hP (ci := 10) (q0 := 0) rfl rfl) rfl hl.1 rfl (Nat.le_of_ble_eq_true rfl) dX10_run_16 ⟨(Nat.le_of_ble_eq_true rfl), (Nat.le_of_ble_eq_true rfl)⟩ (fun H locs hP hD hS => ?_)
    refine lv_iconst (v := 0) hx hb dX10_run_19 (by decide) ?_
    refine lv_istore_n (lv' := [(2, .int 0), (0, .ref (a 0)), (1, .int (nI kk))]) hx hb dX10_run_20 rfl hl (by decide) rfl (fun ls hl => ?_)
    refine wl_X (B := kk) (i0 := 0) (Inv := fun i1 H locs ls => va_P G.1 vwCl (mW G a i j t r n (nQ t nc np (va_cpy n d 0 0 54) i1) ps im kp tx cd bk py pt mt) H ∧ va_D A (mW G a i j t r n (nQ t nc np (va_cpy n d 0 0 54) i1) ps im kp tx cd bk py pt mt) ∧ va_S A zs.heap H locs ∧ lv_has ls 3 [(0, .ref (a 0)), (1, .int (nI kk)), (2, .int (nI i1))] ∧ True) (by omega) ⟨hP, hD, hS, lv_sub hl [1, 2, 0] (rfl), trivial⟩ ?_
    rintro i1 H locs ls hle21 ⟨hP, hD, hS, hl, -⟩ ih21
    refine lv_iload_n hx hb dX10_run_21 rfl (lv_at hl 2 rfl) ?_
    refine lv_iload_n hx hb dX10_run_22 rfl (lv_at hl 1 rfl) ?_
    refine n_icmp_ge (tgt := 40) hx hb dX10_run_23 (by decide) (u := i1) (v := kk) rfl rfl (by omega) (by omega) (fun cq2 => ?_) (fun cq2 => ?_)
    · skip
      obtain rfl : kk = i1 := by omega
      refine lv_aload_n hx hb dX10_run_40 rfl (lv_at hl 0 rfl) ?_
      refine va_get (D := G.1) (ci := 10) (v := .ref (a 4)) (C := RX10) (T := TX10) (N := 25) hx hb hts k2 hown hK hP 0 rfl rfl 3 (by decide) k1 (fun _ h9 => h9) rfl dX10_run_41 ?_
      refine lv_bipush (v := 52) hx hb dX10_run_44 (by decide) ?_
      refine n_iald hx hb hK hP 4 0 rfl rfl (j := 52) rfl (by decide) (by decide) dX10_run_46 ?_
      exact mE_iret hAe C (u := nQ t nc np (va_cpy n d 0 0 54) kk) hP hS dX10_run_47 (by rw [if_neg (not_not_intro cq1), hcl_kk]; exact nQ_c hT2.1 hT2.2 (cpy54 _ _) kk 52 (by decide))
    · skip
      refine lv_aload_n hx hb dX10_run_26 rfl (lv_at hl 0 rfl) ?_
      refine lv_aload_n hx hb dX10_run_27 rfl (lv_at hl 0 rfl) ?_
      refine va_get (D := G.1) (ci := 10) (v := .ref (a 4)) (C := RX10) (T := TX10) (N := 25) hx hb hts k2 hown hK hP 0 rfl rfl 3 (by decide) k1 (fun _ h9 => h9) rfl dX10_run_28 ?_
      refine cX_V (Cn := RX10) (n := 1) (As := [.ref (a 4)]) (rest := []) (wsn := mW G a i j t r n (qgF t (nQ t nc np (va_cpy n d 0 0 54) i1) nc np) ps im kp tx cd bk py pt mt) C (c_X10_quarterGoes_d l G a i j t r n (nQ t nc np (va_cpy n d 0 0 54) i1) ps im kp tx cd bk py pt mt nc np  hT) gX10_run_X10_quarterGoes rfl ⟨rfl, rfl⟩ hd_X10_quarterGoes ⟨(Nat.le_of_ble_eq_true rfl), (Nat.le_of_ble_eq_true rfl)⟩ hK hP hD hS [0, 1, 2, 3, 4, 5, 6, 7, 8, 9, 10, 11, 12, 13] (by decide) rfl (mW_f.trans mW_f.symm) rfl (mW_f.trans mW_f.symm) (va_recv hK hP (ci := 10) (q0 := 0) rfl rfl) rfl hl.1 rfl (Nat.le_of_ble_eq_true rfl) dX10_run_31 ⟨(Nat.le_of_ble_eq_true rfl), (Nat.le_of_ble_eq_true rfl)⟩ (fun H locs hP hD hS => ?_)
      refine lv_iinc (v := nI (i1 + 1)) (lv' := [(2, .int (nI (i1 + 1))), (0, .ref (a 0)), (1, .int (nI kk))]) hx hb dX10_run_34 hl (k := 2) rfl (by rw [show (nI i1 : Int32) = nI i1 from rfl]; exact nI_add _ 1) (by decide) rfl (fun ls hl => ?_)
      refine lv_goto (tgt := 21) hx hb dX10_run_37 (by decide) ?_
      have e3 : qgF t (nQ t nc np (va_cpy n d 0 0 54) i1) nc np = nQ t nc np (va_cpy n d 0 0 54) (i1 + 1) := rfl
      rw [e3] at hP hD
      exact ih21 _ _ _ (by omega) ⟨hP, hD, hS, lv_sub hl [1, 2, 0] (rfl), trivial⟩
  · skip
    refine lv_ldc hx hb hown k3 dX10_run_12 ?_
    exact mE_iret hAe C (u := d) hP hS dX10_run_14 (by rw [if_pos cq1])
theorem hd_X10_rumours : yX10_rumours.cls = RX10 ∧ yX10_rumours.cls ≠ "java/lang/invoke/MethodHandle" ∧ yX10_rumours.cls ≠ "java/lang/invoke/VarHandle" ∧ (parseMethodDescriptor yX10_rumours.desc).map (fun d => d.parameters.length) = some 2 := by decide +kernel
set_option maxRecDepth 100000 in
set_option maxHeartbeats 4000000 in
theorem c_X10_rumours (l : Launch) (G : gG) (a : Nat → Nat) (i : Nat → Int32) (j : Nat → Int32) (t : Nat → Int32) (r : Nat → Int32) (n : Nat → Int32) (d : Nat → Int32) (ps : Nat → Int32) (im : Nat → Int32) (kp : Nat → Int32) (tx : Nat → Int32) (cd : Nat → Int32) (bk : Nat → Int32) (py : Nat → Int32) (pt : Nat → Int32) (mt : Nat → Int32) (x : Int32) (q : Int32) : mR l yX10_rumours wsX10_rumours ({ frames := 1, cells := 0, slots := 0, locals := 25 }) G (mW G a i j t r n d ps im kp tx cd bk py pt mt) [.ref (a 0), .int x, .int q] (ruR x q) := by
  refine mR.of (cc := cX10_rumours) (maxL := 6) (ret := (some .int)) (by decide) rfl (Nat.le_of_ble_eq_true rfl) ?_
  intro zp ze zs zm zb zt zc ls C hP hK hl
  obtain ⟨hx, hb, hr, hml, hown, hts, hlk⟩ := id C
  have hl : lv_has ls 6 [(0, .ref (a 0)), (1, .int x), (2, .int q)] := hl
  have k0 := hts (.constantLong RX10 265 (60)) (by decide +kernel)
  have k1 := hts (.constant RX10 80 (-1000000002)) (by decide +kernel)
  have k2 := hts (.constantLong RX10 267 (100)) (by decide +kernel)
  have k3 := hts (.constantLong RX10 269 (1000000000)) (by decide +kernel)
  refine lv_iload_n hx hb dX10_rumours_0 rfl (lv_at hl 1 rfl) ?_
  refine lv_i2l (v := x.toInt64) hx hb dX10_rumours_1 rfl ?_
  refine lv_lconst (v := 0) hx hb dX10_rumours_2 (by decide) ?_
  refine lv_ldc2 hx hb hown k0 dX10_rumours_3 ?_
  refine cR_S (n := 3) (As := [.long x.toInt64, .long 0, .long 60]) (rest := []) C (c_X10_in l G    x x.toInt64 rfl 0 0 rfl 60 60 rfl ) gX10_rumours_X10_in rfl ⟨rfl, rfl⟩ hd_X10_in ⟨(Nat.le_of_ble_eq_true rfl), (Nat.le_of_ble_eq_true rfl)⟩ hK (hP.sub [] rfl) rfl hl.1 rfl (Nat.le_of_ble_eq_true rfl) dX10_rumours_6 ⟨(Nat.le_of_ble_eq_true rfl), (Nat.le_of_ble_eq_true rfl)⟩ ?_
  refine b_if_eq (tgt := 24) hx hb dX10_rumours_9 (by decide) (fun cq1 => ?_) (fun cq1 => ?_)
  · skip
    refine lv_ldc hx hb hown k1 dX10_rumours_24 ?_
    exact mR_iret C dX10_rumours_26 (by simp [ruR, cq1])
  · skip
    obtain ⟨kk, hkk1, hkk2, rfl⟩ := inB_rng (a := 0) (b := 60) rfl rfl (by decide) (by decide) (cq1)
    have hcl_kk := cl_nI (n := kk) (by omega)
    refine lv_iload_n hx hb dX10_rumours_12 rfl (lv_at hl 2 rfl) ?_
    refine lv_i2l (v := q.toInt64) hx hb dX10_rumours_13 rfl ?_
    refine lv_lconst (v := 0) hx hb dX10_rumours_14 (by decide) ?_
    refine lv_ldc2 hx hb hown k2 dX10_rumours_15 ?_
    refine cR_S (n := 3) (As := [.long q.toInt64, .long 0, .long 100]) (rest := []) C (c_X10_in l G    q q.toInt64 rfl 0 0 rfl 100 100 rfl ) gX10_rumours_X10_in rfl ⟨rfl, rfl⟩ hd_X10_in ⟨(Nat.le_of_ble_eq_true rfl), (Nat.le_of_ble_eq_true rfl)⟩ hK (hP.sub [] rfl) rfl hl.1 rfl (Nat.le_of_ble_eq_true rfl) dX10_rumours_18 ⟨(Nat.le_of_ble_eq_true rfl), (Nat.le_of_ble_eq_true rfl)⟩ ?_
    refine b_if_ne (tgt := 27) hx hb dX10_rumours_21 (by decide) (fun cq2 => ?_) (fun cq2 => ?_)
    · skip
      refine lv_ldc2 hx hb hown k3 dX10_rumours_27 ?_
      refine lv_lstore_n (lv' := [(3, .long 1000000000), (0, .ref (a 0)), (1, .int (nI kk)), (2, .int q)]) hx hb dX10_rumours_30 rfl hl (by decide) rfl (fun ls hl => ?_)
      refine lv_iconst (v := 0) hx hb dX10_rumours_31 (by decide) ?_
      refine lv_istore (lv' := [(5, .int 0), (3, .long 1000000000), (0, .ref (a 0)), (1, .int (nI kk)), (2, .int q)]) hx hb dX10_rumours_32 hl (by decide) rfl (fun ls hl => ?_)
      refine wl_R (B := kk) (i0 := 0) (Inv := fun i1 ls => lv_has ls 6 [(0, .ref (a 0)), (1, .int (nI kk)), (2, .int q), (3, .long (rmL q i1)), (5, .int (nI i1))] ∧ True) (by omega) ⟨lv_sub hl [2, 3, 4, 1, 0] (rfl), trivial⟩ ?_
      rintro i1 ls hle34 ⟨hl, -⟩ ih34
      refine lv_iload hx hb dX10_rumours_34 (lv_at hl 4 rfl) ?_
      refine lv_iload_n hx hb dX10_rumours_36 rfl (lv_at hl 1 rfl) ?_
      refine n_icmp_ge (tgt := 58) hx hb dX10_rumours_37 (by decide) (u := i1) (v := kk) rfl rfl (by omega) (by omega) (fun cq3 => ?_) (fun cq3 => ?_)
      · skip
        obtain rfl : kk = i1 := by omega
        refine lv_lload_n hx hb dX10_rumours_58 rfl (lv_at hl 3 rfl) ?_
        refine lv_l2i (v := (rmL q kk).toInt32) hx hb dX10_rumours_59 rfl ?_
        exact mR_iret C dX10_rumours_60 (by simp [ruR, cq1, hcl_kk, cq2, cq3])
      · skip
        refine lv_lload_n hx hb dX10_rumours_40 rfl (lv_at hl 3 rfl) ?_
        refine lv_bipush (v := 100) hx hb dX10_rumours_41 (by decide) ?_
        refine lv_iload_n hx hb dX10_rumours_43 rfl (lv_at hl 2 rfl) ?_
        refine lv_isub hx hb dX10_rumours_44 ?_
        refine lv_i2l (v := (100 - q).toInt64) hx hb dX10_rumours_45 rfl ?_
        refine lv_lmul hx hb dX10_rumours_46 ?_
        refine lv_ldc2 hx hb hown k2 dX10_rumours_47 ?_
        refine lv_ldiv hx hb dX10_rumours_50 (by decide) ?_
        refine lv_lstore_n (lv' := [(3, .long (((rmL q i1) * ((100 - q).toInt64)) / 100)), (0, .ref (a 0)), (1, .int (nI kk)), (2, .int q), (5, .int (nI i1))]) hx hb dX10_rumours_51 rfl hl (by decide) rfl (fun ls hl => ?_)
        refine lv_iinc (v := nI (i1 + 1)) (lv' := [(5, .int (nI (i1 + 1))), (3, .long (((rmL q i1) * ((100 - q).toInt64)) / 100)), (0, .ref (a 0)), (1, .int (nI kk)), (2, .int q)]) hx hb dX10_rumours_52 hl (k := 4) rfl (by rw [show (nI i1 : Int32) = nI i1 from rfl]; exact nI_add _ 1) (by decide) rfl (fun ls hl => ?_)
        refine lv_goto (tgt := 34) hx hb dX10_rumours_55 (by decide) ?_
        exact ih34 _ (by omega) ⟨lv_sub hl [2, 3, 4, 1, 0] (rfl), trivial⟩
    · skip
      refine lv_ldc hx hb hown k1 dX10_rumours_24 ?_
      exact mR_iret C dX10_rumours_26 (by simp [ruR, cq1, hcl_kk, cq2])
theorem hd_X10_card : yX10_card.cls = RX10 ∧ yX10_card.cls ≠ "java/lang/invoke/MethodHandle" ∧ yX10_card.cls ≠ "java/lang/invoke/VarHandle" ∧ (parseMethodDescriptor yX10_card.desc).map (fun d => d.parameters.length) = some 4 := by decide +kernel
set_option maxRecDepth 100000 in
set_option maxHeartbeats 4000000 in
theorem c_X10_card (l : Launch) (G : gG) (a : Nat → Nat) (i : Nat → Int32) (j : Nat → Int32) (t : Nat → Int32) (r : Nat → Int32) (n : Nat → Int32) (d : Nat → Int32) (ps : Nat → Int32) (im : Nat → Int32) (kp : Nat → Int32) (tx : Nat → Int32) (cd : Nat → Int32) (bk : Nat → Int32) (py : Nat → Int32) (pt : Nat → Int32) (mt : Nat → Int32) (nc : Nat) (np : Nat) (cm : Nat) (p : Int32) (c : Int32) (q : Int32) (v : Prop) [Decidable v] (hT : tw t nc np) (hcm : i 13 = nI cm) (hcl : cm ≤ 6) : mX l yX10_card wsX10_card ({ frames := 2, cells := 0, slots := 0, locals := 46 }) G (mW G a i j t r n d ps im kp tx cd bk py pt mt) (mW G a (if okCd t cm p c q then upd i 13 (nI (cm + 1)) else i) j t r n d ps im kp tx (if okCd t cm p c q then caF cd cm p c q (bI v) else cd) bk py pt mt) [.ref (a 0), .int p, .int c, .int q, .int (bI (v))] (.returned (some (.int (caR t cm p c q)))) := by
  refine mX.of (cc := cX10_card) (maxL := 6) (ret := (some .int)) (by decide) rfl (Nat.le_of_ble_eq_true rfl) ?_
  intro zp ze zs zm zb zt zc ls A hAe C hP hK hD hS hl
  obtain ⟨hx, hb, hr, hml, hown, hts, hlk⟩ := id C
  have hl : lv_has ls 6 [(0, .ref (a 0)), (1, .int p), (2, .int c), (3, .int q), (4, .int (bI (v)))] := hl
  have hT2 := hT.2.2
  have k0 := hts (.constant RX10 175 (-1000000001)) (by decide +kernel)
  have k1 := hts (.constantLong RX10 271 (12)) (by decide +kernel)
  have k2 := hts (.fieldLink RX10 72 "DebtDowryModel" "cardMany" "I") (by decide +kernel)
  have k3 := (fun w h => by revert w; decide +kernel : ∀ w ∈ wsX100, w ∈ wsX10_card)
  have k4 := hts (.fieldLink RX10 39 "DebtDowryModel" "cards" "[I") (by decide +kernel)
  have k5 := hts (.constant RX10 84 (-1000000004)) (by decide +kernel)
  have k6 := hts (.constant RX10 80 (-1000000002)) (by decide +kernel)
  refine lv_aload_n hx hb dX10_card_0 rfl (lv_at hl 0 rfl) ?_
  refine lv_iload_n hx hb dX10_card_1 rfl (lv_at hl 1 rfl) ?_
  refine cR_V (Cn := RX10) (n := 1) (As := [.int p]) (rest := []) C (c_X10_isPerson l G a i j t r n d ps im kp tx cd bk py pt mt  p ) gX10_card_X10_isPerson rfl ⟨rfl, rfl⟩ hd_X10_isPerson ⟨(Nat.le_of_ble_eq_true rfl), (Nat.le_of_ble_eq_true rfl)⟩ hK hP (va_recv hK hP (ci := 10) (q0 := 0) rfl rfl) rfl hl.1 rfl (Nat.le_of_ble_eq_true rfl) dX10_card_2 ⟨(Nat.le_of_ble_eq_true rfl), (Nat.le_of_ble_eq_true rfl)⟩ ?_
  refine b_if_eq (tgt := 16) hx hb dX10_card_5 (by decide) (fun cq1 => ?_) (fun cq1 => ?_)
  · skip
    refine lv_ldc hx hb hown k0 dX10_card_16 ?_
    have hP : va_P G.1 vwCl (mW G a (if okCd t cm p c q then upd i 13 (nI (cm + 1)) else i) j t r n d ps im kp tx (if okCd t cm p c q then caF cd cm p c q (bI v) else cd) bk py pt mt) zs.heap := by rw [show (if okCd t cm p c q then upd i 13 (nI (cm + 1)) else i) = i from by first | rfl | simp [okCd, caF, bI, cq1], show (if okCd t cm p c q then caF cd cm p c q (bI v) else cd) = cd from by first | rfl | simp [okCd, caF, bI, cq1]]; exact hP
    exact mX_iret hAe C hP hS dX10_card_18 (by simp [caR, cq1])
  · skip
    obtain ⟨pp, hpp, rfl⟩ := inB_nat hT.2.1 (by omega) cq1
    have hcl_pp := cl_nI (n := pp) (by omega)
    refine lv_aload_n hx hb dX10_card_8 rfl (lv_at hl 0 rfl) ?_
    refine lv_iload_n hx hb dX10_card_9 rfl (lv_at hl 2 rfl) ?_
    refine cR_V (Cn := RX10) (n := 1) (As := [.int c]) (rest := []) C (c_X10_isCreditor l G a i j t r n d ps im kp tx cd bk py pt mt  c ) gX10_card_X10_isCreditor rfl ⟨rfl, rfl⟩ hd_X10_isCreditor ⟨(Nat.le_of_ble_eq_true rfl), (Nat.le_of_ble_eq_true rfl)⟩ hK hP (va_recv hK hP (ci := 10) (q0 := 0) rfl rfl) rfl hl.1 rfl (Nat.le_of_ble_eq_true rfl) dX10_card_10 ⟨(Nat.le_of_ble_eq_true rfl), (Nat.le_of_ble_eq_true rfl)⟩ ?_
    refine b_if_ne (tgt := 19) hx hb dX10_card_13 (by decide) (fun cq2 => ?_) (fun cq2 => ?_)
    · skip
      obtain ⟨cc, hcc, rfl⟩ := inB_nat hT.1 (by omega) cq2
      have hcl_cc := cl_nI (n := cc) (by omega)
      refine lv_iload_n hx hb dX10_card_19 rfl (lv_at hl 3 rfl) ?_
      refine lv_i2l (v := q.toInt64) hx hb dX10_card_20 rfl ?_
      refine lv_lconst (v := 0) hx hb dX10_card_21 (by decide) ?_
      refine lv_ldc2 hx hb hown k1 dX10_card_22 ?_
      refine cR_S (n := 3) (As := [.long q.toInt64, .long 0, .long 12]) (rest := []) C (c_X10_in l G    q q.toInt64 rfl 0 0 rfl 12 12 rfl ) gX10_card_X10_in rfl ⟨rfl, rfl⟩ hd_X10_in ⟨(Nat.le_of_ble_eq_true rfl), (Nat.le_of_ble_eq_true rfl)⟩ hK (hP.sub [] rfl) rfl hl.1 rfl (Nat.le_of_ble_eq_true rfl) dX10_card_25 ⟨(Nat.le_of_ble_eq_true rfl), (Nat.le_of_ble_eq_true rfl)⟩ ?_
      refine b_if_ne (tgt := 34) hx hb dX10_card_28 (by decide) (fun cq3 => ?_) (fun cq3 => ?_)
      · skip
        refine lv_aload_n hx hb dX10_card_34 rfl (lv_at hl 0 rfl) ?_
        refine va_get (D := G.1) (ci := 10) (v := .int (i 13)) (C := RX10) (T := TX10) (N := 25) hx hb hts k3 hown hK hP 0 rfl rfl 13 (by decide) k2 (fun _ h9 => h9) rfl dX10_card_35 ?_
        refine lv_bipush (v := 6) hx hb dX10_card_38 (by decide) ?_
        refine n_icmp_ne (tgt := 46) hx hb dX10_card_40 (by decide) (u := cm) (v := 6) hcm rfl (by omega) (by omega) (fun cq4 => ?_) (fun cq4 => ?_)
        · skip
          have hne : ¬ cm = 6 := cq4
          refine lv_iconst (v := 4) hx hb dX10_card_46 (by decide) ?_
          refine lv_aload_n hx hb dX10_card_47 rfl (lv_at hl 0 rfl) ?_
          refine va_get (D := G.1) (ci := 10) (v := .int (i 13)) (C := RX10) (T := TX10) (N := 25) hx hb hts k3 hown hK hP 0 rfl rfl 13 (by decide) k2 (fun _ h9 => h9) rfl dX10_card_48 ?_
          refine n_imul hx hb dX10_card_51 (u := 4) (v := cm) rfl hcm (j := 4 * cm) (by omega) ?_
          refine lv_istore (lv' := [(5, .int (nI (4 * cm))), (0, .ref (a 0)), (1, .int (nI pp)), (2, .int (nI cc)), (3, .int q), (4, .int (bI (v)))]) hx hb dX10_card_52 hl (by decide) rfl (fun ls hl => ?_)
          refine lv_aload_n hx hb dX10_card_54 rfl (lv_at hl 1 rfl) ?_
          refine va_get (D := G.1) (ci := 10) (v := .ref (a 9)) (C := RX10) (T := TX10) (N := 25) hx hb hts k3 hown hK hP 0 rfl rfl 12 (by decide) k4 (fun _ h9 => h9) rfl dX10_card_55 ?_
          refine lv_iload hx hb dX10_card_58 (lv_at hl 0 rfl) ?_
          refine lv_iload_n hx hb dX10_card_60 rfl (lv_at hl 2 rfl) ?_
          refine n_iast hx hb hK hP hD hS 9 0 rfl rfl (x := (nI pp)) (j := 4 * cm) rfl (by omega) (by decide) dX10_card_61 (wsn := mW G a i j t r n d ps im kp tx (upd cd (4 * cm) (nI pp)) bk py pt mt) rfl (fun H locs hP hD hS => ?_)
          refine lv_aload_n hx hb dX10_card_62 rfl (lv_at hl 1 rfl) ?_
          refine va_get (D := G.1) (ci := 10) (v := .ref (a 9)) (C := RX10) (T := TX10) (N := 25) hx hb hts k3 hown hK hP 0 rfl rfl 12 (by decide) k4 (fun _ h9 => h9) rfl dX10_card_63 ?_
          refine lv_iload hx hb dX10_card_66 (lv_at hl 0 rfl) ?_
          refine lv_iconst (v := 1) hx hb dX10_card_68 (by decide) ?_
          refine n_iadd hx hb dX10_card_69 (u := 4 * cm) (v := 1) rfl rfl (j := (4 * cm) + 1) (by omega) ?_
          refine lv_iload_n hx hb dX10_card_70 rfl (lv_at hl 3 rfl) ?_
          refine n_iast hx hb hK hP hD hS 9 0 rfl rfl (x := (nI cc)) (j := (4 * cm) + 1) rfl (by omega) (by decide) dX10_card_71 (wsn := mW G a i j t r n d ps im kp tx (upd (upd cd (4 * cm) (nI pp)) ((4 * cm) + 1) (nI cc)) bk py pt mt) rfl (fun H locs hP hD hS => ?_)
          refine lv_aload_n hx hb dX10_card_72 rfl (lv_at hl 1 rfl) ?_
          refine va_get (D := G.1) (ci := 10) (v := .ref (a 9)) (C := RX10) (T := TX10) (N := 25) hx hb hts k3 hown hK hP 0 rfl rfl 12 (by decide) k4 (fun _ h9 => h9) rfl dX10_card_73 ?_
          refine lv_iload hx hb dX10_card_76 (lv_at hl 0 rfl) ?_
          refine lv_iconst (v := 2) hx hb dX10_card_78 (by decide) ?_
          refine n_iadd hx hb dX10_card_79 (u := 4 * cm) (v := 2) rfl rfl (j := (4 * cm) + 2) (by omega) ?_
          refine lv_iload_n hx hb dX10_card_80 rfl (lv_at hl 4 rfl) ?_
          refine n_iast hx hb hK hP hD hS 9 0 rfl rfl (x := q) (j := (4 * cm) + 2) rfl (by omega) (by decide) dX10_card_81 (wsn := mW G a i j t r n d ps im kp tx (upd (upd (upd cd (4 * cm) (nI pp)) ((4 * cm) + 1) (nI cc)) ((4 * cm) + 2) q) bk py pt mt) rfl (fun H locs hP hD hS => ?_)
          refine lv_aload_n hx hb dX10_card_82 rfl (lv_at hl 1 rfl) ?_
          refine va_get (D := G.1) (ci := 10) (v := .ref (a 9)) (C := RX10) (T := TX10) (N := 25) hx hb hts k3 hown hK hP 0 rfl rfl 12 (by decide) k4 (fun _ h9 => h9) rfl dX10_card_83 ?_
          refine lv_iload hx hb dX10_card_86 (lv_at hl 0 rfl) ?_
          refine lv_iconst (v := 3) hx hb dX10_card_88 (by decide) ?_
          refine n_iadd hx hb dX10_card_89 (u := 4 * cm) (v := 3) rfl rfl (j := (4 * cm) + 3) (by omega) ?_
          refine lv_iload hx hb dX10_card_90 (lv_at hl 5 rfl) ?_
          refine b_if_eq (tgt := 99) hx hb dX10_card_92 (by decide) (fun cq5 => ?_) (fun cq5 => ?_)
          · skip
            refine lv_iconst (v := 0) hx hb dX10_card_99 (by decide) ?_
            refine n_iast hx hb hK hP hD hS 9 0 rfl rfl (x := 0) (j := (4 * cm) + 3) rfl (by omega) (by decide) dX10_card_100 (wsn := mW G a i j t r n d ps im kp tx (upd (upd (upd (upd cd (4 * cm) (nI pp)) ((4 * cm) + 1) (nI cc)) ((4 * cm) + 2) q) ((4 * cm) + 3) 0) bk py pt mt) rfl (fun H locs hP hD hS => ?_)
            refine lv_aload_n hx hb dX10_card_101 rfl (lv_at hl 1 rfl) ?_
            refine lv_dup hx hb dX10_card_102 rfl ?_
            refine va_get (D := G.1) (ci := 10) (v := .int (i 13)) (C := RX10) (T := TX10) (N := 25) hx hb hts k3 hown hK hP 0 rfl rfl 13 (by decide) k2 (fun _ h9 => h9) rfl dX10_card_103 ?_
            refine lv_iconst (v := 1) hx hb dX10_card_106 (by decide) ?_
            refine n_iadd hx hb dX10_card_107 (u := cm) (v := 1) hcm rfl (j := cm + 1) (by omega) ?_
            refine n_put (D := G.1) (wsn := mW G a (upd i 13 (nI (cm + 1))) j t r n d ps im kp tx (upd (upd (upd (upd cd (4 * cm) (nI pp)) ((4 * cm) + 1) (nI cc)) ((4 * cm) + 2) q) ((4 * cm) + 3) 0) bk py pt mt) (ci := 10) (v := .int (nI (cm + 1))) (ty := .int) (C := RX10) (T := TX10) (N := 25) hx hb hts k3 tyX10 tyX10_ok nmX10 hown hK hP hD hS 0 rfl rfl 13 (by decide) k2 (fun _ h9 => h9) rfl (by decide +kernel) rfl rfl (Nat.le_of_ble_eq_true rfl) rfl dX10_card_108 (fun H locs hP hD hS => ?_)
            refine lv_aload_n hx hb dX10_card_111 rfl (lv_at hl 1 rfl) ?_
            refine va_get (D := G.1) (ci := 10) (v := .int (nI (cm + 1))) (C := RX10) (T := TX10) (N := 25) hx hb hts k3 hown hK hP 0 rfl rfl 13 (by decide) k2 (fun _ h9 => h9) rfl dX10_card_112 ?_
            have hP : va_P G.1 vwCl (mW G a (if okCd t cm (nI pp) (nI cc) q then upd i 13 (nI (cm + 1)) else i) j t r n d ps im kp tx (if okCd t cm (nI pp) (nI cc) q then caF cd cm (nI pp) (nI cc) q (bI v) else cd) bk py pt mt) H := by rw [show (if okCd t cm (nI pp) (nI cc) q then upd i 13 (nI (cm + 1)) else i) = (upd i 13 (nI (cm + 1))) from by first | rfl | simp [okCd, caF, bI, cq1, hcl_pp, cq2, hcl_cc, cq3, cq4, hne, cq5], show (if okCd t cm (nI pp) (nI cc) q then caF cd cm (nI pp) (nI cc) q (bI v) else cd) = (upd (upd (upd (upd cd (4 * cm) (nI pp)) ((4 * cm) + 1) (nI cc)) ((4 * cm) + 2) q) ((4 * cm) + 3) 0) from by first | rfl | simp [okCd, caF, bI, cq1, hcl_pp, cq2, hcl_cc, cq3, cq4, hne, cq5]]; exact hP
            exact mX_iret hAe C hP hS dX10_card_115 (by simp [caR, cq1, hcl_pp, cq2, hcl_cc, cq3, cq4, hne, cq5])
          · skip
            refine lv_iconst (v := 1) hx hb dX10_card_95 (by decide) ?_
            refine lv_goto (tgt := 100) hx hb dX10_card_96 (by decide) ?_
            refine n_iast hx hb hK hP hD hS 9 0 rfl rfl (x := 1) (j := (4 * cm) + 3) rfl (by omega) (by decide) dX10_card_100 (wsn := mW G a i j t r n d ps im kp tx (upd (upd (upd (upd cd (4 * cm) (nI pp)) ((4 * cm) + 1) (nI cc)) ((4 * cm) + 2) q) ((4 * cm) + 3) 1) bk py pt mt) rfl (fun H locs hP hD hS => ?_)
            refine lv_aload_n hx hb dX10_card_101 rfl (lv_at hl 1 rfl) ?_
            refine lv_dup hx hb dX10_card_102 rfl ?_
            refine va_get (D := G.1) (ci := 10) (v := .int (i 13)) (C := RX10) (T := TX10) (N := 25) hx hb hts k3 hown hK hP 0 rfl rfl 13 (by decide) k2 (fun _ h9 => h9) rfl dX10_card_103 ?_
            refine lv_iconst (v := 1) hx hb dX10_card_106 (by decide) ?_
            refine n_iadd hx hb dX10_card_107 (u := cm) (v := 1) hcm rfl (j := cm + 1) (by omega) ?_
            refine n_put (D := G.1) (wsn := mW G a (upd i 13 (nI (cm + 1))) j t r n d ps im kp tx (upd (upd (upd (upd cd (4 * cm) (nI pp)) ((4 * cm) + 1) (nI cc)) ((4 * cm) + 2) q) ((4 * cm) + 3) 1) bk py pt mt) (ci := 10) (v := .int (nI (cm + 1))) (ty := .int) (C := RX10) (T := TX10) (N := 25) hx hb hts k3 tyX10 tyX10_ok nmX10 hown hK hP hD hS 0 rfl rfl 13 (by decide) k2 (fun _ h9 => h9) rfl (by decide +kernel) rfl rfl (Nat.le_of_ble_eq_true rfl) rfl dX10_card_108 (fun H locs hP hD hS => ?_)
            refine lv_aload_n hx hb dX10_card_111 rfl (lv_at hl 1 rfl) ?_
            refine va_get (D := G.1) (ci := 10) (v := .int (nI (cm + 1))) (C := RX10) (T := TX10) (N := 25) hx hb hts k3 hown hK hP 0 rfl rfl 13 (by decide) k2 (fun _ h9 => h9) rfl dX10_card_112 ?_
            have hP : va_P G.1 vwCl (mW G a (if okCd t cm (nI pp) (nI cc) q then upd i 13 (nI (cm + 1)) else i) j t r n d ps im kp tx (if okCd t cm (nI pp) (nI cc) q then caF cd cm (nI pp) (nI cc) q (bI v) else cd) bk py pt mt) H := by rw [show (if okCd t cm (nI pp) (nI cc) q then upd i 13 (nI (cm + 1)) else i) = (upd i 13 (nI (cm + 1))) from by first | rfl | simp [okCd, caF, bI, cq1, hcl_pp, cq2, hcl_cc, cq3, cq4, hne, cq5], show (if okCd t cm (nI pp) (nI cc) q then caF cd cm (nI pp) (nI cc) q (bI v) else cd) = (upd (upd (upd (upd cd (4 * cm) (nI pp)) ((4 * cm) + 1) (nI cc)) ((4 * cm) + 2) q) ((4 * cm) + 3) 1) from by first | rfl | simp [okCd, caF, bI, cq1, hcl_pp, cq2, hcl_cc, cq3, cq4, hne, cq5]]; exact hP
            exact mX_iret hAe C hP hS dX10_card_115 (by simp [caR, cq1, hcl_pp, cq2, hcl_cc, cq3, cq4, hne, cq5])
        · skip
          refine lv_ldc hx hb hown k5 dX10_card_43 ?_
          have hP : va_P G.1 vwCl (mW G a (if okCd t cm (nI pp) (nI cc) q then upd i 13 (nI (cm + 1)) else i) j t r n d ps im kp tx (if okCd t cm (nI pp) (nI cc) q then caF cd cm (nI pp) (nI cc) q (bI v) else cd) bk py pt mt) zs.heap := by rw [show (if okCd t cm (nI pp) (nI cc) q then upd i 13 (nI (cm + 1)) else i) = i from by first | rfl | simp [okCd, caF, bI, cq1, hcl_pp, cq2, hcl_cc, cq3, cq4], show (if okCd t cm (nI pp) (nI cc) q then caF cd cm (nI pp) (nI cc) q (bI v) else cd) = cd from by first | rfl | simp [okCd, caF, bI, cq1, hcl_pp, cq2, hcl_cc, cq3, cq4]]; exact hP
          exact mX_iret hAe C hP hS dX10_card_45 (by simp [caR, cq1, hcl_pp, cq2, hcl_cc, cq3, cq4])
      · skip
        refine lv_ldc hx hb hown k6 dX10_card_31 ?_
        have hP : va_P G.1 vwCl (mW G a (if okCd t cm (nI pp) (nI cc) q then upd i 13 (nI (cm + 1)) else i) j t r n d ps im kp tx (if okCd t cm (nI pp) (nI cc) q then caF cd cm (nI pp) (nI cc) q (bI v) else cd) bk py pt mt) zs.heap := by rw [show (if okCd t cm (nI pp) (nI cc) q then upd i 13 (nI (cm + 1)) else i) = i from by first | rfl | simp [okCd, caF, bI, cq1, hcl_pp, cq2, hcl_cc, cq3], show (if okCd t cm (nI pp) (nI cc) q then caF cd cm (nI pp) (nI cc) q (bI v) else cd) = cd from by first | rfl | simp [okCd, caF, bI, cq1, hcl_pp, cq2, hcl_cc, cq3]]; exact hP
        exact mX_iret hAe C hP hS dX10_card_33 (by simp [caR, cq1, hcl_pp, cq2, hcl_cc, cq3])
    · skip
      refine lv_ldc hx hb hown k0 dX10_card_16 ?_
      have hP : va_P G.1 vwCl (mW G a (if okCd t cm (nI pp) c q then upd i 13 (nI (cm + 1)) else i) j t r n d ps im kp tx (if okCd t cm (nI pp) c q then caF cd cm (nI pp) c q (bI v) else cd) bk py pt mt) zs.heap := by rw [show (if okCd t cm (nI pp) c q then upd i 13 (nI (cm + 1)) else i) = i from by first | rfl | simp [okCd, caF, bI, cq1, hcl_pp, cq2], show (if okCd t cm (nI pp) c q then caF cd cm (nI pp) c q (bI v) else cd) = cd from by first | rfl | simp [okCd, caF, bI, cq1, hcl_pp, cq2]]; exact hP
      exact mX_iret hAe C hP hS dX10_card_18 (by simp [caR, cq1, hcl_pp, cq2])
theorem hd_X10_isCivil : yX10_isCivil.cls = RX10 ∧ yX10_isCivil.cls ≠ "java/lang/invoke/MethodHandle" ∧ yX10_isCivil.cls ≠ "java/lang/invoke/VarHandle" ∧ (parseMethodDescriptor yX10_isCivil.desc).map (fun d => d.parameters.length) = some 3 := by decide +kernel
set_option maxRecDepth 100000 in
set_option maxHeartbeats 4000000 in
theorem c_X10_isCivil (l : Launch) (G : gG) (a : Nat → Nat) (i : Nat → Int32) (j : Nat → Int32) (t : Nat → Int32) (r : Nat → Int32) (n : Nat → Int32) (d : Nat → Int32) (ps : Nat → Int32) (im : Nat → Int32) (kp : Nat → Int32) (tx : Nat → Int32) (cd : Nat → Int32) (bk : Nat → Int32) (py : Nat → Int32) (pt : Nat → Int32) (mt : Nat → Int32) (c : Nat) (v : Int32) (q : Nat) (hc : c < 4) (hq : q < 2147483648) : mR l yX10_isCivil wsX10_isCivil ({ frames := 2, cells := 0, slots := 0, locals := 42 }) G (mW G a i j t r n d ps im kp tx cd bk py pt mt) [.ref (a 0), .int (nI c), .int v, .int (nI q)] (bI (civB t c v q)) := by
  refine mR.of (cc := cX10_isCivil) (maxL := 6) (ret := (some .boolean)) (by decide) rfl (Nat.le_of_ble_eq_true rfl) ?_
  intro zp ze zs zm zb zt zc ls C hP hK hl
  obtain ⟨hx, hb, hr, hml, hown, hts, hlk⟩ := id C
  have hl : lv_has ls 6 [(0, .ref (a 0)), (1, .int (nI c)), (2, .int v), (3, .int (nI q))] := hl
  have k0 := hts (.fieldLink RX10 7 "DebtDowryModel" "town" "[I") (by decide +kernel)
  have k1 := (fun w h => by revert w; decide +kernel : ∀ w ∈ wsX100, w ∈ wsX10_isCivil)
  refine lv_iload_n hx hb dX10_isCivil_0 rfl (lv_at hl 2 rfl) ?_
  refine lv_istore (lv' := [(4, .int v), (0, .ref (a 0)), (1, .int (nI c)), (2, .int v), (3, .int (nI q))]) hx hb dX10_isCivil_1 hl (by decide) rfl (fun ls hl => ?_)
  refine lv_iconst (v := 0) hx hb dX10_isCivil_3 (by decide) ?_
  refine lv_istore (lv' := [(5, .int 0), (4, .int v), (0, .ref (a 0)), (1, .int (nI c)), (2, .int v), (3, .int (nI q))]) hx hb dX10_isCivil_4 hl (by decide) rfl (fun ls hl => ?_)
  refine wl_R (B := q) (i0 := 0) (Inv := fun i1 ls => lv_has ls 6 [(0, .ref (a 0)), (1, .int (nI c)), (2, .int v), (3, .int (nI q)), (4, .int (grU (t 1) v i1)), (5, .int (nI i1))] ∧ True) (by omega) ⟨lv_sub hl [2, 3, 4, 5, 1, 0] (rfl), trivial⟩ ?_
  rintro i1 ls hle6 ⟨hl, -⟩ ih6
  refine lv_iload hx hb dX10_isCivil_6 (lv_at hl 5 rfl) ?_
  refine lv_iload_n hx hb dX10_isCivil_8 rfl (lv_at hl 3 rfl) ?_
  refine n_icmp_ge (tgt := 26) hx hb dX10_isCivil_9 (by decide) (u := i1) (v := q) rfl rfl (by omega) (by omega) (fun cq1 => ?_) (fun cq1 => ?_)
  · skip
    obtain rfl : q = i1 := by omega
    refine lv_iload hx hb dX10_isCivil_26 (lv_at hl 4 rfl) ?_
    refine lv_i2l (v := (grU (t 1) v q).toInt64) hx hb dX10_isCivil_28 rfl ?_
    refine lv_aload_n hx hb dX10_isCivil_29 rfl (lv_at hl 0 rfl) ?_
    refine va_get (D := G.1) (ci := 10) (v := .ref (a 1)) (C := RX10) (T := TX10) (N := 25) hx hb hts k1 hown hK hP 0 rfl rfl 0 (by decide) k0 (fun _ h9 => h9) rfl dX10_isCivil_30 ?_
    refine lv_bipush (v := 9) hx hb dX10_isCivil_33 (by decide) ?_
    refine lv_iload_n hx hb dX10_isCivil_35 rfl (lv_at hl 1 rfl) ?_
    refine n_iadd hx hb dX10_isCivil_36 (u := 9) (v := c) rfl rfl (j := 9 + c) (by omega) ?_
    refine n_iald hx hb hK hP 1 0 rfl rfl (j := 9 + c) rfl (by omega) (by decide) dX10_isCivil_37 ?_
    refine lv_i2l (v := (t (9 + c)).toInt64) hx hb dX10_isCivil_38 rfl ?_
    refine lv_aload_n hx hb dX10_isCivil_39 rfl (lv_at hl 0 rfl) ?_
    refine va_get (D := G.1) (ci := 10) (v := .ref (a 1)) (C := RX10) (T := TX10) (N := 25) hx hb hts k1 hown hK hP 0 rfl rfl 0 (by decide) k0 (fun _ h9 => h9) rfl dX10_isCivil_40 ?_
    refine lv_bipush (v := 13) hx hb dX10_isCivil_43 (by decide) ?_
    refine lv_iload_n hx hb dX10_isCivil_45 rfl (lv_at hl 1 rfl) ?_
    refine n_iadd hx hb dX10_isCivil_46 (u := 13) (v := c) rfl rfl (j := 13 + c) (by omega) ?_
    refine n_iald hx hb hK hP 1 0 rfl rfl (j := 13 + c) rfl (by omega) (by decide) dX10_isCivil_47 ?_
    refine lv_i2l (v := (t (13 + c)).toInt64) hx hb dX10_isCivil_48 rfl ?_
    refine cR_S (n := 3) (As := [.long ((grU (t 1) v q).toInt64), .long ((t (9 + c)).toInt64), .long ((t (13 + c)).toInt64)]) (rest := []) C (c_X10_in l G    (grU (t 1) v q) ((grU (t 1) v q).toInt64) rfl (t (9 + c)) ((t (9 + c)).toInt64) rfl (t (13 + c)) ((t (13 + c)).toInt64) rfl ) gX10_isCivil_X10_in rfl ⟨rfl, rfl⟩ hd_X10_in ⟨(Nat.le_of_ble_eq_true rfl), (Nat.le_of_ble_eq_true rfl)⟩ hK (hP.sub [] rfl) rfl hl.1 rfl (Nat.le_of_ble_eq_true rfl) dX10_isCivil_49 ⟨(Nat.le_of_ble_eq_true rfl), (Nat.le_of_ble_eq_true rfl)⟩ ?_
    exact mR_zret C dX10_isCivil_52 (bI_n _) (rfl)
  · skip
    refine lv_aload_n hx hb dX10_isCivil_12 rfl (lv_at hl 0 rfl) ?_
    refine lv_iload hx hb dX10_isCivil_13 (lv_at hl 4 rfl) ?_
    refine cR_V (Cn := RX10) (n := 1) (As := [.int (grU (t 1) v i1)]) (rest := []) C (c_X10_grows l G a i j t r n d ps im kp tx cd bk py pt mt  (grU (t 1) v i1) ) gX10_isCivil_X10_grows rfl ⟨rfl, rfl⟩ hd_X10_grows ⟨(Nat.le_of_ble_eq_true rfl), (Nat.le_of_ble_eq_true rfl)⟩ hK hP (va_recv hK hP (ci := 10) (q0 := 0) rfl rfl) rfl hl.1 rfl (Nat.le_of_ble_eq_true rfl) dX10_isCivil_15 ⟨(Nat.le_of_ble_eq_true rfl), (Nat.le_of_ble_eq_true rfl)⟩ ?_
    refine lv_istore (lv' := [(4, .int (growI (grU (t 1) v i1) (t 1))), (0, .ref (a 0)), (1, .int (nI c)), (2, .int v), (3, .int (nI q)), (5, .int (nI i1))]) hx hb dX10_isCivil_18 hl (by decide) rfl (fun ls hl => ?_)
    refine lv_iinc (v := nI (i1 + 1)) (lv' := [(5, .int (nI (i1 + 1))), (4, .int (growI (grU (t 1) v i1) (t 1))), (0, .ref (a 0)), (1, .int (nI c)), (2, .int v), (3, .int (nI q))]) hx hb dX10_isCivil_20 hl (k := 5) rfl (by rw [show (nI i1 : Int32) = nI i1 from rfl]; exact nI_add _ 1) (by decide) rfl (fun ls hl => ?_)
    refine lv_goto (tgt := 6) hx hb dX10_isCivil_23 (by decide) ?_
    exact ih6 _ (by omega) ⟨lv_sub hl [2, 3, 4, 5, 1, 0] (rfl), trivial⟩
