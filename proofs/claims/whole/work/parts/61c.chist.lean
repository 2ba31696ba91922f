theorem rgW_c {G : gG} {ka : Nat} {ra ra2 : Nat → Nat → Nat} {rg : Nat → Nat → Int32} : ∀ n, (∀ j, j < n → ∀ i, i < 5 → ra j i = ra2 j i) → rgW G ka ra rg n = rgW G ka ra2 rg n
  | 0, _ => rfl
  | n + 1, h => by
    show rgW G ka ra rg n ++ s1W G (ra n 0) (ra n 1) (ra n 2) (ra n 3) (ra n 4) ka (rg n) = rgW G ka ra2 rg n ++ s1W G (ra2 n 0) (ra2 n 1) (ra2 n 2) (ra2 n 3) (ra2 n 4) ka (rg n)
    rw [rgW_c n (fun j hj => h j (by omega)), h n (by omega) 0 (by omega), h n (by omega) 1 (by omega), h n (by omega) 2 (by omega), h n (by omega) 3 (by omega), h n (by omega) 4 (by omega)]
theorem arrR_c {c : ClassId} {n : Nat} {f g : Nat → Option Nat} (h : ∀ k, k < n → f k = g k) : arrV c n (fun j => va_rf (f j)) = arrV c n (fun j => va_rf (g j)) := by
  unfold arrV
  congr 1
  congr 1
  funext j
  show va_rf (f j.val) = va_rf (g j.val)
  rw [h j.val j.isLt]
theorem rA_q {G : gG} {A : Nat → Prop} {c : ClassId} {n p a : Nat} {f g : Nat → Option Nat} {ws : va_W} {H : Heap} (h : ∀ k, k < n → f k = g k) (hP : va_P G.1 vwCl ws H) (hD : va_D A ws) (hp : ws[p]? = some (a, rA c n f)) : va_P G.1 vwCl (ws.set p (a, rA c n g)) H := by
  refine hP.set hD hp ?_ (fun _ _ => rfl)
  have h1 : H[a]? = some (arrV c n (fun j => va_rf (f j))) := hP p _ hp
  show H[a]? = some (arrV c n (fun j => va_rf (g j)))
  rw [h1, arrR_c h]
def upR (ra : Nat → Nat → Nat) (i q : Nat) (qq : Nat → Nat) : Nat → Nat → Nat := fun j k => if j = i then (if k = 0 then q else qq k) else ra j k
theorem upR_i {ra : Nat → Nat → Nat} {i q : Nat} {qq : Nat → Nat} : upR ra i q qq i 0 = q ∧ upR ra i q qq i 1 = qq 1 ∧ upR ra i q qq i 2 = qq 2 ∧ upR ra i q qq i 3 = qq 3 ∧ upR ra i q qq i 4 = qq 4 := by
  unfold upR; simp
theorem upR_n {ra : Nat → Nat → Nat} {i q : Nat} {qq : Nat → Nat} {j k : Nat} (h : j ≠ i) : upR ra i q qq j k = ra j k := if_neg h
theorem hist_w {G : gG} {b tq q1 i q : Nat} {ra : Nat → Nat → Nat} {qq : Nat → Nat} : ([(b, oA 2 [.ref q1, .int 0, .int 0]), (q1, rA G.2.2.2.1 30 (va_up (fun k => if k < i then some (ra k 0) else none) i (some q)))] ++ rgW G tq ra (fun _ _ => 0) i) ++ s1W G q (qq 1) (qq 2) (qq 3) (qq 4) tq (fun _ => 0) = ([(b, oA 2 [.ref q1, .int 0, .int 0]), (q1, rA G.2.2.2.1 30 (fun k => if k < i + 1 then some ((upR ra i q qq) k 0) else none))] ++ rgW G tq (upR ra i q qq) (fun _ _ => 0) (i + 1)) := by
  have e1 : va_up (fun k => if k < i then some (ra k 0) else none) i (some q) = (fun k => if k < i + 1 then some ((upR ra i q qq) k 0) else none) := by
    funext k
    unfold va_up
    by_cases h : k = i
    · rw [if_pos h, if_pos (by omega), h, upR_i.1]
    · rw [if_neg h, upR_n h]
      show (if k < i then some (ra k 0) else none) = (if k < i + 1 then some (ra k 0) else none)
      by_cases h2 : k < i
      · rw [if_pos h2, if_pos (by omega)]
      · rw [if_neg h2, if_neg (by omega)]
  have e2 : rgW G tq (upR ra i q qq) (fun _ _ => 0) (i + 1) = rgW G tq ra (fun _ _ => 0) i ++ s1W G q (qq 1) (qq 2) (qq 3) (qq 4) tq (fun _ => 0) := by
    show rgW G tq (upR ra i q qq) (fun _ _ => 0) i ++ s1W G (upR ra i q qq i 0) (upR ra i q qq i 1) (upR ra i q qq i 2) (upR ra i q qq i 3) (upR ra i q qq i 4) tq (fun _ => 0) = _
    rw [upR_i.1, upR_i.2.1, upR_i.2.2.1, upR_i.2.2.2.1, upR_i.2.2.2.2, rgW_c (ra2 := ra) i (fun j hj k _ => upR_n (by omega))]
  rw [e1, e2, List.append_assoc]
set_option maxRecDepth 100000 in
set_option maxHeartbeats 4000000 in
theorem hist_loop {zp : Program} {l : Launch} {ze : Env} {zs : State} {zm : MethodId} {av : List Value} {zb : List Frame} {zt : Method} {zc : Code} {Q : State → Prop} {G : gG} {b tq q1 : Nat} {A : Nat → Prop} (C : mCtx zp zs zm av zt zc cX2_init 3 none RX2 wsX2_init) (hO : mkO zs) (hK : va_K G.1 vwCl (tyS G) zs) (hA : ∀ q : Nat, zs.heap.size ≤ q → A q)
    (kk : ∀ (ra : Nat → Nat → Nat) (H : Heap) (locs : List Loc) (ls : Array Slot), va_P G.1 vwCl ([(b, oA 2 [.ref q1, .int 0, .int 0]), (q1, rA G.2.2.2.1 30 (fun k => if k < 30 then some (ra k 0) else none))] ++ rgW G tq ra (fun _ _ => 0) 30) H → va_D A ([(b, oA 2 [.ref q1, .int 0, .int 0]), (q1, rA G.2.2.2.1 30 (fun k => if k < 30 then some (ra k 0) else none))] ++ rgW G tq ra (fun _ _ => 0) 30) → va_S A zs.heap H locs → W zp l ze ({ frames := 2, cells := 151, slots := 1800, locals := 45 } : Room) zs zm av.toArray zb zt zc H locs 151 1800 Q (F0 zm 41 ls [])) :
    ∀ (n i : Nat), i + n = 30 → ∀ (ra : Nat → Nat → Nat) (H : Heap) (locs : List Loc) (ls : Array Slot), va_P G.1 vwCl ([(b, oA 2 [.ref q1, .int 0, .int 0]), (q1, rA G.2.2.2.1 30 (fun k => if k < i then some (ra k 0) else none))] ++ rgW G tq ra (fun _ _ => 0) i) H → va_D A ([(b, oA 2 [.ref q1, .int 0, .int 0]), (q1, rA G.2.2.2.1 30 (fun k => if k < i then some (ra k 0) else none))] ++ rgW G tq ra (fun _ _ => 0) i) → va_S A zs.heap H locs → lv_has ls 3 [(0, .ref b), (1, .ref tq), (2, .int (nI i))] → W zp l ze ({ frames := 2, cells := 151, slots := 1800, locals := 45 } : Room) zs zm av.toArray zb zt zc H locs (1 + 5 * i) (30 + 59 * i) Q (F0 zm 15 ls []) := by
  obtain ⟨hx, hb, hr, hml, hown, hts, hlk⟩ := id C
  have k2 := (fun w h => by revert w; decide +kernel : ∀ w ∈ wsX20, w ∈ wsX2_init)
  have k7 := (fun w h => by revert w; decide +kernel : ∀ w ∈ wsX70, w ∈ wsX2_init)
  have kf := hts (.fieldLink RX2 11 "DebtDowry$History" "ring" "[LDebtDowry$State;") (by decide +kernel)
  have kc := hts (.classLink RX2 9 RX7) (by decide +kernel)
  have ki := hts (.instantiable RX7 7) (by decide +kernel)
  have kz := hts (.initialized RX7) (by decide +kernel)
  intro n
  induction n with
  | zero =>
    intro i hi ra H locs ls hP hD hS hl
    have e : i = 30 := by omega
    subst e
    refine lv_iload_n hx hb dX2_init_15 rfl (lv_at hl 2 rfl) ?_
    refine lv_bipush (v := 30) hx hb dX2_init_16 (by decide) ?_
    refine n_icmp_ge (tgt := 41) hx hb dX2_init_18 (by decide) (u := 30) (v := 30) rfl rfl (by omega) (by omega) (fun cq => ?_) (fun cq => absurd cq (by omega))
    exact kk ra H locs ls hP hD hS
  | succ n ih =>
    intro i hi ra H locs ls hP hD hS hl
    refine lv_iload_n hx hb dX2_init_15 rfl (lv_at hl 2 rfl) ?_
    refine lv_bipush (v := 30) hx hb dX2_init_16 (by decide) ?_
    refine n_icmp_ge (tgt := 41) hx hb dX2_init_18 (by decide) (u := i) (v := 30) rfl rfl (by omega) (by omega) (fun cq => absurd cq (by omega)) (fun cq => ?_)
    refine lv_aload_n hx hb dX2_init_21 rfl (lv_at hl 0 rfl) ?_
    refine va_get (D := G.1) (ci := 2) (v := .ref q1) (C := RX2) (T := TX2) (N := 3) hx hb hts k2 hown hK hP 0 rfl rfl 0 (by decide) kf (fun _ h9 => h9) rfl dX2_init_22 ?_
    refine lv_iload_n hx hb dX2_init_25 rfl (lv_at hl 2 rfl) ?_
    refine va_new (ci := 7) (fs := [.null, .null, .null, .null, .null, .int 0, .int 0]) (C := RX7) (T := TX7) (N := 7) hx hb hts k7 tyX7 tyX7_ok hown kc ki kz hK hP hD hS hA rfl (fun j hj => match j, hj with | 0, _ => rfl | 1, _ => rfl | 2, _ => rfl | 3, _ => rfl | 4, _ => rfl | 5, _ => rfl | 6, _ => rfl | j + 7, h => absurd h (by omega)) (by show _ ≤ 151; omega) (by show _ ≤ 1800; omega) dX2_init_26 (fun q H hP hD hS => ?_)
    refine lv_dup hx hb dX2_init_29 rfl ?_
    refine lv_aload_n hx hb dX2_init_30 rfl (lv_at hl 1 rfl) ?_
    refine n_ctor (X := ([(b, oA 2 [.ref q1, .int 0, .int 0]), (q1, rA G.2.2.2.1 30 (fun k => if k < i then some (ra k 0) else none))] ++ rgW G tq ra (fun _ _ => 0) i)) (As := [.ref tq]) (rest := [.ref q, .int (nI i), .ref q1]) C (c_X7_init l G H.size q tq) gX2_init_X7_init rfl ⟨rfl, rfl⟩ (by decide +kernel) (by decide +kernel) (by decide +kernel) rfl (n := 1) (by decide +kernel) ⟨(Nat.le_of_ble_eq_true rfl), (Nat.le_of_ble_eq_true rfl)⟩ hO hK hP hD hS hA rfl hl.1 rfl (Nat.le_of_ble_eq_true rfl) dX2_init_31 ⟨by show _ ≤ 151; omega, by show _ ≤ 1800; omega⟩ (fun qq H locs hP hD hS => ?_)
    have hP : va_P G.1 vwCl (([(b, oA 2 [.ref q1, .int 0, .int 0]), (q1, rA G.2.2.2.1 30 (fun k => if k < i then some (ra k 0) else none))] ++ rgW G tq ra (fun _ _ => 0) i) ++ s1W G q (qq 1) (qq 2) (qq 3) (qq 4) tq (fun _ => 0)) H := hP
    have hD : va_D A (([(b, oA 2 [.ref q1, .int 0, .int 0]), (q1, rA G.2.2.2.1 30 (fun k => if k < i then some (ra k 0) else none))] ++ rgW G tq ra (fun _ _ => 0) i) ++ s1W G q (qq 1) (qq 2) (qq 3) (qq 4) tq (fun _ => 0)) := hD
    have hv : (([(b, oA 2 [.ref q1, .int 0, .int 0]), (q1, rA G.2.2.2.1 30 (fun k => if k < i then some (ra k 0) else none))] ++ rgW G tq ra (fun _ _ => 0) i) ++ s1W G q (qq 1) (qq 2) (qq 3) (qq 4) tq (fun _ => 0))[([(b, oA 2 [.ref q1, .int 0, .int 0]), (q1, rA G.2.2.2.1 30 (fun k => if k < i then some (ra k 0) else none))] ++ rgW G tq ra (fun _ _ => 0) i).length]? = some (q, oA 7 [.ref tq, .ref (qq 1), .ref (qq 2), .ref (qq 3), .ref (qq 4), .int 0, .int 0]) := by
      rw [List.getElem?_append_right (Nat.le_refl _), Nat.sub_self]; rfl
    refine va_astq (r := (RX7, TX7, 7)) hx hb hK hP hD hS 1 2 _ 7 rfl rfl hv rfl (i := nI i) (vp_in_nI cq (by omega)) dX2_init_34 (fun H locs hP hD hS => ?_)
    rw [nI_clamp (show i < 2 ^ 31 by omega)] at hP hD
    have hP : va_P G.1 vwCl (([(b, oA 2 [.ref q1, .int 0, .int 0]), (q1, rA G.2.2.2.1 30 (va_up (fun k => if k < i then some (ra k 0) else none) i (some q)))] ++ rgW G tq ra (fun _ _ => 0) i) ++ s1W G q (qq 1) (qq 2) (qq 3) (qq 4) tq (fun _ => 0)) H := hP
    have hD : va_D A (([(b, oA 2 [.ref q1, .int 0, .int 0]), (q1, rA G.2.2.2.1 30 (va_up (fun k => if k < i then some (ra k 0) else none) i (some q)))] ++ rgW G tq ra (fun _ _ => 0) i) ++ s1W G q (qq 1) (qq 2) (qq 3) (qq 4) tq (fun _ => 0)) := hD
    rw [hist_w] at hP hD
    refine lv_iinc (v := nI (i + 1)) (lv' := [(2, .int (nI (i + 1))), (0, .ref b), (1, .ref tq)]) hx hb dX2_init_35 hl (k := 2) rfl (nI_add _ 1) (by decide) rfl (fun ls hl => ?_)
    refine lv_goto (tgt := 15) hx hb dX2_init_38 (by decide) ?_
    refine W.widen (k := 1 + 5 * (i + 1)) (n := 30 + 59 * (i + 1)) (by omega) (by omega) ?_
    exact ih (i + 1) (by omega) _ H locs ls hP hD hS (lv_sub hl [1, 2, 0] rfl)
set_option maxRecDepth 100000 in
set_option maxHeartbeats 4000000 in
theorem c_X2_init0 (l : Launch) (G : gG) (sz b tq : Nat) : mN l yX2_init wsX2_init ({ frames := 2, cells := 151, slots := 1800, locals := 45 } : Room) 151 1800 G sz [(b, oA 2 [.null, .int 0, .int 0])] (fun q => [(b, oA 2 [.ref (q 1), .int 0, .int 0]), (q 1, rA G.2.2.2.1 30 (fun k => some (q (5 * k + 0 + 2))))] ++ rgW G tq (fun j i => q (5 * j + i + 2)) (fun _ _ => 0) 30) [.ref b, .ref tq] := by
  refine mN.of (cc := cX2_init) (maxL := 3) (by decide) rfl (Nat.le_of_ble_eq_true rfl) rfl ?_
  intro zp ze zs zm zb zt zc ls A hAe C hin hO hP hK hD hS hA hl
  obtain ⟨hx, hb, hr, hml, hown, hts, hlk⟩ := id C
  have hl : lv_has ls 3 [(0, .ref b), (1, .ref tq)] := hl
  have k0 := (fun w h => by revert w; decide +kernel : ∀ w ∈ wsX20, w ∈ wsX2_init)
  have k1 := hts (.fieldLink RX2 11 "DebtDowry$History" "ring" "[LDebtDowry$State;") (by decide +kernel)
  refine lv_aload_n hx hb dX2_init_0 rfl (lv_at hl 0 rfl) ?_
  refine W.objInit hx hb hown (hts (.methodLink RX2 3 objectInit) (by decide +kernel)) (hts (.instanceMethod objectInit) (by decide +kernel)) (hts _ (List.mem_of_getElem? (i := 3) rfl)) rfl (by rw [hml]; exact hl.1) rfl dX2_init_1 (Nat.le_of_ble_eq_true rfl) (Nat.le_of_ble_eq_true rfl) ?_
  refine W.eq (g2 := F0 zm 4 ls []) rfl ?_
  refine lv_aload_n hx hb dX2_init_4 rfl (lv_at hl 0 rfl) ?_
  refine lv_bipush (v := 30) hx hb dX2_init_5 (by decide) ?_
  refine n_newO (Cn := RX7) (gc := G.2.2.2.1) 2 rfl C (by decide +kernel) hO.1 hK hP hD hS hA 30 (by decide) (by decide) (by decide) (Nat.le_of_ble_eq_true rfl) (Nat.le_of_ble_eq_true rfl) dX2_init_7 (fun q1 H hP hD hS => ?_)
  have hP : va_P G.1 vwCl [(b, oA 2 [.null, .int 0, .int 0]), (q1, rA G.2.2.2.1 30 (fun _ => none))] H := hP
  have hD : va_D A [(b, oA 2 [.null, .int 0, .int 0]), (q1, rA G.2.2.2.1 30 (fun _ => none))] := hD
  refine W.widen (k := 1) (n := 30) (by decide) (by decide) ?_
  refine va_putF (D := G.1) (ci := 2) (v := .ref q1) (ty := tyX2 0) (C := RX2) (T := TX2) (N := 3) hx hb hts (k0) tyX2 tyX2_ok nmX2 hown hK hP hD hS 0 rfl rfl 0 (by decide) k1 (fun _ h9 => h9) rfl hin rfl (by decide +kernel) rfl rfl (Nat.le_of_ble_eq_true rfl) dX2_init_10 (fun H locs hP hD hS => ?_)
  have hP : va_P G.1 vwCl [(b, oA 2 [.ref q1, .int 0, .int 0]), (q1, rA G.2.2.2.1 30 (fun _ => none))] H := hP
  have hD : va_D A [(b, oA 2 [.ref q1, .int 0, .int 0]), (q1, rA G.2.2.2.1 30 (fun _ => none))] := hD
  refine lv_iconst (v := 0) hx hb dX2_init_13 (by decide) ?_
  refine lv_istore_n (lv' := [(2, .int 0), (0, .ref b), (1, .ref tq)]) hx hb dX2_init_14 rfl hl (by decide) rfl (fun ls hl => ?_)
  refine hist_loop (b := b) (tq := tq) (q1 := q1) C hO hK hA ?_ 30 0 rfl (fun _ _ => 0) H locs ls (rA_q (p := 1) (a := q1) (f := fun _ => none) (fun k _ => (if_neg (Nat.not_lt_zero k)).symm) hP hD rfl) (hD.set (p := 1) (a := q1) (e0 := rA G.2.2.2.1 30 (fun _ => none)) rfl) hS (lv_sub hl [1, 2, 0] rfl)
  intro ra H locs ls hP hD hS
  have hf : rgW G tq (fun j i => (fun k => if k = 1 then q1 else ra ((k - 2) / 5) ((k - 2) % 5)) (5 * j + i + 2)) (fun _ _ => 0) 30 = rgW G tq ra (fun _ _ => 0) 30 := rgW_c 30 (fun j _ i hi => by
    show (if 5 * j + i + 2 = 1 then q1 else ra ((5 * j + i + 2 - 2) / 5) ((5 * j + i + 2 - 2) % 5)) = ra j i
    rw [if_neg (by omega), show (5 * j + i + 2 - 2) / 5 = j by omega, show (5 * j + i + 2 - 2) % 5 = i by omega])
  have hg : ∀ k, k < 30 → (fun k => if k < 30 then some (ra k 0) else none) k = (fun k => some ((fun k => if k = 1 then q1 else ra ((k - 2) / 5) ((k - 2) % 5)) (5 * k + 0 + 2))) k := fun k hk => by
    show (if k < 30 then some (ra k 0) else none) = some (if 5 * k + 0 + 2 = 1 then q1 else ra ((5 * k + 0 + 2 - 2) / 5) ((5 * k + 0 + 2 - 2) % 5))
    rw [if_pos hk, if_neg (by omega), show (5 * k + 0 + 2 - 2) / 5 = k by omega, show (5 * k + 0 + 2 - 2) % 5 = 0 by omega]
  have hP2 := rA_q (p := 1) (a := q1) hg hP hD rfl
  have hD2 := hD.set (p := 1) (a := q1) (e0 := rA G.2.2.2.1 30 (fun k => if k < 30 then some (ra k 0) else none)) (e := rA G.2.2.2.1 30 (fun k => some ((fun k => if k = 1 then q1 else ra ((k - 2) / 5) ((k - 2) % 5)) (5 * k + 0 + 2)))) rfl
  exact mN_vret (F := fun q => [(b, oA 2 [.ref (q 1), .int 0, .int 0]), (q 1, rA G.2.2.2.1 30 (fun k => some (q (5 * k + 0 + 2))))] ++ rgW G tq (fun j i => q (5 * j + i + 2)) (fun _ _ => 0) 30) hAe C (fun k => if k = 1 then q1 else ra ((k - 2) / 5) ((k - 2) % 5)) (by show va_P G.1 vwCl (_ ++ rgW G tq _ _ 30) H; rw [hf]; exact hP2) (by show va_D A (_ ++ rgW G tq _ _ 30); rw [hf]; exact hD2) hS dX2_init_41
theorem c_X2_init (l : Launch) (G : gG) (nR : Nat) (hnR : nR = 30) (sz b tq : Nat) : mN l yX2_init wsX2_init ({ frames := 2, cells := 151, slots := 1800, locals := 45 } : Room) 151 1800 G sz [(b, oA 2 [.null, .int 0, .int 0])] (fun q => [(b, oA 2 [.ref (q 1), .int 0, .int 0]), (q 1, rA G.2.2.2.1 30 (fun k => some (q (5 * k + 0 + 2))))] ++ rgW G tq (fun j i => q (5 * j + i + 2)) (fun _ _ => 0) nR) [.ref b, .ref tq] := by
  subst hnR
  exact c_X2_init0 l G sz b tq
