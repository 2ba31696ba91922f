section LWALK
variable {p : Program} {l : Launch} {e : Env} {s : State} {m : MethodId} {below : List Frame} {meth : Method} {c : Code} {H : Heap} {locs : List Loc} {G : gG} {a b : Nat → Nat} {ra : Nat → Nat → Nat} {nR q L i : Nat} {xs : Nat → Int32} {w : va_W} {ls : Array Slot} {A : Nat → Prop}
theorem law_arg {pc k : Nat} {kn : Int} {rest : List Value} (C : mCtx p s m [.ref q] meth c code 4 ret RL wsL_law) (hl : lv_has ls 4 [(3, .int (nI i)), (0, .ref q), (1, .ref (b 0)), (2, .ref (a 0))]) (hX : va_X q L xs s s.heap) (hbl : q < s.heap.size) (hbA : ¬ A q) (hS : va_S A s.heap H locs) (hi : i + k < L) (hL : L ≤ 2560) (hk : Int32.ofInt kn = nI k)
    (d0 : decode code pc = .ok (.aload_n 0, 1)) (d1 : decode code (pc + 1) = .ok (.iload_n 3, 1)) (d2 : decode code (pc + 1 + 1) = .ok (.iconst kn, 1)) (d3 : decode code (pc + 1 + 1 + 1) = .ok (.iadd, 1)) (d4 : decode code (pc + 1 + 1 + 1 + 1) = .ok (.iaload, 1))
    (kk : W p l e room_1 s m #[Value.ref q] below meth c H locs 600000 7302249 (lw_Z below #[Value.ref q] s) (F0 m (pc + 1 + 1 + 1 + 1 + 1) ls (.int (xs (i + k)) :: rest))) : W p l e room_1 s m #[Value.ref q] below meth c H locs 600000 7302249 (lw_Z below #[Value.ref q] s) (F0 m pc ls rest) := by
  obtain ⟨hx, hb, hr, hml, hown, hts, hlk⟩ := id C
  refine lv_aload_n hx hb d0 rfl (lv_at hl 1 rfl) ?_
  refine lv_iload_n hx hb d1 rfl (lv_at hl 0 rfl) ?_
  refine lv_iconst (v := nI k) hx hb d2 hk ?_
  refine lv_iadd hx hb d3 ?_
  rw [nI_add]
  refine va_sld hx hb hX hbl hbA hS (vp_in_nI hi (by omega)) d4 ?_
  rw [nI_clamp (n := i + k) (by omega)]
  exact kk
theorem law_case {pc0 pc9 pc10 n idx9 idx10 L9 L10 : Nat} {off : Int} {y9 y10 : MethodName} {wd9 wd10 t9 t10 : List Cond} {rm9 rm10 : Room} {by9 by10 : ByteArray} {rt9 rt10 : Option FieldType} {As : List Value} (C : mCtx p s m [.ref q] meth c code 4 ret RL wsL_law) (hl : lv_has ls 4 [(3, .int (nI i)), (0, .ref q), (1, .ref (b 0)), (2, .ref (a 0))]) (hK : va_K G.1 vwCl (tyS G) s) (hw : LI G a b ra nR w) (hP : va_P G.1 vwCl w H) (hD : va_D A w) (hS : va_S A s.heap H locs)
    (h2 : Two l y9 wd9 rm9 y10 wd10 rm10 G a b (LI G a b ra nR) w As) (hn : As.length = n)
    (d0 : decode code pc0 = .ok (.aload_n 1, 1)) (pu9 : W p l e room_1 s m #[Value.ref q] below meth c H locs 600000 7302249 (lw_Z below #[Value.ref q] s) (F0 m pc9 ls (As.reverse ++ .ref (b 0) :: [])) → W p l e room_1 s m #[Value.ref q] below meth c H locs 600000 7302249 (lw_Z below #[Value.ref q] s) (F0 m (pc0 + 1) ls [.ref (b 0)]))
    (g9 : GoodIn wsL_law (wsV RL idx9 RX9 y9 wd9)) (hw9 : wd9 = Cond.code y9 by9 L9 rt9 :: t9) (hc9 : rm9.cells = 0 ∧ rm9.slots = 0) (hd9 : y9.cls = RX9 ∧ y9.cls ≠ "java/lang/invoke/MethodHandle" ∧ y9.cls ≠ "java/lang/invoke/VarHandle" ∧ (parseMethodDescriptor y9.desc).map (fun d => d.parameters.length) = some n) (hR9 : rm9.frames + 1 ≤ room_1.frames ∧ 8 + (L9 + 11) + rm9.locals ≤ room_1.locals) (dc9 : decode code pc9 = .ok (.invokevirtual idx9, 3))
    (d1 : decode code (pc9 + 3) = .ok (.aload_n 2, 1)) (pu10 : ∀ (r : Int32) (H1 : Heap) (locs1 : List Loc), va_S A s.heap H1 locs1 → W p l e room_1 s m #[Value.ref q] below meth c H1 locs1 600000 7302249 (lw_Z below #[Value.ref q] s) (F0 m pc10 ls (As.reverse ++ .ref (a 0) :: [.int r])) → W p l e room_1 s m #[Value.ref q] below meth c H1 locs1 600000 7302249 (lw_Z below #[Value.ref q] s) (F0 m (pc9 + 3 + 1) ls [.ref (a 0), .int r]))
    (g10 : GoodIn wsL_law (wsV RL idx10 RX10 y10 wd10)) (hw10 : wd10 = Cond.code y10 by10 L10 rt10 :: t10) (hc10 : rm10.cells = 0 ∧ rm10.slots = 0) (hd10 : y10.cls = RX10 ∧ y10.cls ≠ "java/lang/invoke/MethodHandle" ∧ y10.cls ≠ "java/lang/invoke/VarHandle" ∧ (parseMethodDescriptor y10.desc).map (fun d => d.parameters.length) = some n) (hR10 : rm10.frames + 1 ≤ room_1.frames ∧ 8 + (L10 + 11) + rm10.locals ≤ room_1.locals) (dc10 : decode code pc10 = .ok (.invokevirtual idx10, 3))
    (dcmp : decode code (pc10 + 3) = .ok (.if_icmp .eq off, 3)) (ht : ((pc10 + 3 : Nat) : Int) + off = ((1118 : Nat) : Int))
    (kt : ∀ (w2 : va_W) (H2 : Heap) (locs2 : List Loc), LI G a b ra nR w2 → va_P G.1 vwCl w2 H2 → va_D A w2 → va_S A s.heap H2 locs2 → W p l e room_1 s m #[Value.ref q] below meth c H2 locs2 600000 7302249 (lw_Z below #[Value.ref q] s) (F0 m 1118 ls [])) : W p l e room_1 s m #[Value.ref q] below meth c H locs 600000 7302249 (lw_Z below #[Value.ref q] s) (F0 m pc0 ls []) := by
  obtain ⟨hx, hb, hr, hml, hown, hts, hlk⟩ := id C
  obtain ⟨r, Ph, h9, h10⟩ := h2
  obtain ⟨fs9, h14⟩ := LI_14 hw
  refine lv_aload_n hx hb d0 rfl (lv_at hl 2 rfl) ?_
  refine pu9 ?_
  refine cE_VI (Cn := RX9) (n := n) (As := As) (rest := []) C h9 g9 hw9 hc9 hd9 hR9 hK hP hD hS (fun u => (h10 u.1 u.2).1) (va_recv hK hP (ci := 9) (q0 := 14) rfl h14) hn hl.1 rfl (Nat.le_of_ble_eq_true rfl) dc9 ⟨Nat.le_refl _, Nat.le_refl _⟩ (fun u H1 locs1 hP hD hS => ?_)
  obtain ⟨w1, hw1⟩ := u
  obtain ⟨hf1, ⟨fs, h0⟩, h10⟩ := h10 w1 hw1
  refine lv_aload_n hx hb d1 rfl (lv_at hl 3 rfl) ?_
  refine pu10 r H1 locs1 hS ?_
  refine cE_VI (Cn := RX10) (n := n) (As := As) (rest := [.int r]) C h10 g10 hw10 hc10 hd10 hR10 hK hP hD hS (fun u => (LI_f hw u.2).trans hf1.symm) (va_recv hK hP (ci := 10) (q0 := 0) rfl h0) hn hl.1 rfl (Nat.le_of_ble_eq_true rfl) dc10 ⟨Nat.le_refl _, Nat.le_refl _⟩ (fun u H2 locs2 hP hD hS => ?_)
  exact lv_icmp_eq (tgt := 1118) hx hb dcmp ht (fun _ => kt u.1 H2 locs2 u.2 hP hD hS) (fun hne => absurd rfl hne)
end LWALK
