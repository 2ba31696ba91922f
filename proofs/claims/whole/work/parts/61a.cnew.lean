/-! constructors: what they need beside their words; contracts of methods that make cells -/
def mkO (U : State) : Prop := va_AO RX7 U ∧ va_AO RX3 U ∧ va_Nw (.methodLinkNest RX6 11 yX8_init RX9) U ∧ va_Nw (.methodLinkNest RX9 9 yX6_init RX9) U ∧ va_Nw (.methodLinkNest RX9 18 yX8_init RX9) U ∧ va_Nw (.methodLinkNest RX9 44 yX4_init RX9) U ∧ va_Nw (.methodLinkNest RX9 51 yX5_init RX9) U ∧ va_Nw (.methodLinkNest RX9 58 yX1_init RX9) U ∧ va_Nw (.methodLinkNest RX9 65 yX0_init RX9) U
theorem mkO.call {U : State} {g : State} (h : U.vm = g.vm) (q : mkO U) : mkO g := by
  obtain ⟨q1, q2, q3, q4, q5, q6, q7, q8, q9⟩ := q
  exact ⟨va_AO.moved (by rw [h]; exact Vm.Alike.refl _) q1, va_AO.moved (by rw [h]; exact Vm.Alike.refl _) q2, va_Nw.same rfl h q3, va_Nw.same rfl h q4, va_Nw.same rfl h q5, va_Nw.same rfl h q6, va_Nw.same rfl h q7, va_Nw.same rfl h q8, va_Nw.same rfl h q9⟩
theorem mkO.warm {s U : State} (hW : s.WarmedH U.vm) (q : mkO s) : mkO U := by
  obtain ⟨q1, q2, q3, q4, q5, q6, q7, q8, q9⟩ := q
  exact ⟨va_AO.moved hW.alike q1, va_AO.moved hW.alike q2, va_Nw.warmM hW q3, va_Nw.warmM hW q4, va_Nw.warmM hW q5, va_Nw.warmM hW q6, va_Nw.warmM hW q7, va_Nw.warmM hW q8, va_Nw.warmM hW q9⟩
def qN (G : gG) (w : va_W) (sz : Nat) (F : (Nat → Nat) → va_W) : Array Value → State → Outcome → State → Prop := va_Qv (fun _ : Nat → Nat => True) (fun q t => va_P G.1 vwCl (F q) t.heap ∧ va_D (va_A w sz) (F q)) (va_A w sz)
/-- a constructor: its world w becomes F of new addresses; kc cells and ks slots come -/
def mN (l : Launch) (y : MethodName) (ws : List Cond) (rm : Room) (kc ks : Nat) (G : gG) (sz : Nat) (w : va_W) (F : (Nat → Nat) → va_W) (av : List Value) : Prop :=
  Met l y ws rm (va_Pc av (fun U => U.heap.size = sz ∧ mkO U ∧ va_P G.1 vwCl w U.heap ∧ va_K G.1 vwCl (tyS G) U ∧ va_D (fun _ => True) w)) (qN G w sz F) kc ks (va_A w sz)
theorem mN.of {l : Launch} {y : MethodName} {ws ws' : List Cond} {rm : Room} {kc ks : Nat} {G : gG} {sz : Nat} {w : va_W} {F : (Nat → Nat) → va_W} {av : List Value} {cc : ByteArray} {maxL : Nat} (hy : plainName y.cls = true) (hw : ws = Cond.code y cc maxL none :: ws') (hn : (lg_sl av).length ≤ maxL) (hy2 : y.name = "<init>")
    (body : ∀ (p : Program) (e : Env) (s : State) (m : MethodId) (below : List Frame) (meth : Method) (c : Code) (ls : Array Slot) (A : Nat → Prop), A = va_A w sz → mCtx p s m av meth c cc maxL none y.cls ws → meth.name = "<init>" → mkO s → va_P G.1 vwCl w s.heap → va_K G.1 vwCl (tyS G) s → va_D A w → va_S A s.heap s.heap [] → (∀ q : Nat, s.heap.size ≤ q → A q) → lv_has ls maxL (lv_args 0 av) →
      W p l e rm s m av.toArray below meth c s.heap [] 0 0 (MQ below (qN G w sz F) av.toArray s kc ks A) (F0 m 0 ls [])) : mN l y ws rm kc ks G sz w F av := by
  refine Met.ofW (cc := cc) (maxL := maxL) (ret := none) hy hw ?_
  intro p e s m args below meth c s₁ B hml hv
  obtain ⟨rfl, hsz, hO, hP, hK, hD⟩ := hv
  have hl := lv_entry av (n := maxL) hn
  rw [lg_entry_eq]
  exact body p e s m below meth c _ _ rfl ⟨B.exec, B.bytes, B.returns, hml, findClass_of_methodNamed B.named, atoms_spec (ws := ws) B.pre, B.notSynchronized⟩ ((name_of_methodNamed B.named B.method).1.trans hy2) hO hP hK hD.self va_S.rf (fun q h => Or.inr (by rw [← hsz]; exact h)) hl
theorem joinL {G : gG} {A : Nat → Prop} {X w1 : va_W} {b : Nat} {e0 : va_E} {H H1 : Heap} (hP : va_P G.1 vwCl (X ++ [(b, e0)]) H) (hD : va_D A (X ++ [(b, e0)])) (hk : ∀ q : Nat, q < H.size → ¬ va_A [(b, e0)] H.size q → H1[q]? = H[q]?) (hF : ∀ q, va_A [(b, e0)] H.size q → A q) (hP1 : va_P G.1 vwCl w1 H1) (hD1 : va_D (va_A [(b, e0)] H.size) w1) : va_P G.1 vwCl (X ++ w1) H1 ∧ va_D A (X ++ w1) := by
  have up : ∀ (k : Nat) (x : Nat × va_E), X[k]? = some x → (X ++ [(b, e0)])[k]? = some x := fun k x hx => by
    rw [List.getElem?_append_left (List.getElem?_eq_some_iff.mp hx).1]; exact hx
  have hb : (X ++ [(b, e0)])[X.length]? = some (b, e0) := by
    rw [List.getElem?_append_right (Nat.le_refl _), Nat.sub_self]; rfl
  have out : ∀ (k : Nat) (x : Nat × va_E), X[k]? = some x → ¬ va_A [(b, e0)] H.size x.1 := by
    intro k x hx h
    rcases h with ⟨j, e1, h⟩ | h
    · have hz : j < 1 := (List.getElem?_eq_some_iff.mp h).1
      rw [show j = 0 by omega] at h
      have h2 : b = x.1 := congrArg Prod.fst (Option.some.inj h)
      have h3 := hD.1 k X.length x (b, e0) (up k x hx) hb h2.symm
      have h4 := (List.getElem?_eq_some_iff.mp hx).1
      omega
    · exact absurd (hP k x (up k x hx)).lt (Nat.not_lt.mpr h)
  have hDX : va_D A X := ⟨fun i j x y hx hy => hD.1 i j x y (up i x hx) (up j y hy), fun k x hx => hD.2 k x (up k x hx)⟩
  have hPX : va_P G.1 vwCl X H := fun k x hx => hP k x (up k x hx)
  refine ⟨(hPX.kept (fun k x hx => hk x.1 (hPX k x hx).lt (out k x hx))).app hP1, hDX.app (hD1.weaken (fun _ q _ h => hF q.1 h)) ?_⟩
  intro i j x y hx hy hxy
  exact out i x hx (by rw [hxy]; exact hD1.2 j y hy)
section NEW
variable {p : Program} {l : Launch} {e : Env} {R : Room} {s : State} {m : MethodId} {av : List Value} {below : List Frame} {meth : Method} {c : Code} {cc : ByteArray} {nL : Nat} {ret : Option FieldType} {own : String} {Ts : List Cond} {H H0 : Heap} {locs : List Loc} {cells slots pc : Nat} {Q : State → Prop} {ls : Array Slot} {rest : List Value} {G : gG} {A : Nat → Prop} {ws : va_W}
theorem n_newI (C : mCtx p s m av meth c cc nL ret own Ts) (harr : Cond.arrayClass .int ∈ Ts) (hK : va_K G.1 vwCl (tyS G) s) (hP : va_P G.1 vwCl ws H) (hD : va_D A ws) (hS : va_S A H0 H locs) (hA : ∀ q, H0.size ≤ q → A q) {n : Int32} (N : Nat) (hn : ¬ n < 0) (hN : n.toNatClampNeg = N) (hbytes : N * 4 ≤ 536870912) (hcells : cells + 1 ≤ R.cells) (hslots : slots + N ≤ R.slots) (hdg : decode cc pc = .ok (.newarray .int, 2))
    (kk : ∀ (q : Nat) (H1 : Heap), va_P G.1 vwCl (ws ++ [(q, iA G N (fun _ => 0))]) H1 → va_D A (ws ++ [(q, iA G N (fun _ => 0))]) → va_S A H0 H1 locs → W p l e R s m av.toArray below meth c H1 locs (cells + 1) (slots + N) Q (F0 m (pc + 2) ls (.ref q :: rest))) : W p l e R s m av.toArray below meth c H locs cells slots Q (F0 m pc ls (.int n :: rest)) := by
  refine va_newa (atype := .int) (ty := .int) (a0 := (N, .inl (fun _ => 0))) C.1 C.2.1 (C.2.2.2.2.2.1 _ harr) rfl hK hP hD hS hA (fun _ => rfl) hn hN hbytes hcells hslots hdg (fun q cA H1 hK1 hP1 hD1 hS1 => ?_)
  have e1 : cA = G.2.1 := Option.some.inj ((show s.vm.findClass _ = some cA from (hK1.2 4 (cA, .int) rfl).2).symm.trans (hK1.2 0 (G.2.1, .int) rfl).2)
  subst e1
  exact kk q H1 hP1 hD1 hS1
theorem n_newZ (C : mCtx p s m av meth c cc nL ret own Ts) (harr : Cond.arrayClass .boolean ∈ Ts) (hK : va_K G.1 vwCl (tyS G) s) (hP : va_P G.1 vwCl ws H) (hD : va_D A ws) (hS : va_S A H0 H locs) (hA : ∀ q, H0.size ≤ q → A q) {n : Int32} (N : Nat) (hn : ¬ n < 0) (hN : n.toNatClampNeg = N) (hbytes : N * 1 ≤ 536870912) (hcells : cells + 1 ≤ R.cells) (hslots : slots + N ≤ R.slots) (hdg : decode cc pc = .ok (.newarray .boolean, 2))
    (kk : ∀ (q : Nat) (H1 : Heap), va_P G.1 vwCl (ws ++ [(q, zA G N (fun _ => 0))]) H1 → va_D A (ws ++ [(q, zA G N (fun _ => 0))]) → va_S A H0 H1 locs → W p l e R s m av.toArray below meth c H1 locs (cells + 1) (slots + N) Q (F0 m (pc + 2) ls (.ref q :: rest))) : W p l e R s m av.toArray below meth c H locs cells slots Q (F0 m pc ls (.int n :: rest)) := by
  refine va_newa (atype := .boolean) (ty := .boolean) (a0 := (N, .inl (fun _ => 0))) C.1 C.2.1 (C.2.2.2.2.2.1 _ harr) rfl hK hP hD hS hA (fun _ => rfl) hn hN hbytes hcells hslots hdg (fun q cA H1 hK1 hP1 hD1 hS1 => ?_)
  have e1 : cA = G.2.2.1 := Option.some.inj ((show s.vm.findClass _ = some cA from (hK1.2 4 (cA, .boolean) rfl).2).symm.trans (hK1.2 1 (G.2.2.1, .boolean) rfl).2)
  subst e1
  exact kk q H1 hP1 hD1 hS1
theorem n_newO {Cn : String} {gc : ClassId} {ix : Nat} (t0 : Nat) (ht : (tyS G)[t0]? = some (gc, .object Cn)) (C : mCtx p s m av meth c cc nL ret own Ts) (hlk : Cond.classLink own ix Cn ∈ Ts) (hO : va_AO Cn s) (hK : va_K G.1 vwCl (tyS G) s) (hP : va_P G.1 vwCl ws H) (hD : va_D A ws) (hS : va_S A H0 H locs) (hA : ∀ q, H0.size ≤ q → A q) {n : Int32} (N : Nat) (hn : ¬ n < 0) (hN : n.toNatClampNeg = N) (hbytes : N * 4 ≤ 536870912) (hcells : cells + 1 ≤ R.cells) (hslots : slots + N ≤ R.slots) (hdg : decode cc pc = .ok (.anewarray ix, 3))
    (kk : ∀ (q : Nat) (H1 : Heap), va_P G.1 vwCl (ws ++ [(q, rA gc N (fun _ => none))]) H1 → va_D A (ws ++ [(q, rA gc N (fun _ => none))]) → va_S A H0 H1 locs → W p l e R s m av.toArray below meth c H1 locs (cells + 1) (slots + N) Q (F0 m (pc + 3) ls (.ref q :: rest))) : W p l e R s m av.toArray below meth c H locs cells slots Q (F0 m pc ls (.int n :: rest)) := by
  refine va_newq C.1 C.2.1 C.2.2.2.2.1 (C.2.2.2.2.2.1 _ hlk) hO hK hP hD hS hA hn hN hbytes hcells hslots hdg (fun q cA H1 hK1 hP1 hD1 hS1 => ?_)
  obtain ⟨_, _, _, _, _, f1⟩ := (hK1.2 4 (cA, .object Cn) rfl).2
  obtain ⟨_, _, _, _, _, f2⟩ := (hK.2 t0 (gc, .object Cn) ht).2
  have e1 : cA = gc := Option.some.inj (f1.symm.trans f2)
  subst e1
  exact kk q H1 hP1 hD1 hS1
theorem mN_vret {w : va_W} {sz kc ks : Nat} {F : (Nat → Nat) → va_W} (hAe : A = va_A w sz) (C : mCtx p s m av meth c cc nL none own Ts) (q : Nat → Nat) (hP : va_P G.1 vwCl (F q) H) (hD : va_D A (F q)) (hS : va_S A s.heap H locs) (hdg : decode cc pc = .ok (.return_, 1)) : W p l e R s m av.toArray below meth c H locs kc ks (MQ below (qN G w sz F) av.toArray s kc ks A) (F0 m pc ls []) := by
  subst hAe
  exact W.vret C.1 C.2.1 C.2.2.1 (fun t ht _ => ⟨⟨q, rfl, trivial, by rw [ht]; exact hP, hD⟩, hS.F ht⟩) hS.2.2 hdg C.2.2.2.2.2.2
/-- a constructor is called on the newest cell -/
theorem n_ctor {y : MethodName} {bytes : ByteArray} {maxL n index : Nat} {wd wd' : List Cond} {rm : Room} {kc ks : Nat} {X : va_W} {b : Nat} {e0 : va_E} {F : (Nat → Nat) → va_W} {As st0 : List Value}
    (C : mCtx p s m av meth c cc nL ret own Ts) (hM : mN l y wd rm kc ks G H.size [(b, e0)] F (.ref b :: As)) (hT : GoodIn Ts wd) (hw : wd = Cond.code y bytes maxL none :: wd') (hrc : rm.cells = kc ∧ rm.slots = ks) (hini : Cond.initialized y.cls ∈ Ts) (hlk : Cond.methodLink own index y ∈ Ts) (him : Cond.instanceMethod y ∈ Ts) (hy : y.name = "<init>")
    (hd : y.cls ≠ "java/lang/invoke/MethodHandle" ∧ y.cls ≠ "java/lang/invoke/VarHandle" ∧ (parseMethodDescriptor y.desc).map (fun d => d.parameters.length) = some n) (hR : rm.frames + 1 ≤ R.frames ∧ 8 + (maxL + 11) + rm.locals ≤ R.locals)
    (hO : mkO s) (hK : va_K G.1 vwCl (tyS G) s) (hP : va_P G.1 vwCl (X ++ [(b, e0)]) H) (hD : va_D A (X ++ [(b, e0)])) (hS : va_S A H0 H locs) (hA : ∀ q, H0.size ≤ q → A q)
    (hn : As.length = n) (hsize : ls.size = nL) (hstack : st0 = As.reverse ++ .ref b :: rest) (hcat : (rest.map fun v => v.category).sum ≤ 8) (hdg : decode cc pc = .ok (.invokespecial index, 3)) (hcs : cells + kc ≤ R.cells ∧ slots + ks ≤ R.slots)
    (kk : ∀ (q : Nat → Nat) (H1 : Heap) (locs1 : List Loc), va_P G.1 vwCl (X ++ F q) H1 → va_D A (X ++ F q) → va_S A H0 H1 locs1 → W p l e R s m av.toArray below meth c H1 locs1 (cells + kc) (slots + ks) Q (F0 m (pc + 3) ls rest)) : W p l e R s m av.toArray below meth c H locs cells slots Q (F0 m pc ls st0) := by
  have hb : (X ++ [(b, e0)])[X.length]? = some (b, e0) := by
    rw [List.getElem?_append_right (Nat.le_refl _), Nat.sub_self]; rfl
  have hmap : [X.length].map (fun i => (X ++ [(b, e0)])[i]?) = [(b, e0)].map some := by
    show [(X ++ [(b, e0)])[X.length]?] = _
    rw [hb]; rfl
  have hPc : va_P G.1 vwCl [(b, e0)] H := fun k x hx => by
    have hz : k < 1 := (List.getElem?_eq_some_iff.mp hx).1
    rw [show k = 0 by omega] at hx
    cases hx
    exact hP _ _ hb
  have hDc := hD.sub (ws' := [(b, e0)]) [X.length] rfl hmap
  have hFc := va_free (wc := [(b, e0)]) hD hS hA [X.length] hmap
  refine va_callv (va_runI (As := As) (rest := rest) ⟨C.1, C.2.1, C.2.2.2.1, C.2.2.2.2.1, C.2.2.2.2.2.1⟩ hM (cwI n C.2.2.2.2.2.1 hT hw hrc.1 hrc.2 (C.2.2.2.2.2.1 _ hini) (C.2.2.2.2.2.1 _ hlk) (C.2.2.2.2.2.1 _ him) hy hd hR) ⟨fun a U g mk q => ⟨q.1, q.2.1, mkO.call (by rfl) q.2.2.1, q.2.2.2.1, va_K.moved (u := U) (U := U.calling g mk a) (Vm.Alike.refl U.vm) q.2.2.2.2.1, q.2.2.2.2.2⟩, fun U hU hW => ⟨rfl, by rw [hU], hO.warm hW, by rw [hU]; exact hPc, va_K.moved hW.alike hK, hDc.weaken (fun _ _ _ _ => trivial)⟩⟩ rfl hn hsize hstack (lv_room hcat) hdg hcs) hS (fun q _ h => hFc q h) hFc (fun u t H1 locs ht hvm hw hB hz1 hk1 hS => ?_)
  obtain ⟨hP1, hD1⟩ := hB
  rw [ht] at hP1
  obtain ⟨hP, hD⟩ := joinL hP hD hk1 hFc hP1 hD1
  exact kk u H1 locs hP hD hS
/-- the same, of a private constructor of the nest -/
theorem n_ctorN {y : MethodName} {host : String} {bytes : ByteArray} {maxL n index : Nat} {wd wd' : List Cond} {rm : Room} {kc ks : Nat} {X : va_W} {b : Nat} {e0 : va_E} {F : (Nat → Nat) → va_W} {As st0 : List Value}
    (C : mCtx p s m av meth c cc nL ret own Ts) (hM : mN l y wd rm kc ks G H.size [(b, e0)] F (.ref b :: As)) (hT : GoodIn Ts wd) (hw : wd = Cond.code y bytes maxL none :: wd') (hrc : rm.cells = kc ∧ rm.slots = ks) (hini : Cond.initialized y.cls ∈ Ts) (hlk : va_Nw (.methodLinkNest own index y host) s) (him : Cond.instanceMethod y ∈ Ts) (hy : y.name = "<init>")
    (hd : y.cls ≠ "java/lang/invoke/MethodHandle" ∧ y.cls ≠ "java/lang/invoke/VarHandle" ∧ (parseMethodDescriptor y.desc).map (fun d => d.parameters.length) = some n) (hR : rm.frames + 1 ≤ R.frames ∧ 8 + (maxL + 11) + rm.locals ≤ R.locals)
    (hO : mkO s) (hK : va_K G.1 vwCl (tyS G) s) (hP : va_P G.1 vwCl (X ++ [(b, e0)]) H) (hD : va_D A (X ++ [(b, e0)])) (hS : va_S A H0 H locs) (hA : ∀ q, H0.size ≤ q → A q)
    (hn : As.length = n) (hsize : ls.size = nL) (hstack : st0 = As.reverse ++ .ref b :: rest) (hcat : (rest.map fun v => v.category).sum ≤ 8) (hdg : decode cc pc = .ok (.invokespecial index, 3)) (hcs : cells + kc ≤ R.cells ∧ slots + ks ≤ R.slots)
    (kk : ∀ (q : Nat → Nat) (H1 : Heap) (locs1 : List Loc), va_P G.1 vwCl (X ++ F q) H1 → va_D A (X ++ F q) → va_S A H0 H1 locs1 → W p l e R s m av.toArray below meth c H1 locs1 (cells + kc) (slots + ks) Q (F0 m (pc + 3) ls rest)) : W p l e R s m av.toArray below meth c H locs cells slots Q (F0 m pc ls st0) := by
  have hb : (X ++ [(b, e0)])[X.length]? = some (b, e0) := by
    rw [List.getElem?_append_right (Nat.le_refl _), Nat.sub_self]; rfl
  have hmap : [X.length].map (fun i => (X ++ [(b, e0)])[i]?) = [(b, e0)].map some := by
    show [(X ++ [(b, e0)])[X.length]?] = _
    rw [hb]; rfl
  have hPc : va_P G.1 vwCl [(b, e0)] H := fun k x hx => by
    have hz : k < 1 := (List.getElem?_eq_some_iff.mp hx).1
    rw [show k = 0 by omega] at hx
    cases hx
    exact hP _ _ hb
  have hDc := hD.sub (ws' := [(b, e0)]) [X.length] rfl hmap
  have hFc := va_free (wc := [(b, e0)]) hD hS hA [X.length] hmap
  refine va_callv (va_runIN (As := As) (rest := rest) ⟨C.1, C.2.1, C.2.2.2.1, C.2.2.2.2.1, C.2.2.2.2.2.1⟩ hM ⟨va_cnB n C.2.2.2.2.2.1 hT hw hrc.1 hrc.2 hlk (C.2.2.2.2.2.1 _ hini) hd hR, hy, C.2.2.2.2.2.1 _ him⟩ ⟨fun a U g mk q => ⟨q.1, q.2.1, mkO.call (by rfl) q.2.2.1, q.2.2.2.1, va_K.moved (u := U) (U := U.calling g mk a) (Vm.Alike.refl U.vm) q.2.2.2.2.1, q.2.2.2.2.2⟩, fun U hU hW => ⟨rfl, by rw [hU], hO.warm hW, by rw [hU]; exact hPc, va_K.moved hW.alike hK, hDc.weaken (fun _ _ _ _ => trivial)⟩⟩ rfl hn hsize hstack (lv_room hcat) hdg hcs) hS (fun q _ h => hFc q h) hFc (fun u t H1 locs ht hvm hw hB hz1 hk1 hS => ?_)
  obtain ⟨hP1, hD1⟩ := hB
  rw [ht] at hP1
  obtain ⟨hP, hD⟩ := joinL hP hD hk1 hFc hP1 hD1
  exact kk u H1 locs hP hD hS
end NEW
