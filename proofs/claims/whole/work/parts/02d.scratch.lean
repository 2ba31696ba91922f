/-! a method that writes its world and leaves some rows of it anyhow (scratch): F u for some u -/
def qE {S : Type} (G : gG) (w : va_W) (F : S → va_W) (o : Outcome) : Array Value → State → Outcome → State → Prop := fun _ st oc t => oc = o ∧ (∃ u : S, va_P G.1 vwCl (F u) t.heap) ∧ va_F (fA w) st t
def mE {S : Type} (l : Launch) (y : MethodName) (ws : List Cond) (rm : Room) (G : gG) (w : va_W) (F : S → va_W) (av : List Value) (o : Outcome) : Prop :=
  Met l y ws rm (va_Pc av (fun U => va_P G.1 vwCl w U.heap ∧ va_K G.1 vwCl (tyS G) U ∧ va_D (fun _ => True) w)) (qE G w F o) 0 0 (fA w)
theorem mE.of {S : Type} {l : Launch} {y : MethodName} {ws ws' : List Cond} {rm : Room} {G : gG} {w : va_W} {F : S → va_W} {av : List Value} {o : Outcome} {cc : ByteArray} {maxL : Nat} {ret : Option FieldType} (hy : plainName y.cls = true) (hw : ws = Cond.code y cc maxL ret :: ws') (hn : (lg_sl av).length ≤ maxL)
    (body : ∀ (p : Program) (e : Env) (s : State) (m : MethodId) (below : List Frame) (meth : Method) (c : Code) (ls : Array Slot) (A : Nat → Prop), A = fA w → mCtx p s m av meth c cc maxL ret y.cls ws → va_P G.1 vwCl w s.heap → va_K G.1 vwCl (tyS G) s → va_D A w → va_S A s.heap s.heap [] → lv_has ls maxL (lv_args 0 av) →
      W p l e rm s m av.toArray below meth c s.heap [] 0 0 (MQ below (qE G w F o) av.toArray s 0 0 A) (F0 m 0 ls [])) : mE l y ws rm G w F av o := by
  refine Met.ofW (cc := cc) (maxL := maxL) (ret := ret) hy hw ?_
  intro p e s m args below meth c s₁ B hml hv
  obtain ⟨rfl, hP, hK, hD⟩ := hv
  have hl := lv_entry av (n := maxL) hn
  rw [lg_entry_eq]
  exact body p e s m below meth c _ _ rfl ⟨B.exec, B.bytes, B.returns, hml, findClass_of_methodNamed B.named, atoms_spec (ws := ws) B.pre, B.notSynchronized⟩ hP hK ⟨hD.1, fun k q hk => ⟨k, q.2, hk⟩⟩ va_S.rf hl
section SCR
variable {p : Program} {l : Launch} {e : Env} {R : Room} {s : State} {m : MethodId} {below : List Frame} {meth : Method} {c : Code} {H : Heap} {locs : List Loc} {cells slots : Nat} {Q : State → Prop}
variable {av : List Value} {cc : ByteArray} {nL : Nat} {ret : Option FieldType} {own : String} {Ts : List Cond} {pc : Nat} {ls : Array Slot} {rest : List Value} {G : gG} {S : Type} {F : S → va_W}
theorem mE_iret {r v : Int32} {A : Nat → Prop} {w : va_W} (hA : A = fA w) (C : mCtx p s m av meth c cc nL (some .int) own Ts) (u : S) (hP : va_P G.1 vwCl (F u) H) (hS : va_S A s.heap H locs) (hdg : decode cc pc = .ok (.ireturn, 1)) (hv : v = r) : W p l e R s m av.toArray below meth c H locs 0 0 (MQ below (qE G w F (.returned (some (.int r)))) av.toArray s 0 0 A) (F0 m pc ls [.int v]) := by
  subst hv
  subst hA
  exact W.iret (v := v) C.1 C.2.1 C.2.2.1 (fun t ht _ => ⟨rfl, ⟨u, by rw [ht]; exact hP⟩, hS.F ht⟩) hS.2.2 hdg C.2.2.2.2.2.2
theorem mE_zret {r v : Int32} {A : Nat → Prop} {w : va_W} (hA : A = fA w) (C : mCtx p s m av meth c cc nL (some .boolean) own Ts) (u : S) (hP : va_P G.1 vwCl (F u) H) (hS : va_S A s.heap H locs) (hdg : decode cc pc = .ok (.ireturn, 1)) (hn : narrow .boolean (.int v) = .int v) (hv : v = r) : W p l e R s m av.toArray below meth c H locs 0 0 (MQ below (qE G w F (.returned (some (.int r)))) av.toArray s 0 0 A) (F0 m pc ls [.int v]) := by
  subst hv
  subst hA
  exact W.zret (v := v) C.1 C.2.1 C.2.2.1 hn (fun t ht _ => ⟨rfl, ⟨u, by rw [ht]; exact hP⟩, hS.F ht⟩) hS.2.2 hdg C.2.2.2.2.2.2
theorem mE_vret {A : Nat → Prop} {w : va_W} (hA : A = fA w) (C : mCtx p s m av meth c cc nL none own Ts) (u : S) (hP : va_P G.1 vwCl (F u) H) (hS : va_S A s.heap H locs) (hdg : decode cc pc = .ok (.return_, 1)) : W p l e R s m av.toArray below meth c H locs 0 0 (MQ below (qE G w F (.returned none)) av.toArray s 0 0 A) (F0 m pc ls []) := by
  subst hA
  exact W.vret C.1 C.2.1 C.2.2.1 (fun t ht _ => ⟨rfl, ⟨u, by rw [ht]; exact hP⟩, hS.F ht⟩) hS.2.2 hdg C.2.2.2.2.2.2
theorem cE_go {w ws : va_W} {Fn : S → va_W} {A : Nat → Prop} {H0 : Heap} {v : Option Value} {a : Array Value} {st0 : List Value} (hr : CallRun p l e R s m av.toArray below meth c H locs cells slots 0 0 (F0 m pc ls st0) rest (qE G w F (.returned v) a) (fA w)) (hP : va_P G.1 vwCl ws H) (hD : va_D A ws) (hS : va_S A H0 H locs)
    (is : List Nat) (his : is.map (fun i => ws[i]?) = w.map some) (hf : ∀ u, (F u).map Prod.fst = w.map Prod.fst) (hset : ∀ u, setM ws is (F u) = Fn u) (hfn : ∀ u, (Fn u).map Prod.fst = ws.map Prod.fst)
    (kk : ∀ (u : S) (H1 : Heap) (locs1 : List Loc), va_P G.1 vwCl (Fn u) H1 → va_D A (Fn u) → va_S A H0 H1 locs1 → W p l e R s m av.toArray below meth c H1 locs1 cells slots Q (F0 m (pc + 3) ls (v.toList ++ rest))) : W p l e R s m av.toArray below meth c H locs cells slots Q (F0 m pc ls st0) := by
  have hfree : ∀ q, fA w q → A q := by
    rintro q ⟨j, e, hj⟩
    have h3 : (is.map (fun i => ws[i]?))[j]? = some (some (q, e)) := by rw [his, List.getElem?_map, hj]; rfl
    rw [List.getElem?_map] at h3
    rcases h4 : is[j]? with _ | i
    · rw [h4] at h3; cases h3
    · rw [h4] at h3
      exact hD.2 i (q, e) (Option.some.inj h3)
  intro T hT X
  obtain ⟨v', st₀, t, T', L, h0, X', hL, e1, ⟨hv, ⟨u, hp⟩, hz, hk⟩, st⟩ := hr T hT X
  cases hv
  rw [h0] at hz hk
  obtain ⟨t2, a1, b1⟩ := kk u T'.heap (locs ++ L) (fr_P hP hD is his (hf u) (hset u) (fun q h1 h2 => by rw [e1]; exact hk q h1 h2) (by rw [e1]; exact hp)) (hD.fst (hfn u))
    ⟨Nat.le_trans hS.1 (by rw [e1]; exact hz), fun q h1 h2 => by rw [e1, hk q (Nat.lt_of_lt_of_le h1 hS.1) (fun z => h2 (hfree q z))]; exact hS.2.1 q h1 h2, fun q hq => by
      rcases List.mem_append.mp hq with h | h
      · exact hS.2.2 q h
      · exact hfree _ (hL q h)⟩ T' rfl X'
  exact ⟨t2, st t2 a1, b1⟩
theorem cE_V {y : MethodName} {bytes : ByteArray} {maxL n index : Nat} {ret2 : Option FieldType} {wd wd' : List Cond} {rm : Room} {w ws : va_W} {Fn : S → va_W} {Cn : String} {b : Addr} {As : List Value} {v : Option Value} {st0 : List Value} {A : Nat → Prop} {H0 : Heap}
    (C : mCtx p s m av meth c cc nL ret own Ts) (hM : mE l y wd rm G w F (.ref b :: As) (.returned v)) (hT : GoodIn Ts (wsV own index Cn y wd)) (hw : wd = Cond.code y bytes maxL ret2 :: wd') (hrc : rm.cells = 0 ∧ rm.slots = 0)
    (hd : y.cls = Cn ∧ y.cls ≠ "java/lang/invoke/MethodHandle" ∧ y.cls ≠ "java/lang/invoke/VarHandle" ∧ (parseMethodDescriptor y.desc).map (fun d => d.parameters.length) = some n) (hR : rm.frames + 1 ≤ R.frames ∧ 8 + (maxL + 11) + rm.locals ≤ R.locals)
    (hK : va_K G.1 vwCl (tyS G) s) (hP : va_P G.1 vwCl ws H) (hD : va_D A ws) (hS : va_S A H0 H locs)
    (is : List Nat) (hnd : va_nd is = true) (his : is.map (fun i => ws[i]?) = w.map some) (hf : ∀ u, (F u).map Prod.fst = w.map Prod.fst) (hset : ∀ u, setM ws is (F u) = Fn u) (hfn : ∀ u, (Fn u).map Prod.fst = ws.map Prod.fst)
    (hrecv : ∃ cellB : Cell, H[b]? = some cellB ∧ cellB.vm.isStatics = false ∧ s.vm.findClass Cn = some cellB.cls)
    (hn : As.length = n) (hsize : ls.size = nL) (hstack : st0 = As.reverse ++ .ref b :: rest) (hcat : (rest.map fun v => v.category).sum ≤ 8) (hdg : decode cc pc = .ok (.invokevirtual index, 3)) (hcs : cells ≤ R.cells ∧ slots ≤ R.slots)
    (kk : ∀ (u : S) (H1 : Heap) (locs1 : List Loc), va_P G.1 vwCl (Fn u) H1 → va_D A (Fn u) → va_S A H0 H1 locs1 → W p l e R s m av.toArray below meth c H1 locs1 cells slots Q (F0 m (pc + 3) ls (v.toList ++ rest))) : W p l e R s m av.toArray below meth c H locs cells slots Q (F0 m pc ls st0) := by
  have hPw : va_P G.1 vwCl w H := hP.sub is (by
    have h := congrArg (List.filterMap id) his
    simpa [List.filterMap_map, Function.comp_def] using h)
  have hDw : va_D (fun _ => True) w := (hD.sub is hnd his).weaken (fun _ _ _ _ => trivial)
  have hr := W.runV (e := e) (H := H) (locs := locs) (cells := cells) (slots := slots) (below := below) (meth := meth) (g := F0 m pc ls st0) (rest := rest) (As := As) (b := b) (C := Cn) ⟨C.1, C.2.1, C.2.2.2.1, C.2.2.2.2.1, C.2.2.2.2.2.1⟩ hM (cwV n C.2.2.2.2.2.1 hT hw hrc.1 hrc.2 hd hR)
    ⟨fun a U g mk q => ⟨q.1, q.2.1, va_K.moved (u := U) (U := U.calling g mk a) (Vm.Alike.refl U.vm) q.2.2.1, q.2.2.2⟩, hrecv, fun U hU hW => ⟨rfl, by rw [hU]; exact hPw, va_K.moved hW.alike hK, hDw⟩⟩ rfl hn hsize hstack (lv_room hcat) hdg hcs
  exact cE_go hr hP hD hS is his hf hset hfn kk
end SCR
