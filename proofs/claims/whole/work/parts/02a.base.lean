/-! the base: worlds of this claim, contracts of methods that only read, and of methods that write and make nothing -/
abbrev gG : Type := va_G × ClassId × ClassId × ClassId × ClassId
abbrev tyS (G : gG) : List (ClassId × FieldType) := [(G.2.1, .int), (G.2.2.1, .boolean), (G.2.2.2.1, .object "DebtDowry$State"), (G.2.2.2.2, .object "DebtDowry$Image")]
abbrev iA (G : gG) (n : Nat) (f : Nat → Int32) : va_E := .inl (G.2.1, n, .inl f)
abbrev zA (G : gG) (n : Nat) (f : Nat → Int32) : va_E := .inl (G.2.2.1, n, .inl f)
abbrev oA (k : Nat) (fs : List Value) : va_E := .inr (k, fs)
def bI (P : Prop) [Decidable P] : Int32 := if P then 1 else 0
theorem bI_t {P : Prop} [Decidable P] (h : P) : bI P = 1 := if_pos h
theorem bI_f {P : Prop} [Decidable P] (h : ¬ P) : bI P = 0 := if_neg h
theorem bI_0 {P : Prop} [Decidable P] : bI P = 0 ↔ ¬ P := by
  unfold bI; by_cases h : P
  · rw [if_pos h]; exact ⟨fun e => absurd e (by decide), fun e => absurd h e⟩
  · rw [if_neg h]; exact ⟨fun _ => h, fun _ => rfl⟩
theorem bI_n (P : Prop) [Decidable P] : narrow .boolean (.int (bI P)) = .int (bI P) := by
  unfold bI; by_cases h : P
  · rw [if_pos h]; decide
  · rw [if_neg h]; decide
theorem bI_c {P Q : Prop} [Decidable P] [Decidable Q] (h : P ↔ Q) : bI P = bI Q := by
  unfold bI; by_cases hp : P
  · rw [if_pos hp, if_pos (h.mp hp)]
  · rw [if_neg hp, if_neg (fun q => hp (h.mpr q))]
def mCtx (p : Program) (s : State) (m : MethodId) (av : List Value) (meth : Method) (c : Code) (cc : ByteArray) (nL : Nat) (ret : Option FieldType) (own : String) (ws : List Cond) : Prop :=
  p.tables.exec = Jvm.exec ∧ c.code = cc ∧ meth.sig.returnType = ret ∧ c.maxLocals = nL ∧ s.vm.findClass own = some m.cls ∧ (∀ w ∈ ws, w.before av.toArray s = true) ∧ meth.locks = false
/-- a method that only reads: the answer is r -/
def mR (l : Launch) (y : MethodName) (ws : List Cond) (rm : Room) (G : gG) (w : va_W) (av : List Value) (r : Int32) : Prop :=
  Met l y ws rm (va_Pc av (fun U => va_P G.1 vwCl w U.heap ∧ va_K G.1 vwCl (tyS G) U)) (vp_Si (fun x => x = r)) 0 0 (fun _ => False)
theorem mR.of {l : Launch} {y : MethodName} {ws ws' : List Cond} {rm : Room} {G : gG} {w : va_W} {av : List Value} {r : Int32} {cc : ByteArray} {maxL : Nat} {ret : Option FieldType} (hy : plainName y.cls = true) (hw : ws = Cond.code y cc maxL ret :: ws') (hn : (lg_sl av).length ≤ maxL)
    (body : ∀ (p : Program) (e : Env) (s : State) (m : MethodId) (below : List Frame) (meth : Method) (c : Code) (ls : Array Slot), mCtx p s m av meth c cc maxL ret y.cls ws → va_P G.1 vwCl w s.heap → va_K G.1 vwCl (tyS G) s → lv_has ls maxL (lv_args 0 av) →
      W p l e rm s m av.toArray below meth c s.heap [] 0 0 (MQ below (vp_Si (fun x => x = r)) av.toArray s 0 0 (fun _ => False)) (F0 m 0 ls [])) : mR l y ws rm G w av r := by
  refine Met.ofW (cc := cc) (maxL := maxL) (ret := ret) hy hw ?_
  intro p e s m args below meth c s₁ B hml hv
  obtain ⟨rfl, hP, hK⟩ := hv
  have hl := lv_entry av (n := maxL) hn
  rw [lg_entry_eq]
  exact body p e s m below meth c _ ⟨B.exec, B.bytes, B.returns, hml, findClass_of_methodNamed B.named, atoms_spec (ws := ws) B.pre, B.notSynchronized⟩ hP hK hl
/-- which cells a writing method may change -/
def fA (w : va_W) : Nat → Prop := fun q => ∃ (k : Nat) (e : va_E), w[k]? = some (q, e)
def qX (G : gG) (w w' : va_W) (o : Outcome) : Array Value → State → Outcome → State → Prop := fun _ st oc t => oc = o ∧ va_P G.1 vwCl w' t.heap ∧ va_F (fA w) st t
/-- a method that writes its world and makes nothing -/
def mX (l : Launch) (y : MethodName) (ws : List Cond) (rm : Room) (G : gG) (w w' : va_W) (av : List Value) (o : Outcome) : Prop :=
  Met l y ws rm (va_Pc av (fun U => va_P G.1 vwCl w U.heap ∧ va_K G.1 vwCl (tyS G) U ∧ va_D (fun _ => True) w)) (qX G w w' o) 0 0 (fA w)
theorem mX.of {l : Launch} {y : MethodName} {ws ws' : List Cond} {rm : Room} {G : gG} {w w' : va_W} {av : List Value} {o : Outcome} {cc : ByteArray} {maxL : Nat} {ret : Option FieldType} (hy : plainName y.cls = true) (hw : ws = Cond.code y cc maxL ret :: ws') (hn : (lg_sl av).length ≤ maxL)
    (body : ∀ (p : Program) (e : Env) (s : State) (m : MethodId) (below : List Frame) (meth : Method) (c : Code) (ls : Array Slot) (A : Nat → Prop), A = fA w → mCtx p s m av meth c cc maxL ret y.cls ws → va_P G.1 vwCl w s.heap → va_K G.1 vwCl (tyS G) s → va_D A w → va_S A s.heap s.heap [] → lv_has ls maxL (lv_args 0 av) →
      W p l e rm s m av.toArray below meth c s.heap [] 0 0 (MQ below (qX G w w' o) av.toArray s 0 0 A) (F0 m 0 ls [])) : mX l y ws rm G w w' av o := by
  refine Met.ofW (cc := cc) (maxL := maxL) (ret := ret) hy hw ?_
  intro p e s m args below meth c s₁ B hml hv
  obtain ⟨rfl, hP, hK, hD⟩ := hv
  have hl := lv_entry av (n := maxL) hn
  rw [lg_entry_eq]
  exact body p e s m below meth c _ _ rfl ⟨B.exec, B.bytes, B.returns, hml, findClass_of_methodNamed B.named, atoms_spec (ws := ws) B.pre, B.notSynchronized⟩ hP hK ⟨hD.1, fun k q hk => ⟨k, q.2, hk⟩⟩ va_S.rf hl
/-- several cells set at their places -/
def setM (ws : va_W) : List Nat → va_W → va_W
  | i :: is, x :: xs => setM (ws.set i x) is xs
  | _, _ => ws
theorem setM_get : ∀ (is : List Nat) (w' ws : va_W) (k : Nat) (x : Nat × va_E), (setM ws is w')[k]? = some x → x ∈ w' ∨ (ws[k]? = some x ∧ ∀ j : Nat, j < w'.length → is[j]? ≠ some k)
  | [], w', ws, k, x, h => Or.inr ⟨by cases w' <;> exact h, fun j _ e => by simp at e⟩
  | i :: is, [], ws, k, x, h => Or.inr ⟨h, fun j hj => absurd hj (by simp)⟩
  | i :: is, y :: xs, ws, k, x, h => by
    rcases setM_get is xs (ws.set i y) k x h with h1 | ⟨h1, h2⟩
    · exact Or.inl (List.mem_cons_of_mem _ h1)
    · by_cases hk : i = k
      · subst hk
        have hl : i < (ws.set i y).length := (List.getElem?_eq_some_iff.mp h1).1
        rw [List.getElem?_set_self (by simpa using hl)] at h1
        cases h1
        exact Or.inl List.mem_cons_self
      · rw [List.getElem?_set_ne hk] at h1
        refine Or.inr ⟨h1, fun j hj => ?_⟩
        cases j with
        | zero => intro e; simp at e; exact hk e
        | succ j => exact h2 j (by simpa using hj)
theorem va_D.fst {A : Nat → Prop} {w1 w2 : va_W} (h : va_D A w1) (e : w2.map Prod.fst = w1.map Prod.fst) : va_D A w2 := by
  have hg : ∀ (k : Nat) (q : Nat × va_E), w2[k]? = some q → ∃ q' : Nat × va_E, w1[k]? = some q' ∧ q'.1 = q.1 := by
    intro k q hk
    have h1 : (w2.map Prod.fst)[k]? = some q.1 := by rw [List.getElem?_map, hk]; rfl
    rw [e, List.getElem?_map] at h1
    rcases h2 : w1[k]? with _ | q'
    · rw [h2] at h1; cases h1
    · rw [h2] at h1; exact ⟨q', rfl, Option.some.inj h1⟩
  refine ⟨fun i j p q hi hj hpq => ?_, fun k q hk => ?_⟩
  · obtain ⟨p', hp', e1⟩ := hg i p hi
    obtain ⟨q', hq', e2⟩ := hg j q hj
    exact h.1 i j p' q' hp' hq' (by rw [e1, e2]; exact hpq)
  · obtain ⟨q', hq', e1⟩ := hg k q hk
    rw [← e1]; exact h.2 k q' hq'
theorem fr_P {D : va_G} {cl : List vw_C} {A : Nat → Prop} {ws w w' wsn : va_W} {H H1 : Heap} (hP : va_P D cl ws H) (hD : va_D A ws) (is : List Nat) (his : is.map (fun i => ws[i]?) = w.map some) (hf : w'.map Prod.fst = w.map Prod.fst) (hset : setM ws is w' = wsn) (hk : ∀ q : Nat, q < H.size → ¬ fA w q → H1[q]? = H[q]?) (hP1 : va_P D cl w' H1) : va_P D cl wsn H1 := by
  subst hset
  intro k x hx
  rcases setM_get is w' ws k x hx with h1 | ⟨h1, h2⟩
  · obtain ⟨j, hj⟩ := List.mem_iff_getElem?.mp h1
    exact hP1 j x hj
  · refine (hP k x h1).kept (hk x.1 (hP k x h1).lt ?_)
    rintro ⟨j, e, hj⟩
    have hw : w'.length = w.length := by have := congrArg List.length hf; simpa using this
    have hjl : j < w.length := (List.getElem?_eq_some_iff.mp hj).1
    have h3 : (is.map (fun i => ws[i]?))[j]? = some (some (x.1, e)) := by rw [his, List.getElem?_map, hj]; rfl
    rw [List.getElem?_map] at h3
    rcases h4 : is[j]? with _ | i
    · rw [h4] at h3; cases h3
    · rw [h4] at h3
      have h5 : ws[i]? = some (x.1, e) := Option.some.inj h3
      have h6 : k = i := hD.1 k i x (x.1, e) h1 h5 rfl
      exact h2 j (by rw [hw]; exact hjl) (by rw [h4, h6])
section BASE
variable {p : Program} {l : Launch} {e : Env} {R : Room} {s : State} {m : MethodId} {below : List Frame} {meth : Method} {c : Code} {H : Heap} {locs : List Loc} {cells slots : Nat} {Q : State → Prop}
variable {av : List Value} {cc : ByteArray} {nL : Nat} {ret : Option FieldType} {own : String} {Ts : List Cond} {pc : Nat} {ls : Array Slot} {rest : List Value} {G : gG}
theorem mR_iret {r v : Int32} (C : mCtx p s m av meth c cc nL (some .int) own Ts) (hdg : decode cc pc = .ok (.ireturn, 1)) (hv : v = r) : W p l e R s m av.toArray below meth c s.heap [] 0 0 (MQ below (vp_Si (fun x => x = r)) av.toArray s 0 0 (fun _ => False)) (F0 m pc ls [.int v]) :=
  W.iret (v := v) C.1 C.2.1 C.2.2.1 (fun t ht _ => ⟨v, rfl, hv, ht⟩) (fun _ h => by cases h) hdg C.2.2.2.2.2.2
theorem mR_zret {r v : Int32} (C : mCtx p s m av meth c cc nL (some .boolean) own Ts) (hdg : decode cc pc = .ok (.ireturn, 1)) (hn : narrow .boolean (.int v) = .int v) (hv : v = r) : W p l e R s m av.toArray below meth c s.heap [] 0 0 (MQ below (vp_Si (fun x => x = r)) av.toArray s 0 0 (fun _ => False)) (F0 m pc ls [.int v]) :=
  W.zret (v := v) C.1 C.2.1 C.2.2.1 hn (fun t ht _ => ⟨v, rfl, hv, ht⟩) (fun _ h => by cases h) hdg C.2.2.2.2.2.2
theorem mX_iret {r v : Int32} {A : Nat → Prop} {w w' : va_W} (hA : A = fA w) (C : mCtx p s m av meth c cc nL (some .int) own Ts) (hP : va_P G.1 vwCl w' H) (hS : va_S A s.heap H locs) (hdg : decode cc pc = .ok (.ireturn, 1)) (hv : v = r) : W p l e R s m av.toArray below meth c H locs 0 0 (MQ below (qX G w w' (.returned (some (.int r)))) av.toArray s 0 0 A) (F0 m pc ls [.int v]) := by
  subst hv
  subst hA
  exact W.iret (v := v) C.1 C.2.1 C.2.2.1 (fun t ht _ => ⟨rfl, by rw [ht]; exact hP, hS.F ht⟩) hS.2.2 hdg C.2.2.2.2.2.2
theorem mX_zret {r v : Int32} {A : Nat → Prop} {w w' : va_W} (hA : A = fA w) (C : mCtx p s m av meth c cc nL (some .boolean) own Ts) (hP : va_P G.1 vwCl w' H) (hS : va_S A s.heap H locs) (hdg : decode cc pc = .ok (.ireturn, 1)) (hn : narrow .boolean (.int v) = .int v) (hv : v = r) : W p l e R s m av.toArray below meth c H locs 0 0 (MQ below (qX G w w' (.returned (some (.int r)))) av.toArray s 0 0 A) (F0 m pc ls [.int v]) := by
  subst hv
  subst hA
  exact W.zret (v := v) C.1 C.2.1 C.2.2.1 hn (fun t ht _ => ⟨rfl, by rw [ht]; exact hP, hS.F ht⟩) hS.2.2 hdg C.2.2.2.2.2.2
theorem mX_vret {A : Nat → Prop} {w w' : va_W} (hA : A = fA w) (C : mCtx p s m av meth c cc nL none own Ts) (hP : va_P G.1 vwCl w' H) (hS : va_S A s.heap H locs) (hdg : decode cc pc = .ok (.return_, 1)) : W p l e R s m av.toArray below meth c H locs 0 0 (MQ below (qX G w w' (.returned none)) av.toArray s 0 0 A) (F0 m pc ls []) := by
  subst hA
  exact W.vret C.1 C.2.1 C.2.2.1 (fun t ht _ => ⟨rfl, by rw [ht]; exact hP, hS.F ht⟩) hS.2.2 hdg C.2.2.2.2.2.2
/-- a call of a method that only reads, on an object -/
theorem cR_V {y : MethodName} {bytes : ByteArray} {maxL n index : Nat} {ret2 : Option FieldType} {ws ws' : List Cond} {rm : Room} {w : va_W} {Cn : String} {b : Addr} {As : List Value} {r : Int32} {st0 : List Value}
    (C : mCtx p s m av meth c cc nL ret own Ts) (hM : mR l y ws rm G w (.ref b :: As) r) (hT : GoodIn Ts (wsV own index Cn y ws)) (hw : ws = Cond.code y bytes maxL ret2 :: ws') (hrc : rm.cells = 0 ∧ rm.slots = 0)
    (hd : y.cls = Cn ∧ y.cls ≠ "java/lang/invoke/MethodHandle" ∧ y.cls ≠ "java/lang/invoke/VarHandle" ∧ (parseMethodDescriptor y.desc).map (fun d => d.parameters.length) = some n) (hR : rm.frames + 1 ≤ R.frames ∧ 8 + (maxL + 11) + rm.locals ≤ R.locals)
    (hK : va_K G.1 vwCl (tyS G) s) (hP : va_P G.1 vwCl w H) (hrecv : ∃ cellB : Cell, H[b]? = some cellB ∧ cellB.vm.isStatics = false ∧ s.vm.findClass Cn = some cellB.cls)
    (hn : As.length = n) (hsize : ls.size = nL) (hstack : st0 = As.reverse ++ .ref b :: rest) (hcat : (rest.map fun v => v.category).sum ≤ 8) (hdg : decode cc pc = .ok (.invokevirtual index, 3)) (hf : cells ≤ R.cells ∧ slots ≤ R.slots)
    (kk : W p l e R s m av.toArray below meth c H locs cells slots Q (F0 m (pc + 3) ls (.int r :: rest))) : W p l e R s m av.toArray below meth c H locs cells slots Q (F0 m pc ls st0) := by
  have hr := W.runV (e := e) (H := H) (locs := locs) (cells := cells) (slots := slots) (below := below) (meth := meth) (g := F0 m pc ls st0) (rest := rest) (As := As) (b := b) (C := Cn) ⟨C.1, C.2.1, C.2.2.2.1, C.2.2.2.2.1, C.2.2.2.2.2.1⟩ hM (cwV n C.2.2.2.2.2.1 hT hw hrc.1 hrc.2 hd hR)
    ⟨fun a U g mk q => ⟨q.1, q.2.1, va_K.moved (u := U) (U := U.calling g mk a) (Vm.Alike.refl U.vm) q.2.2⟩, hrecv, fun U hU hW => ⟨rfl, by rw [hU]; exact hP, va_K.moved hW.alike hK⟩⟩ rfl hn hsize hstack (lv_room hcat) hdg hf
  exact vp_callSi hr (fun x hx => by subst hx; exact kk)
/-- the same, of a static method -/
theorem cR_S {y : MethodName} {bytes : ByteArray} {maxL n index : Nat} {ret2 : Option FieldType} {ws ws' : List Cond} {rm : Room} {w : va_W} {As : List Value} {r : Int32} {st0 : List Value}
    (C : mCtx p s m av meth c cc nL ret own Ts) (hM : mR l y ws rm G w As r) (hT : GoodIn Ts (va_wsS own index y ws)) (hw : ws = Cond.code y bytes maxL ret2 :: ws') (hrc : rm.cells = 0 ∧ rm.slots = 0)
    (hd : y.cls ≠ "java/lang/invoke/MethodHandle" ∧ y.cls ≠ "java/lang/invoke/VarHandle" ∧ (parseMethodDescriptor y.desc).map (fun d => d.parameters.length) = some n) (hR : rm.frames + 1 ≤ R.frames ∧ 8 + (maxL + 11) + rm.locals ≤ R.locals)
    (hK : va_K G.1 vwCl (tyS G) s) (hP : va_P G.1 vwCl w H)
    (hn : As.length = n) (hsize : ls.size = nL) (hstack : st0 = As.reverse ++ rest) (hcat : (rest.map fun v => v.category).sum ≤ 8) (hdg : decode cc pc = .ok (.invokestatic index, 3)) (hf : cells ≤ R.cells ∧ slots ≤ R.slots)
    (kk : W p l e R s m av.toArray below meth c H locs cells slots Q (F0 m (pc + 3) ls (.int r :: rest))) : W p l e R s m av.toArray below meth c H locs cells slots Q (F0 m pc ls st0) := by
  have hr := W.runS (e := e) (H := H) (locs := locs) (cells := cells) (slots := slots) (below := below) (meth := meth) (g := F0 m pc ls st0) (rest := rest) (As := As) ⟨C.1, C.2.1, C.2.2.2.1, C.2.2.2.2.1, C.2.2.2.2.2.1⟩ hM (va_cwS n C.2.2.2.2.2.1 hT hw hrc.1 hrc.2 hd hR)
    ⟨fun a U g mk q => ⟨q.1, q.2.1, va_K.moved (u := U) (U := U.calling g mk a) (Vm.Alike.refl U.vm) q.2.2⟩, fun U hU hW => ⟨rfl, by rw [hU]; exact hP, va_K.moved hW.alike hK⟩⟩ rfl hn hsize hstack (lv_room hcat) hdg hf
  exact vp_callSi hr (fun x hx => by subst hx; exact kk)
theorem cX_go {w w' ws wsn : va_W} {A : Nat → Prop} {H0 : Heap} {v : Option Value} {a : Array Value} {st0 : List Value} (hr : CallRun p l e R s m av.toArray below meth c H locs cells slots 0 0 (F0 m pc ls st0) rest (qX G w w' (.returned v) a) (fA w)) (hP : va_P G.1 vwCl ws H) (hD : va_D A ws) (hS : va_S A H0 H locs)
    (is : List Nat) (his : is.map (fun i => ws[i]?) = w.map some) (hf : w'.map Prod.fst = w.map Prod.fst) (hset : setM ws is w' = wsn) (hfn : wsn.map Prod.fst = ws.map Prod.fst)
    (kk : ∀ (H1 : Heap) (locs1 : List Loc), va_P G.1 vwCl wsn H1 → va_D A wsn → va_S A H0 H1 locs1 → W p l e R s m av.toArray below meth c H1 locs1 cells slots Q (F0 m (pc + 3) ls (v.toList ++ rest))) : W p l e R s m av.toArray below meth c H locs cells slots Q (F0 m pc ls st0) := by
  have hfree : ∀ q, fA w q → A q := by
    rintro q ⟨j, e, hj⟩
    have h3 : (is.map (fun i => ws[i]?))[j]? = some (some (q, e)) := by rw [his, List.getElem?_map, hj]; rfl
    rw [List.getElem?_map] at h3
    rcases h4 : is[j]? with _ | i
    · rw [h4] at h3; cases h3
    · rw [h4] at h3
      exact hD.2 i (q, e) (Option.some.inj h3)
  intro T hT X
  obtain ⟨v', st₀, t, T', L, h0, X', hL, e1, ⟨hv, hp, hz, hk⟩, st⟩ := hr T hT X
  cases hv
  rw [h0] at hz hk
  obtain ⟨t2, a1, b1⟩ := kk T'.heap (locs ++ L) (fr_P hP hD is his hf hset (fun q h1 h2 => by rw [e1]; exact hk q h1 h2) (by rw [e1]; exact hp)) (hD.fst hfn)
    ⟨Nat.le_trans hS.1 (by rw [e1]; exact hz), fun q h1 h2 => by rw [e1, hk q (Nat.lt_of_lt_of_le h1 hS.1) (fun z => h2 (hfree q z))]; exact hS.2.1 q h1 h2, fun q hq => by
      rcases List.mem_append.mp hq with h | h
      · exact hS.2.2 q h
      · exact hfree _ (hL q h)⟩ T' rfl X'
  exact ⟨t2, st t2 a1, b1⟩
/-- a call of a method that writes, on an object -/
theorem cX_V {y : MethodName} {bytes : ByteArray} {maxL n index : Nat} {ret2 : Option FieldType} {wd wd' : List Cond} {rm : Room} {w w' ws wsn : va_W} {Cn : String} {b : Addr} {As : List Value} {v : Option Value} {st0 : List Value} {A : Nat → Prop} {H0 : Heap}
    (C : mCtx p s m av meth c cc nL ret own Ts) (hM : mX l y wd rm G w w' (.ref b :: As) (.returned v)) (hT : GoodIn Ts (wsV own index Cn y wd)) (hw : wd = Cond.code y bytes maxL ret2 :: wd') (hrc : rm.cells = 0 ∧ rm.slots = 0)
    (hd : y.cls = Cn ∧ y.cls ≠ "java/lang/invoke/MethodHandle" ∧ y.cls ≠ "java/lang/invoke/VarHandle" ∧ (parseMethodDescriptor y.desc).map (fun d => d.parameters.length) = some n) (hR : rm.frames + 1 ≤ R.frames ∧ 8 + (maxL + 11) + rm.locals ≤ R.locals)
    (hK : va_K G.1 vwCl (tyS G) s) (hP : va_P G.1 vwCl ws H) (hD : va_D A ws) (hS : va_S A H0 H locs)
    (is : List Nat) (hnd : va_nd is = true) (his : is.map (fun i => ws[i]?) = w.map some) (hf : w'.map Prod.fst = w.map Prod.fst) (hset : setM ws is w' = wsn) (hfn : wsn.map Prod.fst = ws.map Prod.fst)
    (hrecv : ∃ cellB : Cell, H[b]? = some cellB ∧ cellB.vm.isStatics = false ∧ s.vm.findClass Cn = some cellB.cls)
    (hn : As.length = n) (hsize : ls.size = nL) (hstack : st0 = As.reverse ++ .ref b :: rest) (hcat : (rest.map fun v => v.category).sum ≤ 8) (hdg : decode cc pc = .ok (.invokevirtual index, 3)) (hcs : cells ≤ R.cells ∧ slots ≤ R.slots)
    (kk : ∀ (H1 : Heap) (locs1 : List Loc), va_P G.1 vwCl wsn H1 → va_D A wsn → va_S A H0 H1 locs1 → W p l e R s m av.toArray below meth c H1 locs1 cells slots Q (F0 m (pc + 3) ls (v.toList ++ rest))) : W p l e R s m av.toArray below meth c H locs cells slots Q (F0 m pc ls st0) := by
  have hPw : va_P G.1 vwCl w H := hP.sub is (by
    have h := congrArg (List.filterMap id) his
    simpa [List.filterMap_map, Function.comp_def] using h)
  have hDw : va_D (fun _ => True) w := (hD.sub is hnd his).weaken (fun _ _ _ _ => trivial)
  have hr := W.runV (e := e) (H := H) (locs := locs) (cells := cells) (slots := slots) (below := below) (meth := meth) (g := F0 m pc ls st0) (rest := rest) (As := As) (b := b) (C := Cn) ⟨C.1, C.2.1, C.2.2.2.1, C.2.2.2.2.1, C.2.2.2.2.2.1⟩ hM (cwV n C.2.2.2.2.2.1 hT hw hrc.1 hrc.2 hd hR)
    ⟨fun a U g mk q => ⟨q.1, q.2.1, va_K.moved (u := U) (U := U.calling g mk a) (Vm.Alike.refl U.vm) q.2.2.1, q.2.2.2⟩, hrecv, fun U hU hW => ⟨rfl, by rw [hU]; exact hPw, va_K.moved hW.alike hK, hDw⟩⟩ rfl hn hsize hstack (lv_room hcat) hdg hcs
  exact cX_go hr hP hD hS is his hf hset hfn kk
theorem cX_S {y : MethodName} {bytes : ByteArray} {maxL n index : Nat} {ret2 : Option FieldType} {wd wd' : List Cond} {rm : Room} {w w' ws wsn : va_W} {As : List Value} {v : Option Value} {st0 : List Value} {A : Nat → Prop} {H0 : Heap}
    (C : mCtx p s m av meth c cc nL ret own Ts) (hM : mX l y wd rm G w w' As (.returned v)) (hT : GoodIn Ts (va_wsS own index y wd)) (hw : wd = Cond.code y bytes maxL ret2 :: wd') (hrc : rm.cells = 0 ∧ rm.slots = 0)
    (hd : y.cls ≠ "java/lang/invoke/MethodHandle" ∧ y.cls ≠ "java/lang/invoke/VarHandle" ∧ (parseMethodDescriptor y.desc).map (fun d => d.parameters.length) = some n) (hR : rm.frames + 1 ≤ R.frames ∧ 8 + (maxL + 11) + rm.locals ≤ R.locals)
    (hK : va_K G.1 vwCl (tyS G) s) (hP : va_P G.1 vwCl ws H) (hD : va_D A ws) (hS : va_S A H0 H locs)
    (is : List Nat) (hnd : va_nd is = true) (his : is.map (fun i => ws[i]?) = w.map some) (hf : w'.map Prod.fst = w.map Prod.fst) (hset : setM ws is w' = wsn) (hfn : wsn.map Prod.fst = ws.map Prod.fst)
    (hn : As.length = n) (hsize : ls.size = nL) (hstack : st0 = As.reverse ++ rest) (hcat : (rest.map fun v => v.category).sum ≤ 8) (hdg : decode cc pc = .ok (.invokestatic index, 3)) (hcs : cells ≤ R.cells ∧ slots ≤ R.slots)
    (kk : ∀ (H1 : Heap) (locs1 : List Loc), va_P G.1 vwCl wsn H1 → va_D A wsn → va_S A H0 H1 locs1 → W p l e R s m av.toArray below meth c H1 locs1 cells slots Q (F0 m (pc + 3) ls (v.toList ++ rest))) : W p l e R s m av.toArray below meth c H locs cells slots Q (F0 m pc ls st0) := by
  have hPw : va_P G.1 vwCl w H := hP.sub is (by
    have h := congrArg (List.filterMap id) his
    simpa [List.filterMap_map, Function.comp_def] using h)
  have hDw : va_D (fun _ => True) w := (hD.sub is hnd his).weaken (fun _ _ _ _ => trivial)
  have hr := W.runS (e := e) (H := H) (locs := locs) (cells := cells) (slots := slots) (below := below) (meth := meth) (g := F0 m pc ls st0) (rest := rest) (As := As) ⟨C.1, C.2.1, C.2.2.2.1, C.2.2.2.2.1, C.2.2.2.2.2.1⟩ hM (va_cwS n C.2.2.2.2.2.1 hT hw hrc.1 hrc.2 hd hR)
    ⟨fun a U g mk q => ⟨q.1, q.2.1, va_K.moved (u := U) (U := U.calling g mk a) (Vm.Alike.refl U.vm) q.2.2.1, q.2.2.2⟩, fun U hU hW => ⟨rfl, by rw [hU]; exact hPw, va_K.moved hW.alike hK, hDw⟩⟩ rfl hn hsize hstack (lv_room hcat) hdg hcs
  exact cX_go hr hP hD hS is his hf hset hfn kk
end BASE
