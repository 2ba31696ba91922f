/-- what is told, by those in use -/
def toldC (i t n : Nat → Int32) (np : Nat) (x : Int32) : Int32 := if x = 8 then wedS n np else toldR i t n x
/-! calls of methods whose world is the caller's own -/
section SAME
variable {p : Program} {l : Launch} {e : Env} {R : Room} {s : State} {m : MethodId} {below : List Frame} {meth : Method} {c : Code} {H : Heap} {locs : List Loc} {cells slots : Nat} {Q : State → Prop}
variable {av : List Value} {cc : ByteArray} {nL : Nat} {ret : Option FieldType} {own : String} {Ts : List Cond} {pc : Nat} {ls : Array Slot} {rest : List Value} {G : gG}
theorem cX_VI {y : MethodName} {bytes : ByteArray} {maxL n index : Nat} {ret2 : Option FieldType} {wd wd' : List Cond} {rm : Room} {ws wsn : va_W} {Cn : String} {b : Addr} {As : List Value} {v : Option Value} {st0 : List Value} {A : Nat → Prop} {H0 : Heap}
    (C : mCtx p s m av meth c cc nL ret own Ts) (hM : mX l y wd rm G ws wsn (.ref b :: As) (.returned v)) (hT : GoodIn Ts (wsV own index Cn y wd)) (hw : wd = Cond.code y bytes maxL ret2 :: wd') (hrc : rm.cells = 0 ∧ rm.slots = 0)
    (hd : y.cls = Cn ∧ y.cls ≠ "java/lang/invoke/MethodHandle" ∧ y.cls ≠ "java/lang/invoke/VarHandle" ∧ (parseMethodDescriptor y.desc).map (fun d => d.parameters.length) = some n) (hR : rm.frames + 1 ≤ R.frames ∧ 8 + (maxL + 11) + rm.locals ≤ R.locals)
    (hK : va_K G.1 vwCl (tyS G) s) (hP : va_P G.1 vwCl ws H) (hD : va_D A ws) (hS : va_S A H0 H locs) (hfn : wsn.map Prod.fst = ws.map Prod.fst)
    (hrecv : ∃ cellB : Cell, H[b]? = some cellB ∧ cellB.vm.isStatics = false ∧ s.vm.findClass Cn = some cellB.cls)
    (hn : As.length = n) (hsize : ls.size = nL) (hstack : st0 = As.reverse ++ .ref b :: rest) (hcat : (rest.map fun v => v.category).sum ≤ 8) (hdg : decode cc pc = .ok (.invokevirtual index, 3)) (hcs : cells ≤ R.cells ∧ slots ≤ R.slots)
    (kk : ∀ (H1 : Heap) (locs1 : List Loc), va_P G.1 vwCl wsn H1 → va_D A wsn → va_S A H0 H1 locs1 → W p l e R s m av.toArray below meth c H1 locs1 cells slots Q (F0 m (pc + 3) ls (v.toList ++ rest))) : W p l e R s m av.toArray below meth c H locs cells slots Q (F0 m pc ls st0) := by
  have hDw : va_D (fun _ => True) ws := hD.weaken (fun _ _ _ _ => trivial)
  have hr := W.runV (e := e) (H := H) (locs := locs) (cells := cells) (slots := slots) (below := below) (meth := meth) (g := F0 m pc ls st0) (rest := rest) (As := As) (b := b) (C := Cn) ⟨C.1, C.2.1, C.2.2.2.1, C.2.2.2.2.1, C.2.2.2.2.2.1⟩ hM (cwV n C.2.2.2.2.2.1 hT hw hrc.1 hrc.2 hd hR)
    ⟨fun a U g mk q => ⟨q.1, q.2.1, va_K.moved (u := U) (U := U.calling g mk a) (Vm.Alike.refl U.vm) q.2.2.1, q.2.2.2⟩, hrecv, fun U hU hW => ⟨rfl, by rw [hU]; exact hP, va_K.moved hW.alike hK, hDw⟩⟩ rfl hn hsize hstack (lv_room hcat) hdg hcs
  have hfree : ∀ q, fA ws q → A q := by
    rintro q ⟨j, x, hj⟩
    exact hD.2 j (q, x) hj
  intro T hT' X
  obtain ⟨v', st₀, t, T', L, h0, X', hL, e1, ⟨hv, hp, hz, hk⟩, st⟩ := hr T hT' X
  cases hv
  rw [h0] at hz hk
  obtain ⟨t2, a1, b1⟩ := kk T'.heap (locs ++ L) (by rw [e1]; exact hp) (hD.fst hfn)
    ⟨Nat.le_trans hS.1 (by rw [e1]; exact hz), fun q h1 h2 => by rw [e1, hk q (Nat.lt_of_lt_of_le h1 hS.1) (fun z => h2 (hfree q z))]; exact hS.2.1 q h1 h2, fun q hq => by
      rcases List.mem_append.mp hq with h | h
      · exact hS.2.2 q h
      · exact hfree _ (hL q h)⟩ T' rfl X'
  exact ⟨t2, st t2 a1, b1⟩
theorem cE_VI {S : Type} {y : MethodName} {bytes : ByteArray} {maxL n index : Nat} {ret2 : Option FieldType} {wd wd' : List Cond} {rm : Room} {ws : va_W} {F : S → va_W} {Cn : String} {b : Addr} {As : List Value} {v : Option Value} {st0 : List Value} {A : Nat → Prop} {H0 : Heap}
    (C : mCtx p s m av meth c cc nL ret own Ts) (hM : mE l y wd rm G ws F (.ref b :: As) (.returned v)) (hT : GoodIn Ts (wsV own index Cn y wd)) (hw : wd = Cond.code y bytes maxL ret2 :: wd') (hrc : rm.cells = 0 ∧ rm.slots = 0)
    (hd : y.cls = Cn ∧ y.cls ≠ "java/lang/invoke/MethodHandle" ∧ y.cls ≠ "java/lang/invoke/VarHandle" ∧ (parseMethodDescriptor y.desc).map (fun d => d.parameters.length) = some n) (hR : rm.frames + 1 ≤ R.frames ∧ 8 + (maxL + 11) + rm.locals ≤ R.locals)
    (hK : va_K G.1 vwCl (tyS G) s) (hP : va_P G.1 vwCl ws H) (hD : va_D A ws) (hS : va_S A H0 H locs) (hfn : ∀ u, (F u).map Prod.fst = ws.map Prod.fst)
    (hrecv : ∃ cellB : Cell, H[b]? = some cellB ∧ cellB.vm.isStatics = false ∧ s.vm.findClass Cn = some cellB.cls)
    (hn : As.length = n) (hsize : ls.size = nL) (hstack : st0 = As.reverse ++ .ref b :: rest) (hcat : (rest.map fun v => v.category).sum ≤ 8) (hdg : decode cc pc = .ok (.invokevirtual index, 3)) (hcs : cells ≤ R.cells ∧ slots ≤ R.slots)
    (kk : ∀ (u : S) (H1 : Heap) (locs1 : List Loc), va_P G.1 vwCl (F u) H1 → va_D A (F u) → va_S A H0 H1 locs1 → W p l e R s m av.toArray below meth c H1 locs1 cells slots Q (F0 m (pc + 3) ls (v.toList ++ rest))) : W p l e R s m av.toArray below meth c H locs cells slots Q (F0 m pc ls st0) := by
  have hDw : va_D (fun _ => True) ws := hD.weaken (fun _ _ _ _ => trivial)
  have hr := W.runV (e := e) (H := H) (locs := locs) (cells := cells) (slots := slots) (below := below) (meth := meth) (g := F0 m pc ls st0) (rest := rest) (As := As) (b := b) (C := Cn) ⟨C.1, C.2.1, C.2.2.2.1, C.2.2.2.2.1, C.2.2.2.2.2.1⟩ hM (cwV n C.2.2.2.2.2.1 hT hw hrc.1 hrc.2 hd hR)
    ⟨fun a U g mk q => ⟨q.1, q.2.1, va_K.moved (u := U) (U := U.calling g mk a) (Vm.Alike.refl U.vm) q.2.2.1, q.2.2.2⟩, hrecv, fun U hU hW => ⟨rfl, by rw [hU]; exact hP, va_K.moved hW.alike hK, hDw⟩⟩ rfl hn hsize hstack (lv_room hcat) hdg hcs
  have hfree : ∀ q, fA ws q → A q := by
    rintro q ⟨j, x, hj⟩
    exact hD.2 j (q, x) hj
  intro T hT' X
  obtain ⟨v', st₀, t, T', L, h0, X', hL, e1, ⟨hv, ⟨u, hp⟩, hz, hk⟩, st⟩ := hr T hT' X
  cases hv
  rw [h0] at hz hk
  obtain ⟨t2, a1, b1⟩ := kk u T'.heap (locs ++ L) (by rw [e1]; exact hp) (hD.fst (hfn u))
    ⟨Nat.le_trans hS.1 (by rw [e1]; exact hz), fun q h1 h2 => by rw [e1, hk q (Nat.lt_of_lt_of_le h1 hS.1) (fun z => h2 (hfree q z))]; exact hS.2.1 q h1 h2, fun q hq => by
      rcases List.mem_append.mp hq with h | h
      · exact hS.2.2 q h
      · exact hfree _ (hL q h)⟩ T' rfl X'
  exact ⟨t2, st t2 a1, b1⟩
end SAME
