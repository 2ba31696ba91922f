/-! the class: cells that are views of shared rows; worlds that hold the same -/
def cQ (x y : va_E) : Prop := x = y ∨ ∃ (c : ClassId) (n : Nat) (f g : Nat → Int32), x = .inl (c, n, .inl f) ∧ y = .inl (c, n, .inl g) ∧ ∀ k, k < n → f k = g k
theorem cQ_row {c : ClassId} {n : Nat} {f g : Nat → Int32} (h : ∀ k, k < n → f k = g k) : cQ (.inl (c, n, .inl f)) (.inl (c, n, .inl g)) := Or.inr ⟨c, n, f, g, rfl, rfl, h⟩
theorem cQ_e {x y : va_E} (h : x = y) : cQ x y := Or.inl h
def wQ : va_W → va_W → Prop
  | [], [] => True
  | x :: w, y :: w' => x.1 = y.1 ∧ cQ x.2 y.2 ∧ wQ w w'
  | _, _ => False
theorem wQ_n : wQ [] [] := trivial
theorem wQ_c {a : Nat} {x y : va_E} {w w' : va_W} (h : cQ x y) (h2 : wQ w w') : wQ ((a, x) :: w) ((a, y) :: w') := ⟨rfl, h, h2⟩
theorem wQ_rf : ∀ w : va_W, wQ w w
  | [] => trivial
  | x :: w => ⟨rfl, Or.inl rfl, wQ_rf w⟩
theorem wQ_f : ∀ {w w' : va_W}, wQ w w' → w'.map Prod.fst = w.map Prod.fst
  | [], [], _ => rfl
  | [], _ :: _, h => h.elim
  | _ :: _, [], h => h.elim
  | x :: w, y :: w', h => by
    show y.1 :: w'.map Prod.fst = x.1 :: w.map Prod.fst
    rw [wQ_f h.2.2, h.1]
theorem wQ_get : ∀ {w w' : va_W}, wQ w w' → ∀ (k : Nat) (y : Nat × va_E), w'[k]? = some y → ∃ x : Nat × va_E, w[k]? = some x ∧ x.1 = y.1 ∧ cQ x.2 y.2
  | [], [], _, k, y, h => by simp at h
  | [], _ :: _, h, _, _, _ => h.elim
  | _ :: _, [], h, _, _, _ => h.elim
  | x :: w, z :: w', h, 0, y, hk => by
    have e : z = y := Option.some.inj hk
    subst e; exact ⟨x, rfl, h.1, h.2.1⟩
  | x :: w, z :: w', h, k + 1, y, hk => wQ_get h.2.2 k y hk
theorem arrV_c {c : ClassId} {n : Nat} {f g : Nat → Int32} (h : ∀ k, k < n → f k = g k) : arrV c n (fun j => .int (f j)) = arrV c n (fun j => .int (g j)) := by
  unfold arrV
  congr 1
  congr 1
  funext j
  show Value.int (f j.val) = Value.int (g j.val)
  rw [h j.val j.isLt]
theorem cQ_at {D : va_G} {cl : List vw_C} {a : Nat} {x y : va_E} {H : Heap} (h : cQ x y) (hx : va_at D cl (a, x) H) : va_at D cl (a, y) H := by
  rcases h with rfl | ⟨c, n, f, g, rfl, rfl, h⟩
  · exact hx
  · have h1 : H[a]? = some (vp_cell c (n, .inl f)) := hx
    show H[a]? = some (vp_cell c (n, .inl g))
    rw [h1, vp_cell_i, vp_cell_i, arrV_c h]
theorem va_P.wq {D : va_G} {cl : List vw_C} {w w' : va_W} {H : Heap} (hP : va_P D cl w H) (h : wQ w w') : va_P D cl w' H := by
  rintro k ⟨a, y⟩ hk
  obtain ⟨⟨b, x⟩, hx, e, hq⟩ := wQ_get h k (a, y) hk
  have e2 : b = a := e
  subst e2
  exact cQ_at hq (hP k _ hx)
theorem va_D.wq {A : Nat → Prop} {w w' : va_W} (hD : va_D A w) (h : wQ w w') : va_D A w' := hD.fst (wQ_f h)
theorem upd_view {n : Nat → Int32} {o j : Nat} {v : Int32} (k : Nat) : upd (fun k => n (o + k)) j v k = upd n (o + j) v (o + k) := by
  unfold upd
  by_cases h : k = j
  · rw [if_pos h, if_pos (by omega)]
  · rw [if_neg h, if_neg (by omega)]
theorem upd_view4 {n : Nat → Int32} {m o j : Nat} {v : Int32} (hm : 0 < m) (k : Nat) : upd (fun k => n (m * k + o)) j v k = upd n (m * j + o) v (m * k + o) := by
  unfold upd
  by_cases h : k = j
  · subst h; rw [if_pos rfl, if_pos rfl]
  · rw [if_neg h, if_neg (fun q => h (Nat.eq_of_mul_eq_mul_left hm (by omega)))]
section QROWS
variable {p : Program} {l : Launch} {e : Env} {R : Room} {s : State} {m : MethodId} {args : Array Value} {below : List Frame} {meth : Method} {c : Code} {H : Heap} {locs : List Loc} {cells slots : Nat} {Q : State → Prop}
variable {cc : ByteArray} {pc : Nat} {ls : Array Slot} {rest : List Value} {D : va_G} {cl : List vw_C} {A : Nat → Prop} {a : Nat} {tys : List (ClassId × FieldType)} {ws : va_W} {H0 : Heap}
theorem n_iastQ (hexec : p.tables.exec = Jvm.exec) (hb : c.code = cc) (hK : va_K D cl tys s) (hP : va_P D cl ws H) (hD : va_D A ws) (hS : va_S A H0 H locs) (q0 t0 : Nat) {cA : ClassId} {n : Nat} {f : Nat → Int32} (ha : ws[q0]? = some (a, .inl (cA, n, .inl f))) (ht : tys[t0]? = some (cA, .int)) {i x : Int32} {j : Nat} (hi : i = nI j) (hj : j < n) (hn : n < 2147483648) (hdg : decode cc pc = .ok (.iastore, 1))
    {wsn : va_W} (hw : wQ (ws.set q0 (a, .inl (cA, n, .inl (upd f j x)))) wsn)
    (k : ∀ (H1 : Heap) (locs1 : List Loc), va_P D cl wsn H1 → va_D A wsn → va_S A H0 H1 locs1 → W p l e R s m args below meth c H1 locs1 cells slots Q (F0 m (pc + 1) ls rest)) : W p l e R s m args below meth c H locs cells slots Q (F0 m pc ls (.int x :: .int i :: .ref a :: rest)) :=
  n_iast hexec hb hK hP hD hS q0 t0 ha ht hi hj hn hdg rfl (fun H1 l1 h1 h2 h3 => k H1 l1 (h1.wq hw) (h2.wq hw) h3)
theorem n_zastQ (hexec : p.tables.exec = Jvm.exec) (hb : c.code = cc) (hK : va_K D cl tys s) (hP : va_P D cl ws H) (hD : va_D A ws) (hS : va_S A H0 H locs) (q0 t0 : Nat) {cA : ClassId} {n : Nat} {f : Nat → Int32} (ha : ws[q0]? = some (a, .inl (cA, n, .inl f))) (ht : tys[t0]? = some (cA, .boolean)) {i x : Int32} {j : Nat} (hi : i = nI j) (hj : j < n) (hn : n < 2147483648) (hx : vp_nar .boolean x = x) (hdg : decode cc pc = .ok (.bastore, 1))
    {wsn : va_W} (hw : wQ (ws.set q0 (a, .inl (cA, n, .inl (upd f j x)))) wsn)
    (k : ∀ (H1 : Heap) (locs1 : List Loc), va_P D cl wsn H1 → va_D A wsn → va_S A H0 H1 locs1 → W p l e R s m args below meth c H1 locs1 cells slots Q (F0 m (pc + 1) ls rest)) : W p l e R s m args below meth c H locs cells slots Q (F0 m pc ls (.int x :: .int i :: .ref a :: rest)) :=
  n_zast hexec hb hK hP hD hS q0 t0 ha ht hi hj hn hx hdg rfl (fun H1 l1 h1 h2 h3 => k H1 l1 (h1.wq hw) (h2.wq hw) h3)
theorem n_putQ (hexec : p.tables.exec = Jvm.exec) (hb : c.code = cc) {own ref C : String} {T : u_T} {N ci index : Nat} {Ts : List Cond} (hts : ∀ w ∈ Ts, w.before args s = true) (hin : ∀ w ∈ u_ws C T N, w ∈ Ts) (ty0 : Nat → FieldType) (hty : ∀ k, k < N → parseFieldDescriptor (T k).2.2.1 = some (ty0 k)) (hnm : ∀ a, a < N → ∀ b, b < N → a ≠ b → (T a).2.1 ≠ (T b).2.1) (hown : s.vm.findClass own = some m.cls) (hK : va_K D cl tys s) (hP : va_P D cl ws H) (hD : va_D A ws) (hS0 : va_S A H0 H locs) (q0 : Nat) {fs : List Value} (he : ws[q0]? = some (a, .inr (ci, fs))) (hc : cl[ci]? = some (C, T, N)) (k : Nat) (hk : k < N) (hlink : (Cond.fieldLink own index ref (T k).2.1 (T k).2.2.1).before args s = true) (hsame : ∀ x, s.fieldFound? (T k).1 (T k).2.1 (T k).2.2.1 = some x → s.fieldFound? ref (T k).2.1 (T k).2.2.1 = some x) (hfin : (T k).2.2.2 = false) {ty : FieldType} {v : Value} (hd : parseFieldDescriptor (T k).2.2.1 = some ty) (hn : narrow ty v = v) (hfit : fits ty v = true) (hl : k < fs.length)
    {wsn : va_W} (hw : wQ (ws.set q0 (a, .inr (ci, fs.set k v))) wsn)
    (hdg : decode cc pc = .ok (.putfield index, 3)) (kk : ∀ (H1 : Heap) (locs1 : List Loc), va_P D cl wsn H1 → va_D A wsn → va_S A H0 H1 locs1 → W p l e R s m args below meth c H1 locs1 cells slots Q (F0 m (pc + 3) ls rest)) : W p l e R s m args below meth c H locs cells slots Q (F0 m pc ls (v :: .ref a :: rest)) :=
  n_put hexec hb hts hin ty0 hty hnm hown hK hP hD hS0 q0 he hc k hk hlink hsame hfin hd hn hfit hl rfl hdg (fun H1 l1 h1 h2 h3 => kk H1 l1 (h1.wq hw) (h2.wq hw) h3)
/-- System.arraycopy of the first so many of a row of ints -/
theorem n_copyQ (hexec : p.tables.exec = Jvm.exec) (hb : c.code = cc) (hml : c.maxLocals = ls.size) {own : String} {index : Nat} (hown : s.vm.findClass own = some m.cls) (hlink : (Cond.methodLink own index arraycopyName).before args s = true) (hnat : (Cond.native arraycopyName).before args s = true) (hstat : (Cond.static arraycopyName).before args s = true) (hini : (Cond.initialized "java/lang/System").before args s = true)
    (hK : va_K D cl tys s) (hP : va_P D cl ws H) (hD : va_D A ws) (hS : va_S A H0 H locs) (q0 q1 t0 : Nat) {a0 : Nat} {c0 : ClassId} {n0 n1 : Nat} {f g : Nat → Int32} (ha0 : ws[q0]? = some (a0, .inl (c0, n0, .inl f))) (ha1 : ws[q1]? = some (a, .inl (c0, n1, .inl g))) (ht0 : tys[t0]? = some (c0, .int))
    {x : Int32} {n : Nat} (hx : x = nI n) (hn : n < 2147483648) (h4 : n ≤ n0) (h5 : n ≤ n1)
    (hframes : 1 ≤ R.frames) (hlocals : (rest.map fun v => v.category).sum + (nativeFrameWords "java/lang/System" "arraycopy" 5 + 11) ≤ R.locals) (hdg : decode cc pc = .ok (.invokestatic index, 3))
    {wsn : va_W} (hw : wQ (ws.set q1 (a, .inl (c0, n1, .inl (va_cpy f g 0 0 n)))) wsn)
    (kk : ∀ (H1 : Heap) (locs1 : List Loc), va_P D cl wsn H1 → va_D A wsn → va_S A H0 H1 locs1 → W p l e R s m args below meth c H1 locs1 cells slots Q (F0 m (pc + 3) ls rest)) : W p l e R s m args below meth c H locs cells slots Q (F0 m pc ls (.int x :: .int 0 :: .ref a :: .int 0 :: .ref a0 :: rest)) := by
  subst hx
  have h0 : (0 : Int32).toNatClampNeg = 0 := rfl
  have h1 := nI_clamp hn
  refine va_copyi hexec hb hml hown hlink hnat hstat hini hK hP hD hS q0 q1 t0 t0 ha0 ha1 ht0 ht0 rfl (by decide) (by decide) (nI_pos hn) (by rw [h0, h1]; omega) (by rw [h0, h1]; omega) (fun i hi => rfl) hframes hlocals hdg ?_
  rw [h0, h1]
  exact fun H1 l1 a1 a2 a3 => kk H1 l1 (a1.wq hw) (a2.wq hw) a3
end QROWS
theorem inB_cls {x T : Int32} {k : Nat} (hT : T = nI k) (hk : k < 1073741824) : inB x 0 (T - 1) ↔ ¬ x < 0 ∧ ¬ T ≤ x := by
  have e : (T - 1).toInt = (k : Int) - 1 := by
    rw [hT, show (1 : Int32) = nI 1 from rfl, pk_sub_toInt hk (by decide)]; rfl
  have e2 : T.toInt = (k : Int) := by rw [hT, nI_toInt (by omega)]
  show (0 ≤ x ∧ x ≤ T - 1) ↔ _
  rw [Int32.le_iff_toInt_le, Int32.le_iff_toInt_le, Int32.lt_iff_toInt_lt, Int32.le_iff_toInt_le, e, e2, show (0 : Int32).toInt = 0 from rfl]
  omega
theorem and1_0 (y : Int32) : (y &&& 1) = 0 ↔ ¬ (y &&& 1) = 1 := by
  constructor
  · intro h q; rw [h] at q; exact absurd q (by decide)
  · intro h
    have h0 : ¬ bt y 0 = true := fun q => h ((and1 y).mpr q)
    refine b_ext (fun i hi => ?_)
    rw [b_and, bt_1 i hi]
    by_cases e : i = 0
    · subst e
      rw [Bool.not_eq_true] at h0; rw [h0]; rfl
    · rw [decide_eq_false e, Bool.and_false]
      show false = (0 : Int32).toBitVec.getLsbD i
      simp
def mdG (fl : Int32) (b : Prop) [Decidable b] (o lo hi : Int32) (c : Nat) : Int32 := if hasB fl c then 3 else if b ∨ o < lo then 0 else if o ≤ hi then 1 else 2
def eqT (t u : Nat → Int32) : Prop := (∀ k, k < 5 → t k = u k) ∧ ∀ k, 9 ≤ k → k < 22 → t k = u k
def clrT (t : Nat → Int32) : Nat → Int32 := upd (upd (upd (upd (upd (upd t 0 0) 1 0) 2 0) 3 0) 4 0) 21 0
