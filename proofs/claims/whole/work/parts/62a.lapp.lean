/-! a contract beside cells that it does not know -/
theorem app_l {w u : va_W} {k : Nat} {x : Nat × va_E} (h : w[k]? = some x) : (w ++ u)[k]? = some x := by
  rw [List.getElem?_append_left (List.getElem?_eq_some_iff.mp h).1]; exact h
theorem app_r {w u : va_W} {k : Nat} {x : Nat × va_E} (h : u[k]? = some x) : (w ++ u)[w.length + k]? = some x := by
  rw [List.getElem?_append_right (Nat.le_add_right _ _), Nat.add_sub_cancel_left]; exact h
theorem fA_l {w u : va_W} (q : Nat) (h : fA w q) : fA (w ++ u) q := by
  obtain ⟨k, e, h⟩ := h
  exact ⟨k, e, app_l h⟩
theorem fA_r {w u : va_W} (q : Nat) (h : fA u q) : fA (w ++ u) q := by
  obtain ⟨k, e, h⟩ := h
  exact ⟨_, e, app_r h⟩
theorem P_l {G : gG} {w u : va_W} {H : Heap} (h : va_P G.1 vwCl (w ++ u) H) : va_P G.1 vwCl w H := fun k x hx => h k x (app_l hx)
theorem P_r {G : gG} {w u : va_W} {H : Heap} (h : va_P G.1 vwCl (w ++ u) H) : va_P G.1 vwCl u H := fun _ x hx => h _ x (app_r hx)
theorem D_l {A : Nat → Prop} {w u : va_W} (h : va_D A (w ++ u)) : va_D A w := ⟨fun i j x y hx hy => h.1 i j x y (app_l hx) (app_l hy), fun k x hx => h.2 k x (app_l hx)⟩
theorem D_r {A : Nat → Prop} {w u : va_W} (h : va_D A (w ++ u)) : va_D A u := ⟨fun i j x y hx hy e => by
  have := h.1 _ _ x y (app_r (w := w) hx) (app_r (w := w) hy) e
  omega, fun _ x hx => h.2 _ x (app_r hx)⟩
theorem D_x {A : Nat → Prop} {w u : va_W} (h : va_D A (w ++ u)) {k j : Nat} {x y : Nat × va_E} (hx : w[k]? = some x) (hy : u[j]? = some y) : x.1 ≠ y.1 := fun e => by
  have h1 := h.1 _ _ x y (app_l hx) (app_r (w := w) hy) e
  have h2 := (List.getElem?_eq_some_iff.mp hx).1
  omega
theorem fr_L {G : gG} {A : Nat → Prop} {w w' u : va_W} {H H1 : Heap} (hP : va_P G.1 vwCl (w ++ u) H) (hD : va_D A (w ++ u)) (hk : ∀ q : Nat, q < H.size → ¬ fA w q → H1[q]? = H[q]?) (h1 : va_P G.1 vwCl w' H1) : va_P G.1 vwCl (w' ++ u) H1 := by
  refine h1.app ((P_r hP).kept (fun k x hx => hk x.1 (P_r hP k x hx).lt ?_))
  rintro ⟨j, e, hj⟩
  exact D_x hD hj hx rfl
theorem fr_R {G : gG} {A : Nat → Prop} {w w' u : va_W} {H H1 : Heap} (hP : va_P G.1 vwCl (u ++ w) H) (hD : va_D A (u ++ w)) (hk : ∀ q : Nat, q < H.size → ¬ fA w q → H1[q]? = H[q]?) (h1 : va_P G.1 vwCl w' H1) : va_P G.1 vwCl (u ++ w') H1 := by
  refine ((P_l hP).kept (fun k x hx => hk x.1 (P_l hP k x hx).lt ?_)).app h1
  rintro ⟨j, e, hj⟩
  exact D_x hD hx hj rfl
theorem mR.appL {l : Launch} {y : MethodName} {wd : List Cond} {rm : Room} {G : gG} {w : va_W} {av : List Value} {r : Int32} (h : mR l y wd rm G w av r) (u : va_W) : mR l y wd rm G (w ++ u) av r :=
  met_conv h (fun a s q => ⟨q.1, P_l q.2.1, q.2.2⟩) (fun a s o t _ q => q) (fun q hq => hq)
theorem mR.appR {l : Launch} {y : MethodName} {wd : List Cond} {rm : Room} {G : gG} {w : va_W} {av : List Value} {r : Int32} (h : mR l y wd rm G w av r) (u : va_W) : mR l y wd rm G (u ++ w) av r :=
  met_conv h (fun a s q => ⟨q.1, P_r q.2.1, q.2.2⟩) (fun a s o t _ q => q) (fun q hq => hq)
theorem mX.appL {l : Launch} {y : MethodName} {wd : List Cond} {rm : Room} {G : gG} {w w' : va_W} {av : List Value} {o : Outcome} (h : mX l y wd rm G w w' av o) (u : va_W) : mX l y wd rm G (w ++ u) (w' ++ u) av o :=
  met_conv h (fun a s q => ⟨q.1, P_l q.2.1, q.2.2.1, D_l q.2.2.2⟩) (fun a s o t p q => ⟨q.1, fr_L p.2.1 p.2.2.2 (fun z h1 h2 => q.2.2.2 z h1 h2) q.2.1, q.2.2.1, fun z h1 h2 => q.2.2.2 z h1 (fun hh => h2 (fA_l z hh))⟩) (fun q hq => fA_l q hq)
theorem mX.appR {l : Launch} {y : MethodName} {wd : List Cond} {rm : Room} {G : gG} {w w' : va_W} {av : List Value} {o : Outcome} (h : mX l y wd rm G w w' av o) (u : va_W) : mX l y wd rm G (u ++ w) (u ++ w') av o :=
  met_conv h (fun a s q => ⟨q.1, P_r q.2.1, q.2.2.1, D_r q.2.2.2⟩) (fun a s o t p q => ⟨q.1, fr_R p.2.1 p.2.2.2 (fun z h1 h2 => q.2.2.2 z h1 h2) q.2.1, q.2.2.1, fun z h1 h2 => q.2.2.2 z h1 (fun hh => h2 (fA_r z hh))⟩) (fun q hq => fA_r q hq)
theorem mE.appL {S : Type} {l : Launch} {y : MethodName} {wd : List Cond} {rm : Room} {G : gG} {w : va_W} {F : S → va_W} {av : List Value} {o : Outcome} (h : mE l y wd rm G w F av o) (u : va_W) : mE l y wd rm G (w ++ u) (fun z => F z ++ u) av o :=
  met_conv h (fun a s q => ⟨q.1, P_l q.2.1, q.2.2.1, D_l q.2.2.2⟩) (fun a s o t p q => ⟨q.1, q.2.1.elim (fun z hz => ⟨z, fr_L p.2.1 p.2.2.2 (fun z h1 h2 => q.2.2.2 z h1 h2) hz⟩), q.2.2.1, fun z h1 h2 => q.2.2.2 z h1 (fun hh => h2 (fA_l z hh))⟩) (fun q hq => fA_l q hq)
theorem mE.appR {S : Type} {l : Launch} {y : MethodName} {wd : List Cond} {rm : Room} {G : gG} {w : va_W} {F : S → va_W} {av : List Value} {o : Outcome} (h : mE l y wd rm G w F av o) (u : va_W) : mE l y wd rm G (u ++ w) (fun z => u ++ F z) av o :=
  met_conv h (fun a s q => ⟨q.1, P_r q.2.1, q.2.2.1, D_r q.2.2.2⟩) (fun a s o t p q => ⟨q.1, q.2.1.elim (fun z hz => ⟨z, fr_R p.2.1 p.2.2.2 (fun z h1 h2 => q.2.2.2 z h1 h2) hz⟩), q.2.2.1, fun z h1 h2 => q.2.2.2 z h1 (fun hh => h2 (fA_r z hh))⟩) (fun q hq => fA_r q hq)
/-- what only reads, as what writes nothing -/
theorem mR.x {l : Launch} {y : MethodName} {wd : List Cond} {rm : Room} {G : gG} {w : va_W} {av : List Value} {r : Int32} (h : mR l y wd rm G w av r) (hz : True) : True := hz
