/-! contracts by larger worlds -/
theorem met_conv {l : Launch} {y : MethodName} {ws : List Cond} {rm : Room} {P P' : Array Value → State → Prop} {Q Q' : Array Value → State → Outcome → State → Prop} {mc ms : Nat} {fr fr' : Addr → Prop} (h : Met l y ws rm P Q mc ms fr) (hp : ∀ a s, P' a s → P a s) (hq : ∀ a s o t, P' a s → Q a s o t → Q' a s o t) (hfr : ∀ q, fr q → fr' q) : Met l y ws rm P' Q' mc ms fr' := by
  intro p e ha hc hk s m args below hf happ hP hK
  obtain ⟨n, o, h1, h2, h3, h4, L, h5, h6⟩ := h p e ha hc hk s m args below hf happ (hp _ _ hP) hK
  exact ⟨n, o, h1, h2, h3, hq _ _ _ _ hP h4, L, h5, fun q hq => hfr _ (h6 q hq)⟩
theorem fA_sub {w ws : va_W} {is : List Nat} (his : is.map (fun i => ws[i]?) = w.map some) : ∀ q, fA w q → fA ws q := by
  rintro q ⟨j, e, hj⟩
  have h3 : (is.map (fun i => ws[i]?))[j]? = some (some (q, e)) := by rw [his, List.getElem?_map, hj]; rfl
  rw [List.getElem?_map] at h3
  rcases h4 : is[j]? with _ | i
  · rw [h4] at h3; cases h3
  · rw [h4] at h3; exact ⟨i, e, Option.some.inj h3⟩
theorem va_P.pick {D : va_G} {cl : List vw_C} {ws w : va_W} {H : Heap} (hP : va_P D cl ws H) (is : List Nat) (his : is.map (fun i => ws[i]?) = w.map some) : va_P D cl w H := hP.sub is (by
  have h := congrArg (List.filterMap id) his
  simpa [List.filterMap_map, Function.comp_def] using h)
theorem mR.big {l : Launch} {y : MethodName} {wd : List Cond} {rm : Room} {G : gG} {w ws : va_W} {av : List Value} {r : Int32} (h : mR l y wd rm G w av r) (is : List Nat) (his : is.map (fun i => ws[i]?) = w.map some) : mR l y wd rm G ws av r :=
  met_conv h (fun a s q => ⟨q.1, q.2.1.pick is his, q.2.2⟩) (fun a s o t _ q => q) (fun q hq => hq)
theorem mX.big {l : Launch} {y : MethodName} {wd : List Cond} {rm : Room} {G : gG} {w w' ws wsn : va_W} {av : List Value} {o : Outcome} (h : mX l y wd rm G w w' av o) (is : List Nat) (hnd : va_nd is = true) (his : is.map (fun i => ws[i]?) = w.map some) (hf : w'.map Prod.fst = w.map Prod.fst) (hset : setM ws is w' = wsn) : mX l y wd rm G ws wsn av o :=
  met_conv h (fun a s q => ⟨q.1, q.2.1.pick is his, q.2.2.1, (q.2.2.2.sub is hnd his).weaken (fun _ _ _ _ => trivial)⟩)
    (fun a s o t p q => ⟨q.1, fr_P p.2.1 p.2.2.2 is his hf hset (fun z h1 h2 => q.2.2.2 z h1 h2) q.2.1, q.2.2.1, fun z h1 h2 => q.2.2.2 z h1 (fun hh => h2 (fA_sub his z hh))⟩) (fA_sub his)
theorem mE.big {S : Type} {l : Launch} {y : MethodName} {wd : List Cond} {rm : Room} {G : gG} {w ws : va_W} {F Fn : S → va_W} {av : List Value} {o : Outcome} (h : mE l y wd rm G w F av o) (is : List Nat) (hnd : va_nd is = true) (his : is.map (fun i => ws[i]?) = w.map some) (hf : ∀ u, (F u).map Prod.fst = w.map Prod.fst) (hset : ∀ u, setM ws is (F u) = Fn u) : mE l y wd rm G ws Fn av o :=
  met_conv h (fun a s q => ⟨q.1, q.2.1.pick is his, q.2.2.1, (q.2.2.2.sub is hnd his).weaken (fun _ _ _ _ => trivial)⟩)
    (fun a s o t p q => ⟨q.1, q.2.1.elim (fun u hu => ⟨u, fr_P p.2.1 p.2.2.2 is his (hf u) (hset u) (fun z h1 h2 => q.2.2.2 z h1 h2) hu⟩), q.2.2.1, fun z h1 h2 => q.2.2.2 z h1 (fun hh => h2 (fA_sub his z hh))⟩) (fA_sub his)
/-- the world behind it by another name -/
theorem mX.wq {l : Launch} {y : MethodName} {wd : List Cond} {rm : Room} {G : gG} {w w' w2 : va_W} {av : List Value} {o : Outcome} (h : mX l y wd rm G w w' av o) (hq : wQ w' w2) : mX l y wd rm G w w2 av o :=
  met_conv h (fun a s q => q) (fun a s o t _ q => ⟨q.1, q.2.1.wq hq, q.2.2⟩) (fun q hq => hq)
theorem setM_len : ∀ (is : List Nat) (w A : va_W), (setM A is w).length = A.length
  | [], w, A => by cases w <;> rfl
  | i :: is, [], A => rfl
  | i :: is, x :: xs, A => by
    show (setM (A.set i x) is xs).length = A.length
    rw [setM_len is xs, List.length_set]
theorem setM_appL {B : va_W} : ∀ (is : List Nat) (w A : va_W), (∀ i ∈ is, i < A.length) → setM (A ++ B) is w = setM A is w ++ B
  | [], w, A, _ => by cases w <;> rfl
  | i :: is, [], A, _ => rfl
  | i :: is, x :: xs, A, h => by
    show setM ((A ++ B).set i x) is xs = setM (A.set i x) is xs ++ B
    rw [List.set_append_left _ _ (h i List.mem_cons_self)]
    exact setM_appL is xs (A.set i x) (fun j hj => by rw [List.length_set]; exact h j (List.mem_cons_of_mem _ hj))
theorem setM_appR {A : va_W} : ∀ (is : List Nat) (w B : va_W), setM (A ++ B) (is.map (fun i => A.length + i)) w = A ++ setM B is w
  | [], w, B => by cases w <;> rfl
  | i :: is, [], B => rfl
  | i :: is, x :: xs, B => by
    show setM ((A ++ B).set (A.length + i) x) (is.map (fun i => A.length + i)) xs = A ++ setM (B.set i x) is xs
    rw [List.set_append_right _ _ (Nat.le_add_right _ _), Nat.add_sub_cancel_left]
    exact setM_appR is xs (B.set i x)
theorem setM_two : ∀ (is1 : List Nat) (w1 ws : va_W) {is2 : List Nat} {w2 : va_W}, is1.length = w1.length → setM ws (is1 ++ is2) (w1 ++ w2) = setM (setM ws is1 w1) is2 w2
  | [], [], ws, is2, w2, _ => rfl
  | [], _ :: _, ws, is2, w2, h => by simp at h
  | _ :: _, [], ws, is2, w2, h => by simp at h
  | i :: is, x :: xs, ws, is2, w2, h => setM_two is xs (ws.set i x) (by simpa using h)
/-! the ring of states -/
def rgW (G : gG) (ka : Nat) (ra : Nat → Nat → Nat) (rg : Nat → Nat → Int32) : Nat → va_W
  | 0 => []
  | j + 1 => rgW G ka ra rg j ++ s1W G (ra j 0) (ra j 1) (ra j 2) (ra j 3) (ra j 4) ka (rg j)
def rgA (ra : Nat → Nat → Nat) : Nat → List Nat
  | 0 => []
  | j + 1 => rgA ra j ++ [ra j 0, ra j 1, ra j 2, ra j 3, ra j 4]
theorem rgW_f {G : gG} {ka : Nat} {ra : Nat → Nat → Nat} {rg : Nat → Nat → Int32} : ∀ {n}, (rgW G ka ra rg n).map Prod.fst = rgA ra n
  | 0 => rfl
  | n + 1 => by
    show (rgW G ka ra rg n ++ _).map Prod.fst = rgA ra n ++ _
    rw [List.map_append, rgW_f]; rfl
theorem rgW_len {G : gG} {ka : Nat} {ra : Nat → Nat → Nat} {rg : Nat → Nat → Int32} : ∀ n, (rgW G ka ra rg n).length = 5 * n
  | 0 => rfl
  | n + 1 => by
    show (rgW G ka ra rg n ++ _).length = _
    rw [List.length_append, rgW_len n]; rfl
theorem rgW_get {G : gG} {ka : Nat} {ra : Nat → Nat → Nat} {rg : Nat → Nat → Int32} {j : Nat} : ∀ n, j < n → ([0, 1, 2, 3, 4].map (fun q => 5 * j + q)).map (fun i => (rgW G ka ra rg n)[i]?) = (s1W G (ra j 0) (ra j 1) (ra j 2) (ra j 3) (ra j 4) ka (rg j)).map some
  | 0, h => absurd h (by omega)
  | n + 1, h => by
    have hl := rgW_len (G := G) (ka := ka) (ra := ra) (rg := rg) n
    have hg : ∀ i : Nat, (rgW G ka ra rg (n + 1))[i]? = (rgW G ka ra rg n ++ s1W G (ra n 0) (ra n 1) (ra n 2) (ra n 3) (ra n 4) ka (rg n))[i]? := fun i => rfl
    by_cases e : j = n
    · subst e
      have hr : ∀ q : Nat, (rgW G ka ra rg (j + 1))[5 * j + q]? = (s1W G (ra j 0) (ra j 1) (ra j 2) (ra j 3) (ra j 4) ka (rg j))[q]? := by
        intro q
        rw [hg, List.getElem?_append_right (by omega), hl, Nat.add_sub_cancel_left]
      show [(rgW G ka ra rg (j + 1))[5 * j + 0]?, (rgW G ka ra rg (j + 1))[5 * j + 1]?, (rgW G ka ra rg (j + 1))[5 * j + 2]?, (rgW G ka ra rg (j + 1))[5 * j + 3]?, (rgW G ka ra rg (j + 1))[5 * j + 4]?] = _
      rw [hr, hr, hr, hr, hr]; rfl
    · have ih := rgW_get (G := G) (ka := ka) (ra := ra) (rg := rg) (j := j) n (by omega)
      rw [← ih]
      have hr : ∀ q : Nat, q < 5 → (rgW G ka ra rg (n + 1))[5 * j + q]? = (rgW G ka ra rg n)[5 * j + q]? := by
        intro q hq
        rw [hg, List.getElem?_append_left (by omega)]
      show [(rgW G ka ra rg (n + 1))[5 * j + 0]?, (rgW G ka ra rg (n + 1))[5 * j + 1]?, (rgW G ka ra rg (n + 1))[5 * j + 2]?, (rgW G ka ra rg (n + 1))[5 * j + 3]?, (rgW G ka ra rg (n + 1))[5 * j + 4]?] = _
      rw [hr 0 (by omega), hr 1 (by omega), hr 2 (by omega), hr 3 (by omega), hr 4 (by omega)]; rfl
def rgU (rg : Nat → Nat → Int32) (j : Nat) (f : Nat → Int32) : Nat → Nat → Int32 := fun k => if k = j then f else rg k
theorem rgU_at (rg : Nat → Nat → Int32) (j : Nat) (f : Nat → Int32) : rgU rg j f j = f := if_pos rfl
theorem rgU_ne {rg : Nat → Nat → Int32} {j k : Nat} {f : Nat → Int32} (h : k ≠ j) : rgU rg j f k = rg k := if_neg h
theorem rgW_ne {G : gG} {ka : Nat} {ra : Nat → Nat → Nat} {rg : Nat → Nat → Int32} {j : Nat} {f : Nat → Int32} : ∀ n, n ≤ j → rgW G ka ra (rgU rg j f) n = rgW G ka ra rg n
  | 0, _ => rfl
  | n + 1, h => by
    show rgW G ka ra (rgU rg j f) n ++ s1W _ _ _ _ _ _ _ (rgU rg j f n) = rgW G ka ra rg n ++ _
    rw [rgW_ne n (by omega), rgU_ne (by omega)]
theorem rgW_set {G : gG} {ka : Nat} {ra : Nat → Nat → Nat} {rg : Nat → Nat → Int32} {j : Nat} {f : Nat → Int32} : ∀ n, j < n → setM (rgW G ka ra rg n) ([0, 1, 2, 3, 4].map (fun q => 5 * j + q)) (s1W G (ra j 0) (ra j 1) (ra j 2) (ra j 3) (ra j 4) ka f) = rgW G ka ra (rgU rg j f) n
  | 0, h => absurd h (by omega)
  | n + 1, h => by
    have hl := rgW_len (G := G) (ka := ka) (ra := ra) (rg := rg) n
    show setM (rgW G ka ra rg n ++ s1W G (ra n 0) (ra n 1) (ra n 2) (ra n 3) (ra n 4) ka (rg n)) _ _ = rgW G ka ra (rgU rg j f) n ++ s1W G (ra n 0) (ra n 1) (ra n 2) (ra n 3) (ra n 4) ka (rgU rg j f n)
    by_cases e : j = n
    · subst e
      rw [show ([0, 1, 2, 3, 4].map (fun q => 5 * j + q)) = ([0, 1, 2, 3, 4].map (fun q => (rgW G ka ra rg j).length + q)) by rw [hl], setM_appR, rgW_ne j (Nat.le_refl _), rgU_at]; rfl
    · rw [setM_appL _ _ _ (fun i hi => by
        rw [hl]
        simp only [List.map_cons, List.map_nil, List.mem_cons, List.not_mem_nil, or_false] at hi
        omega), rgW_set n (by omega), rgU_ne (fun q => e q.symm)]
/-! the ring and the row of the past -/
def odN (od un : Nat) : Nat := if un = 30 then (od + 1) % 30 else od
def rgN (rg : Nat → Nat → Int32) (od un : Nat) (n : Nat → Int32) : Nat → Nat → Int32 := rgU rg ((od + un) % 30) n
def RING (rg : Nat → Nat → Int32) (ps : Nat → Int32) (od un : Nat) : Prop := ∀ k, k < un → ∀ x, x < 54 → rg ((od + k) % 30) x = ps (54 * k + x)
theorem odN_lt {od un : Nat} (h : od < 30) : odN od un < 30 := by unfold odN; split <;> omega
theorem ring_note {rg : Nat → Nat → Int32} {ps n : Nat → Int32} {od un : Nat} (h : RING rg ps od un) (hu : un ≤ 30) (ho : od < 30) : RING (rgN rg od un n) (rmP n ps un) (odN od un) (rmU un) := by
  intro k hk x hx
  unfold rgN rmP odN
  unfold rmU at hk
  by_cases e : un = 30
  · rw [if_pos e] at hk
    rw [if_pos e, if_pos e, e, show (od + 30) % 30 = od by omega]
    by_cases e2 : k = 29
    · rw [e2, show ((od + 1) % 30 + 29) % 30 = od by omega, rgU_at]
      unfold va_cpy
      rw [if_pos (by omega)]
      exact congrArg n (show x = 0 + (54 * 29 + x - 1566) by omega)
    · rw [rgU_ne (by omega), show ((od + 1) % 30 + k) % 30 = (od + (k + 1)) % 30 by omega, h (k + 1) (by omega) x hx]
      unfold va_cpy
      rw [if_neg (by omega)]
      unfold upto
      rw [if_pos (by omega)]
      exact congrArg ps (show _ = _ by omega)
  · rw [if_neg e] at hk
    rw [if_neg e, if_neg e]
    by_cases e2 : k = un
    · rw [e2, rgU_at]
      unfold va_cpy
      rw [if_pos (by omega)]; congr 1; omega
    · rw [rgU_ne (by omega), h k (by omega) x hx]
      unfold va_cpy
      rw [if_neg (by omega)]
theorem ring_back {rg : Nat → Nat → Int32} {ps n : Nat → Int32} {od un k : Nat} (h : RING rg ps od un) (h1 : 1 ≤ k) (h2 : k ≤ un) : eq54 (rg ((od + (un - k)) % 30)) (va_cpy ps n (54 * (un - k)) 0 54) := by
  intro x hx
  rw [h (un - k) (by omega) x hx]
  unfold va_cpy
  rw [if_pos (by omega)]; congr 1
def odQ (od un : Nat) : Nat → Nat
  | 0 => od
  | k + 1 => odN (odQ od un k) (unQ un k)
def rgQ (t : Nat → Int32) (nc np : Nat) (n : Nat → Int32) (rg : Nat → Nat → Int32) (od un : Nat) : Nat → Nat → Nat → Int32
  | 0 => rg
  | k + 1 => rgN (rgQ t nc np n rg od un k) (odQ od un k) (unQ un k) (nQ t nc np n k)
def rgD (t : Nat → Int32) (nc np : Nat) (n : Nat → Int32) (rg : Nat → Nat → Int32) (sd od un : Nat) : Nat → Nat → Nat → Int32
  | 0 => rg
  | k + 1 => rgN (rgD t nc np n rg sd od un k) (odQ od un k) (unQ un k) (nD t nc np n sd k)
theorem odQ_lt {od un : Nat} (h : od < 30) : ∀ k, odQ od un k < 30
  | 0 => h
  | k + 1 => odN_lt (odQ_lt h k)
theorem ring_Q {t n ps : Nat → Int32} {rg : Nat → Nat → Int32} {nc np od un : Nat} (h : RING rg ps od un) (hu : un ≤ 30) (ho : od < 30) : ∀ k, RING (rgQ t nc np n rg od un k) (psQ t nc np n ps un k) (odQ od un k) (unQ un k)
  | 0 => h
  | k + 1 => ring_note (ring_Q h hu ho k) (unQ_le hu k) (odQ_lt ho k)
theorem ring_D {t n ps : Nat → Int32} {rg : Nat → Nat → Int32} {nc np sd od un : Nat} (h : RING rg ps od un) (hu : un ≤ 30) (ho : od < 30) : ∀ k, RING (rgD t nc np n rg sd od un k) (psD t nc np n ps sd un k) (odQ od un k) (unQ un k)
  | 0 => h
  | k + 1 => ring_note (ring_D h hu ho k) (unQ_le hu k) (odQ_lt ho k)
/-! what a town is -/
def okT (t : Nat → Int32) (nc np : Nat) : Prop := tw t nc np ∧ (∃ ir : Nat, ir ≤ 30 ∧ t 1 = nI ir) ∧ (0 < np → 0 < nc) ∧ (t 0 = 0 ∨ t 0 = 1) ∧ ∀ c, c < nc → ∃ lo hi g : Nat, t (9 + c) = nI lo ∧ t (13 + c) = nI hi ∧ t (17 + c) = nI g ∧ 1 ≤ lo ∧ lo ≤ hi ∧ hi ≤ 999 ∧ 1 ≤ g ∧ g ≤ 9
theorem okT_G {t : Nat → Int32} {nc np : Nat} (h : okT t nc np) : okG t nc := fun c hc => by
  obtain ⟨lo, hi, g, h1, h2, h3, h4, h5, h6, h7, h8⟩ := h.2.2.2.2 c hc
  exact ⟨g, h7, h8, h3⟩
theorem okT_L {t : Nat → Int32} {nc np : Nat} (h : okT t nc np) : ∀ c, c < nc → loHi t c := fun c hc => by
  obtain ⟨lo, hi, g, h1, h2, h3, h4, h5, h6, h7, h8⟩ := h.2.2.2.2 c hc
  exact ⟨lo, hi, h1, h2, by omega, h6⟩
