/-! further rows and words -/
section NROWS2
variable {p : Program} {l : Launch} {e : Env} {R : Room} {s : State} {m : MethodId} {args : Array Value} {below : List Frame} {meth : Method} {c : Code} {H : Heap} {locs : List Loc} {cells slots : Nat} {Q : State → Prop}
variable {cc : ByteArray} {pc : Nat} {ls : Array Slot} {rest : List Value}
theorem n_irem (hexec : p.tables.exec = Jvm.exec) (hb : c.code = cc) (hdg : decode cc pc = .ok (.irem, 1)) {u v : Nat} {x y : Int32} (hx : x = nI u) (hy : y = nI v) (h0 : 0 < v) (hu : u < 2147483648) (hv : v < 2147483648) (k : W p l e R s m args below meth c H locs cells slots Q (F0 m (pc + 1) ls (.int (nI (u % v)) :: rest))) : W p l e R s m args below meth c H locs cells slots Q (F0 m pc ls (.int y :: .int x :: rest)) := by
  subst hx hy
  refine lv_irem hexec hb hdg (nI_ne0 h0 hv) ?_
  rw [pk_rem hu h0 hv]; exact k
theorem n_idiv (hexec : p.tables.exec = Jvm.exec) (hb : c.code = cc) (hdg : decode cc pc = .ok (.idiv, 1)) {u v : Nat} {x y : Int32} (hx : x = nI u) (hy : y = nI v) (h0 : 0 < v) (hu : u < 2147483648) (hv : v < 2147483648) (k : W p l e R s m args below meth c H locs cells slots Q (F0 m (pc + 1) ls (.int (nI (u / v)) :: rest))) : W p l e R s m args below meth c H locs cells slots Q (F0 m pc ls (.int y :: .int x :: rest)) := by
  subst hx hy
  refine lv_idiv hexec hb hdg (nI_ne0 h0 hv) ?_
  rw [pk_div hu h0 hv]; exact k
end NROWS2
abbrev cl (x : Int32) : Nat := x.toNatClampNeg
theorem cl_nI {n : Nat} (h : n < 2147483648) : cl (nI n) = n := nI_clamp h
theorem upto_v {f g : Nat → Int32} {i : Nat} {v : Int32} (hv : v = g i) : upd (upto f g i) i v = upto f g (i + 1) := by subst hv; exact upto_s f g i
theorem upd_upd (f : Nat → Int32) (k : Nat) (a b : Int32) : upd (upd f k a) k b = upd f k b := by
  funext j; unfold upd
  by_cases h : j = k
  · rw [if_pos h, if_pos h]
  · rw [if_neg h, if_neg h, if_neg h]
theorem upd_self {f : Nat → Int32} {k : Nat} {a : Int32} (h : f k = a) : upd f k a = f := by
  funext j; unfold upd
  by_cases h1 : j = k
  · rw [if_pos h1, h1, h]
  · rw [if_neg h1]
theorem upd_at (f : Nat → Int32) (k : Nat) (a : Int32) : upd f k a k = a := if_pos rfl
theorem upd_ne {f : Nat → Int32} {k j : Nat} {a : Int32} (h : j ≠ k) : upd f k a j = f j := if_neg h
abbrev cUNK : Int32 := -1000000001
abbrev cOUT : Int32 := -1000000002
abbrev cNOT : Int32 := -1000000003
abbrev cFUL : Int32 := -1000000004
/-! a quarter goes by -/
def qg1 (t f : Nat → Int32) : Nat → Int32 := upto f (fun k => growI (f k) (t 1)) 32
def qg2 (t f : Nat → Int32) : Nat → Int32 := rng (qg1 t f) (fun _ => 0) 36 44
def qg3 (t f : Nat → Int32) (nc np : Nat) : Nat → Int32 := upd (qg2 t f) 52 (qg2 t f 52 ||| soursU t (qg2 t f) np nc)
def qg4 (t f : Nat → Int32) (nc np : Nat) : Nat → Int32 := upto (qg3 t f nc np) (fun k => if hasB (qg3 t f nc np 52) (k % 4) then 0 else qg3 t f nc np k) 32
def qgF (t f : Nat → Int32) (nc np : Nat) : Nat → Int32 := upd (qg4 t f nc np) 53 (qg4 t f nc np 53 + 1)
/-! a wedding -/
def wdU (f : Nat → Int32) (g m : Nat) : Nat → Nat → Int32
  | 0 => f
  | c + 1 => upd (upd (wdU f g m c) (4 * g + c) (lessI (wdU f g m c (4 * g + c) + wdU f g m c (4 * m + c)) 9999)) (4 * m + c) 0
def wd1 (f : Nat → Int32) (g m : Nat) : Nat → Int32 := upd (wdU f g m 4) (36 + g) (wdU f g m 4 (36 + g) ||| wdU f g m 4 (36 + m))
def wedF (f : Nat → Int32) (g m : Nat) : Nat → Int32 := upd (upd (upd (wd1 f g m) (36 + m) 0) (44 + g) (nI m)) (44 + m) (nI g)
def wedP (f : Nat → Int32) (p : Nat) : Bool := decide (f (44 + p) ≠ -1)
def wedS (f : Nat → Int32) : Nat → Int32 := setU (wedP f)
def allU (f : Nat → Int32) : Nat → Int32 := sumU (fun p => owU f p 4)
def whoP (t f : Nat → Int32) (c : Nat) (k : Int32) (p : Nat) : Bool := decide (tm t f p c = k)
def whoU (t f : Nat → Int32) (c : Nat) (k : Int32) : Nat → Int32 := setU (whoP t f c k)
/-! what is told -/
def toldR (i t n : Nat → Int32) (x : Int32) : Int32 := if x = 0 then t 0 else if x = 1 then t 1 else if x = 2 then t 2 else if x = 3 then t 3 else if x = 4 then t 4 else if x = 5 then i 10 else if x = 6 then n 53 else if x = 7 then t 21 else if x = 8 then wedS n 8 else if x = 9 then n 52 else if x = 10 then allU n 8 else if x = 11 then i 13 else if x = 12 then i 15 else if x = 13 then i 5 else cOUT
abbrev isP (t : Nat → Int32) (p : Int32) : Prop := inB p 0 (t 4 - 1)
abbrev isC (t : Nat → Int32) (c : Int32) : Prop := inB c 0 (t 3 - 1)
abbrev isG (t : Nat → Int32) (p : Int32) : Prop := inB p 0 (t 4 - 1) ∧ hasR (t 21) p
abbrev isM (t : Nat → Int32) (p : Int32) : Prop := inB p 0 (t 4 - 1) ∧ ¬ hasR (t 21) p
def crR (t n : Nat → Int32) (np : Nat) (c x : Int32) : Int32 := if ¬ isC t c then cUNK else if x = 0 then n (32 + cl c) else if x = 1 then t (9 + cl c) else if x = 2 then t (13 + cl c) else if x = 3 then t (17 + cl c) else if x = 4 then whoU t n (cl c) 1 np else if x = 5 then whoU t n (cl c) 2 np else cOUT
def peR (t n : Nat → Int32) (nc : Nat) (p x : Int32) : Int32 := if ¬ isP t p then cUNK else if x = 0 then bI (hasB (t 21) (cl p)) else if x = 1 then n (44 + cl p) else if x = 2 then owU n (cl p) 4 else if x = 3 then stU t n (cl p) nc else if x = 4 then n (36 + cl p) else cOUT
def owR (t n : Nat → Int32) (p c : Int32) : Int32 := if isP t p ∧ isC t c then n (4 * cl p + cl c) else cUNK
def teR (t n : Nat → Int32) (p c : Int32) : Int32 := if isP t p ∧ isC t c then tm t n (cl p) (cl c) else cUNK
theorem sw_out {x : Int32} {lo hi : Int} (h : x.toInt < lo ∨ hi < x.toInt) {k : Int32} (h1 : lo ≤ k.toInt) (h2 : k.toInt ≤ hi) : ¬ x = k := by
  rintro rfl; omega
/-! the states behind one -/
def rmP (n ps : Nat → Int32) (un : Nat) : Nat → Int32 := if un = 30 then va_cpy n (upto ps (fun k => ps (k + 54)) 1566) 0 1566 54 else va_cpy n ps 0 (54 * un) 54
def rmU (un : Nat) : Nat := if un = 30 then 30 else un + 1
def rmI (i : Nat → Int32) (un : Nat) : Nat → Int32 := upd i 5 (nI (rmU un))
theorem rmU_le {un : Nat} (h : un ≤ 30) : rmU un ≤ 30 := by unfold rmU; split <;> omega
abbrev mayB (t n : Nat → Int32) (p c : Nat) (k : Int32) : Prop := ¬ (¬ hasB (t 21) p ∧ ¬ n (44 + p) = -1) ∧ ¬ hasB (n 52) c ∧ k ≤ n (32 + c)
def bor1 (n : Nat → Int32) (p c : Nat) (k : Int32) : Nat → Int32 := upd n (4 * p + c) (lessI (n (4 * p + c) + k) 9999)
def borF (n : Nat → Int32) (p c : Nat) (k : Int32) : Nat → Int32 := upd (bor1 n p c k) (32 + c) (bor1 n p c k (32 + c) - k)
abbrev okBor (t n : Nat → Int32) (p c k : Int32) : Prop := isP t p ∧ isC t c ∧ inB k 1 999 ∧ mayB t n (cl p) (cl c) k
def borR (t n : Nat → Int32) (p c k : Int32) : Int32 := if ¬ (isP t p ∧ isC t c) then cUNK else if ¬ inB k 1 999 then cOUT else if ¬ mayB t n (cl p) (cl c) k then cNOT else borF n (cl p) (cl c) k (4 * cl p + cl c)
