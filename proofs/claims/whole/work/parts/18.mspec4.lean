/-! the rest of what the reference answers -/
theorem qgF_c {t f g : Nat → Int32} {nc np : Nat} (hc : nc ≤ 4) (hp : np ≤ 8) (h : eq54 f g) : eq54 (qgF t f nc np) (qgF t g nc np) := by
  have h1 : eq54 (qg1 t f) (qg1 t g) := by
    intro k hk; unfold qg1 upto
    by_cases e : k < 32
    · rw [if_pos e, if_pos e]; show growI (f k) (t 1) = growI (g k) (t 1); rw [h k hk]
    · rw [if_neg e, if_neg e, h k hk]
  have h2 : eq54 (qg2 t f) (qg2 t g) := by
    intro k hk; unfold qg2 rng
    by_cases e : 36 ≤ k ∧ k < 44
    · rw [if_pos e, if_pos e]
    · rw [if_neg e, if_neg e, h1 k hk]
  have hs : soursU t (qg2 t f) np nc = soursU t (qg2 t g) np nc := by
    refine setU_c (fun c hc' => ?_)
    unfold failP
    have e1 : sourU t (qg2 t f) c np = sourU t (qg2 t g) c np := sumU_c (fun p hp' => by
      rw [tm_c h2 (by omega) (by omega), h2 (4 * p + c) (by omega)])
    rw [e1, h2 52 (by omega), h2 (32 + c) (by omega)]
  have h3 : eq54 (qg3 t f nc np) (qg3 t g nc np) := upd_c h2 52 (by rw [hs, h2 52 (by omega)])
  have h4 : eq54 (qg4 t f nc np) (qg4 t g nc np) := by
    intro k hk; unfold qg4 upto
    by_cases e : k < 32
    · rw [if_pos e, if_pos e]; show (if hasB (qg3 t f nc np 52) (k % 4) then 0 else qg3 t f nc np k) = (if hasB (qg3 t g nc np 52) (k % 4) then 0 else qg3 t g nc np k); rw [h3 52 (by omega), h3 k hk]
    · rw [if_neg e, if_neg e, h3 k hk]
  exact upd_c h4 53 (by rw [h4 53 (by omega)])
theorem nQ_c {t f g : Nat → Int32} {nc np : Nat} (hc : nc ≤ 4) (hp : np ≤ 8) (h : eq54 f g) : ∀ k, eq54 (nQ t nc np f k) (nQ t nc np g k)
  | 0 => h
  | k + 1 => qgF_c hc hp (nQ_c hc hp h k)
def begN (t n : Nat → Int32) : Nat → Int32 := rng (va_cpy t (va_cpy t n 22 0 32) 5 32 4) (fun k => if inB (nI k) 44 51 then -1 else 0) 36 54
def begI (i : Nat → Int32) : Nat → Int32 := upd (upd (upd i 5 0) 13 0) 15 0
def begK (kp : Nat → Int32) : Nat → Int32 := upd (upd kp 0 0) 1 0
abbrev okFd (sz : Nat) (x : Int32) : Prop := inB x 0 255 ∧ ¬ sz = 240
def fdR (sz : Nat) (x : Int32) : Int32 := if ¬ inB x 0 255 then cOUT else if sz = 240 then cFUL else nI (sz + 1)
/-! what to borrow for least -/
abbrev mayT (t n : Nat → Int32) (p c : Nat) : Prop := ¬ hasB (n 52) c ∧ ¬ hasB (n (36 + p)) c ∧ 0 < t (9 + c) - n (4 * p + c) ∧ t (9 + c) - n (4 * p + c) ≤ n (32 + c)
def tkS (t n : Nat → Int32) (p s : Nat) : Nat → Int32
  | 0 => 0
  | c + 1 => if hasB (nI s) c then tkS t n p s c + (if mayT t n p c then t (9 + c) - n (4 * p + c) else 1000000) else tkS t n p s c
def tkD (t n : Nat → Int32) (p s : Nat) : Nat → Nat → Int32
  | 0 => n
  | c + 1 => if hasB (nI s) c then upd (tkD t n p s c) (4 * p + c) (t (9 + c)) else tkD t n p s c
def tkE (t n f : Nat → Int32) (p s : Nat) : Nat → Nat → Int32
  | 0 => f
  | c + 1 => if hasB (nI s) c then upd (tkE t n f p s c) (4 * p + c) (t (9 + c)) else tkE t n f p s c
theorem tkE_c {t n f : Nat → Int32} (h : eq54 f n) (p s : Nat) : ∀ c, eq54 (tkE t n f p s c) (tkD t n p s c)
  | 0 => h
  | c + 1 => by
    have ih := tkE_c (t := t) h p s c
    show eq54 (if _ then _ else _) (if _ then _ else _)
    by_cases e : hasB (nI s) c
    · rw [if_pos e, if_pos e]; exact upd_c ih _ rfl
    · rw [if_neg e, if_neg e]; exact ih
theorem tkD_c {t f g : Nat → Int32} (h : eq54 f g) (p s : Nat) : ∀ c, eq54 (tkD t f p s c) (tkD t g p s c)
  | 0 => h
  | c + 1 => by
    have ih := tkD_c (t := t) h p s c
    show eq54 (if _ then _ else _) (if _ then _ else _)
    by_cases e : hasB (nI s) c
    · rw [if_pos e, if_pos e]; exact upd_c ih _ rfl
    · rw [if_neg e, if_neg e]; exact ih
abbrev lsC (t n : Nat → Int32) (nc p : Nat) (sx : Int32) (s : Nat) (f : Int32) : Prop := tkS t n p s nc < f ∧ sx ≤ stU t (tkD t n p s nc) p nc
def lsF (t n : Nat → Int32) (nc p : Nat) (sx : Int32) : Nat → Int32
  | 0 => 1000000
  | s + 1 => if lsC t n nc p sx s (lsF t n nc p sx s) then tkS t n p s nc else lsF t n nc p sx s
def lsB (t n : Nat → Int32) (nc p : Nat) (sx : Int32) : Nat → Int32
  | 0 => -1
  | s + 1 => if lsC t n nc p sx s (lsF t n nc p sx s) then nI s else lsB t n nc p sx s
theorem sh1 : ∀ c, c < 5 → (1 : Int32) <<< (nI c &&& 31) = nI (2 ^ c) := by decide +kernel
abbrev wedM (t n : Nat → Int32) (p : Nat) : Prop := ¬ hasB (t 21) p ∧ ¬ n (44 + p) = -1
def leR (t n : Nat → Int32) (nc : Nat) (p sx w : Int32) : Int32 := if ¬ isP t p then cUNK else if ¬ (inB sx 1 36 ∧ inB w 0 1) then cOUT else if wedM t n (cl p) then cNOT else if w = 0 ∨ lsB t n nc (cl p) sx (2 ^ nc) = -1 then lsB t n nc (cl p) sx (2 ^ nc) else lsF t n nc (cl p) sx (2 ^ nc)
/-! rumours -/
def rmL (q : Int32) : Nat → Int64
  | 0 => 1000000000
  | k + 1 => rmL q k * (100 - q).toInt64 / 100
def ruR (x q : Int32) : Int32 := if ¬ (inB x 0 60 ∧ inB q 0 100) then cOUT else (rmL q (cl x)).toInt32
/-! credit -/
def crd (t n : Nat → Int32) (p c : Nat) : Nat → Int32
  | 0 => -1
  | j + 1 => if (j = 0 ∨ mayB t n p c (nI j)) ∧ tm t (upd n (4 * p + c) (n (4 * p + c) + nI j)) p c = 1 then nI j else crd t n p c j
def cdR (t n : Nat → Int32) (p c : Int32) : Int32 := if ¬ (isP t p ∧ isC t c) then cUNK else crd t n (cl p) (cl c) 1000
/-! cards -/
abbrev okCd (t : Nat → Int32) (cm : Nat) (p c q : Int32) : Prop := isP t p ∧ isC t c ∧ inB q 0 12 ∧ ¬ cm = 6
def caR (t : Nat → Int32) (cm : Nat) (p c q : Int32) : Int32 := if ¬ (isP t p ∧ isC t c) then cUNK else if ¬ inB q 0 12 then cOUT else if cm = 6 then cFUL else nI (cm + 1)
def caF (cd : Nat → Int32) (cm : Nat) (p c q v : Int32) : Nat → Int32 := upd (upd (upd (upd cd (4 * cm) p) (4 * cm + 1) c) (4 * cm + 2) q) (4 * cm + 3) v
def grU (r : Int32) (v : Int32) : Nat → Int32
  | 0 => v
  | k + 1 => growI (grU r v k) r
abbrev civB (t : Nat → Int32) (c : Nat) (v : Int32) (q : Nat) : Prop := inB (grU (t 1) v q) (t (9 + c)) (t (13 + c))
abbrev okkB (t cd : Nat → Int32) (p c : Nat) (v : Int32) (k : Nat) : Prop := (cd (4 * k) = nI p ∧ cd (4 * k + 1) = nI c) → (civB t c v (cl (cd (4 * k + 2))) ↔ cd (4 * k + 3) = 1)
def fitB (t cd : Nat → Int32) (p c : Nat) (v : Int32) : Nat → Bool
  | 0 => true
  | k + 1 => fitB t cd p c v k && decide (okkB t cd p c v k)
theorem fitB_f {t cd : Nat → Int32} {p c : Nat} {v : Int32} {k : Nat} (h : ¬ okkB t cd p c v k) : ∀ m, k < m → fitB t cd p c v m = false
  | 0, h0 => absurd h0 (by omega)
  | m + 1, h0 => by
    show (fitB t cd p c v m && decide (okkB t cd p c v m)) = false
    by_cases e : k = m
    · subst e; simp only [Bool.and_eq_false_iff, decide_eq_false_iff_not]; exact Or.inr h
    · rw [fitB_f h m (by omega)]; rfl
def cntU (P : Nat → Bool) : Nat → Int32
  | 0 => 0
  | k + 1 => if P k = true then cntU P k + 1 else cntU P k
def fstU (P : Nat → Bool) : Nat → Int32
  | 0 => -1
  | k + 1 => if P k = true then (if fstU P k = -1 then nI k else fstU P k) else fstU P k
def lstU (P : Nat → Bool) : Nat → Int32
  | 0 => -1
  | k + 1 => if P k = true then nI k else lstU P k
def fitP (t cd : Nat → Int32) (cm p c : Nat) (v : Nat) : Bool := fitB t cd p c (nI v) cm
def haR (t cd : Nat → Int32) (cm : Nat) (p c w : Int32) : Int32 := if ¬ (isP t p ∧ isC t c) then cUNK else if ¬ inB w 0 2 then cOUT else if w = 0 then cntU (fitP t cd cm (cl p) (cl c)) 100 else if w = 1 then fstU (fitP t cd cm (cl p) (cl c)) 100 else lstU (fitP t cd cm (cl p) (cl c)) 100
def civP (t cd : Nat → Int32) (cm p c q v : Nat) : Bool := fitP t cd cm p c v && decide (civB t c (nI v) q)
def lkC (t cd : Nat → Int32) (cm p c q : Nat) : Int32 := cntU (civP t cd cm p c q) 100
def lkA (t cd : Nat → Int32) (cm p c : Nat) : Int32 := cntU (fitP t cd cm p c) 100
def lkG (t cd : Nat → Int32) (cm p c q : Nat) : Int32 := if lkA t cd cm p c - lkC t cd cm p c q < lkC t cd cm p c q then lkC t cd cm p c q else lkA t cd cm p c - lkC t cd cm p c q
def lkF (t cd : Nat → Int32) (cm p c : Nat) : Nat → Int32
  | 0 => lkA t cd cm p c
  | q + 1 => lessI (lkF t cd cm p c q) (lkG t cd cm p c q)
def lkW (t cd : Nat → Int32) (cm p c : Nat) : Nat → Int32
  | 0 => -1
  | q + 1 => if lkG t cd cm p c q < lkF t cd cm p c q then nI q else lkW t cd cm p c q
def loR (t cd : Nat → Int32) (cm : Nat) (p c : Int32) : Int32 := if ¬ (isP t p ∧ isC t c) then cUNK else lkW t cd cm (cl p) (cl c) 13
/-! the book, the images -/
abbrev okWr (t : Nat → Int32) (bm : Nat) (p s : Int32) : Prop := isP t p ∧ inB s (-9) 99 ∧ ¬ bm = 20
def wrR (t : Nat → Int32) (bm : Nat) (p s : Int32) : Int32 := if ¬ isP t p then cUNK else if ¬ inB s (-9) 99 then cOUT else if bm = 20 then cFUL else nI (bm + 1)
def juU (t n bk : Nat → Int32) (nc : Nat) : Nat → Nat → Int32
  | 0, _ => -1
  | m + 1, k => if stU t n (cl (bk (2 * k))) nc = bk (2 * k + 1) then juU t n bk nc m (k + 1) else nI k
def sdR (i : Nat → Int32) (x : Int32) : Int32 := if x < 0 then cOUT else i 8
def kpR (x : Int32) : Int32 := if ¬ inB x 0 1 then cUNK else 1
def kpF (n im : Nat → Int32) (s : Int32) (k : Nat) : Nat → Int32 := upd (va_cpy n im 0 (55 * k) 54) (55 * k + 54) s
abbrev okGb (kp : Nat → Int32) (x : Int32) : Prop := inB x 0 1 ∧ ¬ kp (cl x) = 0
def gbR (kp : Nat → Int32) (x : Int32) : Int32 := if ¬ inB x 0 1 then cUNK else if kp (cl x) = 0 then cNOT else 1
theorem bI_1 {P : Prop} [Decidable P] : bI P = 1 ↔ P := by
  unfold bI; by_cases h : P
  · rw [if_pos h]; exact ⟨fun _ => h, fun _ => rfl⟩
  · rw [if_neg h]; exact ⟨fun e => absurd e (by decide), fun e => absurd e h⟩
