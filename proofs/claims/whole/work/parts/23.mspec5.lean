theorem i64_32 (x : Int32) : x.toInt64.toInt32 = x := by
  simp
theorem addm1 (x : Int32) : x + (-1) = x - 1 := (Int32.sub_eq_add_neg x 1).symm
theorem dsc_t {a : Nat} (ha : a < 1073741824) : nI a - 1 < 0 ↔ a = 0 := by
  rw [Int32.lt_iff_toInt_lt, show (1 : Int32) = nI 1 from rfl, pk_sub_toInt ha (by decide), show (0 : Int32).toInt = 0 from rfl]; omega
theorem dsc_p {a : Nat} (h : 0 < a) : nI a - 1 = nI (a - 1) := pk_sub (b := 1) h
abbrev crdC (t n : Nat → Int32) (p c j : Nat) : Prop := (j = 0 ∨ mayB t n p c (nI j)) ∧ tm t (upd n (4 * p + c) (n (4 * p + c) + nI j)) p c = 1
theorem crd_s (t n : Nat → Int32) (p c j : Nat) : crd t n p c (j + 1) = if crdC t n p c j then nI j else crd t n p c j := rfl
/-! plans -/
def pbR (t pt : Nat → Int32) (c : Nat) (o r : Int32) : Int32 := if inB (growI r (t 1)) (t (9 + c)) (t (13 + c)) then o - r + pt (cl (growI r (t 1))) else 1000000
def loHi (t : Nat → Int32) (c : Nat) : Prop := ∃ a b : Nat, t (9 + c) = nI a ∧ t (13 + c) = nI b ∧ a ≤ 999 ∧ b ≤ 999
def plB (t pt : Nat → Int32) (c : Nat) : Nat → Int32
  | 0 => 1000000
  | v + 1 => lessI (plB t pt c v) (pbR t pt c 0 (nI v))
def plG (t pt : Nat → Int32) (c v : Nat) : Int32 := if plB t pt c (v + 1) < 500000 then plB t pt c (v + 1) + nI v else 1000000
def plT (t : Nat → Int32) (c : Nat) : Nat → Nat → Int32
  | 0 => fun _ => 0
  | q + 1 => plG t (plT t c q) c
theorem pbR_c {t f g : Nat → Int32} {c : Nat} (hl : loHi t c) (h : ∀ v, v < 1000 → f v = g v) (o r : Int32) : pbR t f c o r = pbR t g c o r := by
  unfold pbR
  by_cases e : inB (growI r (t 1)) (t (9 + c)) (t (13 + c))
  · rw [if_pos e, if_pos e]
    obtain ⟨a, b, ha, hb, ha2, hb2⟩ := hl
    obtain ⟨j, h1, h2, h3⟩ := inB_rng ha hb (by omega) (by omega) e
    rw [h3, cl_nI (by omega), h j (by omega)]
  · rw [if_neg e, if_neg e]
theorem plB_c {t f g : Nat → Int32} {c : Nat} (hl : loHi t c) (h : ∀ v, v < 1000 → f v = g v) : ∀ v, plB t f c v = plB t g c v
  | 0 => rfl
  | v + 1 => by
    show lessI (plB t f c v) (pbR t f c 0 (nI v)) = lessI (plB t g c v) (pbR t g c 0 (nI v))
    rw [plB_c hl h v, pbR_c hl h]
theorem plG_c {t f g : Nat → Int32} {c : Nat} (hl : loHi t c) (h : ∀ v, v < 1000 → f v = g v) (v : Nat) : plG t f c v = plG t g c v := by
  unfold plG; rw [plB_c hl h]
def plF (t pt : Nat → Int32) (c : Nat) (o : Int32) (mn : Nat) : Nat → Int32
  | 0 => 500000
  | i + 1 => lessI (plF t pt c o mn i) (pbR t pt c o (nI mn - nI i))
def plL (t pt : Nat → Int32) (c : Nat) (o : Int32) (mn : Nat) : Nat → Int32
  | 0 => -1
  | i + 1 => if pbR t pt c o (nI mn - nI i) < plF t pt c o mn i then o - (nI mn - nI i) else plL t pt c o mn i
theorem plF_c {t f g : Nat → Int32} {c : Nat} (hl : loHi t c) (h : ∀ v, v < 1000 → f v = g v) (o : Int32) (mn : Nat) : ∀ i, plF t f c o mn i = plF t g c o mn i
  | 0 => rfl
  | i + 1 => by
    show lessI (plF t f c o mn i) (pbR t f c o _) = lessI (plF t g c o mn i) (pbR t g c o _)
    rw [plF_c hl h o mn i, pbR_c hl h]
theorem plL_c {t f g : Nat → Int32} {c : Nat} (hl : loHi t c) (h : ∀ v, v < 1000 → f v = g v) (o : Int32) (mn : Nat) : ∀ i, plL t f c o mn i = plL t g c o mn i
  | 0 => rfl
  | i + 1 => by
    show (if pbR t f c o _ < plF t f c o mn i then _ else plL t f c o mn i) = (if pbR t g c o _ < plF t g c o mn i then _ else plL t g c o mn i)
    rw [plF_c hl h o mn i, pbR_c hl h, plL_c hl h o mn i]
def plV (t pt : Nat → Int32) (c : Nat) (o w : Int32) (mn : Nat) : Int32 := if plL t pt c o mn (mn + 1) = -1 then -1 else if w = 0 then plF t pt c o mn (mn + 1) else plL t pt c o mn (mn + 1)
def plR (t n : Nat → Int32) (p c x w : Int32) : Int32 := if ¬ (isP t p ∧ isC t c) then cUNK else if ¬ (inB x 1 8 ∧ inB w 0 1) then cOUT else if hasB (n 52) (cl c) then -1 else plV t (plT t (cl c) (cl x - 1)) (cl c) (n (4 * cl p + cl c)) w (min (cl (n (4 * cl p + cl c))) 999)
theorem less_mn {o : Nat} (h : o < 2147483648) : lessI (nI o) 999 = nI (min o 999) := by
  show (if nI o < nI 999 then nI o else nI 999) = nI (min o 999)
  by_cases e : o < 999
  · rw [if_pos ((nI_ltI h (by decide : 999 < 2147483648)).mpr e), Nat.min_eq_left (by omega)]
  · rw [if_neg (fun q => e ((nI_ltI h (by decide : 999 < 2147483648)).mp q)), Nat.min_eq_right (by omega)]
theorem mn_lt {mn i : Nat} (hm : mn < 1073741824) (hi : i < 1073741824) : nI mn - nI i < 0 ↔ mn < i := by
  rw [Int32.lt_iff_toInt_lt, pk_sub_toInt hm hi, show (0 : Int32).toInt = 0 from rfl]; omega
theorem mn_dec (mn i : Nat) : nI mn - nI i + (-1) = nI mn - nI (i + 1) := by
  rw [nI_succ, addm1, Int32.sub_sub]
theorem cpyN {F g : Nat → Int32} {v : Nat} (h : v < 1000) : va_cpy F g 0 0 1000 v = F v := (if_pos ⟨by omega, by omega⟩).trans (by congr 1; omega)
