/-! deeds: what they make of a state -/
def eq54 (f g : Nat → Int32) : Prop := ∀ k, k < 54 → f k = g k
theorem cpy54 (f g : Nat → Int32) : eq54 (va_cpy f g 0 0 54) f := fun k hk => (if_pos (by omega)).trans (by congr 1; omega)
theorem upd_c {f g : Nat → Int32} (h : eq54 f g) (j : Nat) {a b : Int32} (hab : a = b) : eq54 (upd f j a) (upd g j b) := by
  intro k hk; unfold upd
  by_cases e : k = j
  · rw [if_pos e, if_pos e, hab]
  · rw [if_neg e, if_neg e, h k hk]
theorem tm_c {t f g : Nat → Int32} (h : eq54 f g) {p c : Nat} (hp : p < 8) (hc : c < 4) : tm t f p c = tm t g p c := by
  unfold tm; rw [h 52 (by omega), h (36 + p) (by omega), h (4 * p + c) (by omega)]
theorem stU_c {t f g : Nat → Int32} (h : eq54 f g) {p n : Nat} (hp : p < 8) (hn : n ≤ 4) : stU t f p n = stU t g p n :=
  sumU_c (fun c hc => by rw [tm_c h hp (by omega)])
theorem wdU_c {f g : Nat → Int32} (h : eq54 f g) {a b : Nat} (ha : a < 8) (hb : b < 8) : ∀ c, c ≤ 4 → eq54 (wdU f a b c) (wdU g a b c)
  | 0, _ => h
  | c + 1, hc => by
    have ih := wdU_c h ha hb c (by omega)
    exact upd_c (upd_c ih _ (by rw [ih (4 * a + c) (by omega), ih (4 * b + c) (by omega)])) _ rfl
theorem wedF_c {f g : Nat → Int32} (h : eq54 f g) {a b : Nat} (ha : a < 8) (hb : b < 8) : eq54 (wedF f a b) (wedF g a b) := by
  have ih := wdU_c h ha hb 4 (by omega)
  exact upd_c (upd_c (upd_c (upd_c ih _ (by rw [ih (36 + a) (by omega), ih (36 + b) (by omega)])) _ rfl) _ rfl) _ rfl
def pay1 (t n : Nat → Int32) (p c : Nat) (k : Int32) : Nat → Int32 := upd n (36 + p) (n (36 + p) ||| (if t 2 * n (4 * p + c) < k * 100 then 1 <<< (nI c &&& 31) else 0))
def pay2 (t n : Nat → Int32) (p c : Nat) (k : Int32) : Nat → Int32 := upd (pay1 t n p c k) (4 * p + c) (n (4 * p + c) - k)
def payF (t n : Nat → Int32) (p c : Nat) (k : Int32) : Nat → Int32 := upd (pay2 t n p c k) (32 + c) (lessI (pay2 t n p c k (32 + c) + k) 9999)
abbrev okPay (t n : Nat → Int32) (p c k : Int32) : Prop := isP t p ∧ isC t c ∧ inB k 1 9999 ∧ k ≤ n (4 * cl p + cl c)
def payR (t n : Nat → Int32) (p c k : Int32) : Int32 := if ¬ (isP t p ∧ isC t c) then cUNK else if ¬ inB k 1 9999 then cOUT else if ¬ k ≤ n (4 * cl p + cl c) then cNOT else n (4 * cl p + cl c) - k
def rfR (t n : Nat → Int32) (x : Int32) : Int32 := if ¬ inB x 1 20 then cOUT else if t 0 = 0 then cNOT else if 9000 < n 53 then cFUL else 0
theorem rfR_0 {t n : Nat → Int32} {x : Int32} (h : rfR t n x = 0) : inB x 1 20 := by
  apply Decidable.of_not_not
  intro q
  rw [rfR, if_pos q] at h
  exact absurd h (by decide)
/-! the failed: a set of four -/
def lt16 (x : Int32) : Prop := ∃ k : Nat, k < 16 ∧ x = nI k
def popI (x : Int32) : Int32 := nI (cl x % 2 + cl x / 2 % 2 + cl x / 4 % 2 + cl x / 8 % 2)
def itc : Nat → Int32 → Int32
  | 0, x => x
  | n + 1, x => itc n x &&& (itc n x - 1)
theorem itc_4 : ∀ k, k < 16 → itc 4 (nI k) = 0 := by decide +kernel
theorem itc_p : ∀ k, k < 16 → ∀ i, i < 5 → itc i (nI k) = 0 → (∀ j, j < i → ¬ itc j (nI k) = 0) → nI i = popI (nI k) := by decide +kernel
theorem lt16_or {x y : Int32} (hx : lt16 x) (hy : lt16 y) : lt16 (x ||| y) := by
  obtain ⟨a, ha, rfl⟩ := hx
  obtain ⟨b, hb, rfl⟩ := hy
  have key : ∀ a, a < 16 → ∀ b, b < 16 → ∃ k, k < 16 ∧ nI a ||| nI b = nI k := by decide +kernel
  exact key a ha b hb
theorem lt16_and {x y : Int32} (hx : lt16 x) (hy : lt16 y) : lt16 (x &&& (y ^^^ (-1))) := by
  obtain ⟨a, ha, rfl⟩ := hx
  obtain ⟨b, hb, rfl⟩ := hy
  have key : ∀ a, a < 16 → ∀ b, b < 16 → ∃ k, k < 16 ∧ nI a &&& (nI b ^^^ (-1)) = nI k := by decide +kernel
  exact key a ha b hb
theorem lt16_bit {c : Nat} (h : c < 4) : lt16 (bitI c) := by
  have key : ∀ c, c < 4 → ∃ k, k < 16 ∧ bitI c = nI k := by decide +kernel
  exact key c h
theorem lt16_setU {P : Nat → Bool} : ∀ n, n ≤ 4 → lt16 (setU P n)
  | 0, _ => ⟨0, by decide, rfl⟩
  | n + 1, h => by
    show lt16 (if P n = true then setU P n ||| bitI n else setU P n)
    by_cases hp : P n = true
    · rw [if_pos hp]; exact lt16_or (lt16_setU n (by omega)) (lt16_bit (by omega))
    · rw [if_neg hp]; exact lt16_setU n (by omega)
theorem qg2_52 (t f : Nat → Int32) : qg2 t f 52 = f 52 := by
  unfold qg2; rw [rng_out (by omega)]; unfold qg1; rw [upto_at _ _ (by omega)]
theorem qgF_52 (t f : Nat → Int32) (nc np : Nat) : qgF t f nc np 52 = f 52 ||| soursU t (qg2 t f) np nc := by
  unfold qgF; rw [upd_ne (by omega)]; unfold qg4; rw [upto_at _ _ (by omega)]; unfold qg3; rw [upd_at, qg2_52]
theorem lt16_qgF {t f : Nat → Int32} {nc np : Nat} (hc : nc ≤ 4) (h : lt16 (f 52)) : lt16 (qgF t f nc np 52) := by
  rw [qgF_52]; exact lt16_or h (lt16_setU nc hc)
/-! several quarters -/
def nQ (t : Nat → Int32) (nc np : Nat) (n : Nat → Int32) : Nat → Nat → Int32
  | 0 => n
  | k + 1 => qgF t (nQ t nc np n k) nc np
def unQ (un : Nat) : Nat → Nat
  | 0 => un
  | k + 1 => rmU (unQ un k)
def psQ (t : Nat → Int32) (nc np : Nat) (n ps : Nat → Int32) (un : Nat) : Nat → Nat → Int32
  | 0 => ps
  | k + 1 => rmP (nQ t nc np n k) (psQ t nc np n ps un k) (unQ un k)
theorem unQ_le {un : Nat} (h : un ≤ 30) : ∀ k, unQ un k ≤ 30
  | 0 => h
  | k + 1 => rmU_le (unQ_le h k)
theorem lt16_nQ {t n : Nat → Int32} {nc np : Nat} (hc : nc ≤ 4) (h : lt16 (n 52)) : ∀ k, lt16 (nQ t nc np n k 52)
  | 0 => h
  | k + 1 => lt16_qgF hc (lt16_nQ hc h k)
def quR (t n : Nat → Int32) (nc np : Nat) (x : Int32) : Int32 := if ¬ rfR t n x = 0 then rfR t n x else popI (nQ t nc np n (cl x) 52 &&& (n 52 ^^^ (-1)))
def okWed (t n : Nat → Int32) (g m : Int32) : Prop := isG t g ∧ isM t m ∧ n (44 + cl g) = -1 ∧ n (44 + cl m) = -1
def weR (t n : Nat → Int32) (nc : Nat) (g m : Int32) : Int32 := if ¬ (isG t g ∧ isM t m) then cUNK else if ¬ (n (44 + cl g) = -1 ∧ n (44 + cl m) = -1) then cNOT else stU t (wedF n (cl g) (cl m)) (cl g) nc + 10
def mateOK (n : Nat → Int32) : Prop := ∀ p, p < 8 → n (44 + p) = -1 ∨ ∃ q, q < 8 ∧ n (44 + p) = nI q
def dvU (f : Nat → Int32) (g m : Nat) : Nat → Nat → Int32
  | 0 => f
  | c + 1 => upd (upd (dvU f g m c) (4 * m + c) (dvU f g m c (4 * g + c) / 2)) (4 * g + c) (upd (dvU f g m c) (4 * m + c) (dvU f g m c (4 * g + c) / 2) (4 * g + c) - dvU f g m c (4 * g + c) / 2)
def dv1 (f : Nat → Int32) (g m : Nat) : Nat → Int32 := upd (dvU f g m 4) (36 + m) (dvU f g m 4 (36 + g))
def divF (f : Nat → Int32) (g m : Nat) : Nat → Int32 := upd (upd (dv1 f g m) (44 + g) (-1)) (44 + m) (-1)
def dvR (t n : Nat → Int32) (g : Int32) : Int32 := if ¬ isG t g then cUNK else if n (44 + cl g) = -1 then cNOT else owU (divF n (cl g) (cl (n (44 + cl g)))) (cl (n (44 + cl g))) 4
/-! draws -/
def nxtN (sd : Nat) : Nat := (sd * 1103515245 + 12345) % 2147483648
def drN (sd k : Nat) : Nat := nxtN sd / 65536 % k
theorem nxtN_lt (sd : Nat) : nxtN sd < 2147483648 := Nat.mod_lt _ (by decide)
theorem draw_eq {sd : Nat} (h : sd < 2147483648) : ((nI sd).toInt64 * 1103515245 + 12345) - ((nI sd).toInt64 * 1103515245 + 12345) / 2147483648 * 2147483648 = (nI (nxtN sd)).toInt64 := by
  rw [nI_l h, nI_l (nxtN_lt sd), show (1103515245 : Int64) = lN 1103515245 from rfl, show (12345 : Int64) = lN 12345 from rfl, show (2147483648 : Int64) = lN 2147483648 from rfl, lN_mul, lN_add]
  exact pk_lRem (by omega) (by decide) (by decide)
theorem draw_eq2 {sd k : Nat} (h : 0 < k) (hk : k < 2147483648) : ((nI (nxtN sd)).toInt64 / 65536 - (nI (nxtN sd)).toInt64 / 65536 / (nI k).toInt64 * (nI k).toInt64).toInt32 = nI (drN sd k) := by
  have h1 := nxtN_lt sd
  rw [nI_l h1, nI_l hk, show (65536 : Int64) = lN 65536 from rfl, pk_lDiv (by omega) (by decide) (by decide), pk_lRem (by omega) h (by omega), lN_i]; rfl
def dfN (t : Nat → Int32) (nc np : Nat) (n : Nat → Int32) (sd : Nat) : Nat → Int32 := if np = 0 then n else if 0 < drN (nxtN (nxtN sd)) 100 ∧ mayB t n (drN sd np) (drN (nxtN sd) nc) (nI (drN (nxtN (nxtN sd)) 100)) then borF n (drN sd np) (drN (nxtN sd) nc) (nI (drN (nxtN (nxtN sd)) 100)) else n
def dfS (np sd : Nat) : Nat := if np = 0 then sd else nxtN (nxtN (nxtN sd))
def sD (np sd : Nat) : Nat → Nat
  | 0 => sd
  | k + 1 => dfS np (sD np sd k)
def nD (t : Nat → Int32) (nc np : Nat) (n : Nat → Int32) (sd : Nat) : Nat → Nat → Int32
  | 0 => n
  | k + 1 => qgF t (dfN t nc np (nD t nc np n sd k) (sD np sd k)) nc np
def psD (t : Nat → Int32) (nc np : Nat) (n ps : Nat → Int32) (sd un : Nat) : Nat → Nat → Int32
  | 0 => ps
  | k + 1 => rmP (nD t nc np n sd k) (psD t nc np n ps sd un k) (unQ un k)
theorem dfS_lt {np sd : Nat} (h : sd < 2147483648) : dfS np sd < 2147483648 := by unfold dfS; split; exact h; exact nxtN_lt _
theorem sD_lt {np sd : Nat} (h : sd < 2147483648) : ∀ k, sD np sd k < 2147483648
  | 0 => h
  | k + 1 => dfS_lt (sD_lt h k)
def drR (t n : Nat → Int32) (nc np sd : Nat) (x : Int32) : Int32 := if ¬ rfR t n x = 0 then rfR t n x else allU (nD t nc np n sd (cl x)) 8
abbrev okUn (un : Nat) (x : Int32) : Prop := inB x 1 30 ∧ cl x ≤ un
def unR (n ps : Nat → Int32) (un : Nat) (x : Int32) : Int32 := if ¬ inB x 1 30 then cOUT else if ¬ cl x ≤ un then cNOT else va_cpy ps n (54 * (un - cl x)) 0 54 53
def joR (t n : Nat → Int32) (nc : Nat) (g m : Int32) : Int32 := if ¬ (isG t g ∧ isM t m) then cUNK else if n (44 + cl g) = -1 ∧ n (44 + cl m) = -1 then stU t (wedF n (cl g) (cl m)) (cl g) nc + 10 else cNOT
theorem drN_lt {sd k : Nat} (h : 0 < k) : drN sd k < k := Nat.mod_lt _ h
theorem ne0_l {k : Nat} (h0 : 0 < k) (hk : k < 2147483648) : ¬ (nI k).toInt64 = 0 := by
  intro h
  rw [nI_l hk, show (0 : Int64) = lN 0 from rfl, pk_lEQ (by omega) (by decide)] at h
  omega
theorem np_0 {t4 : Int32} {np : Nat} (h : t4 = nI np) (hn : np < 2147483648) (c : t4 ≤ 0) : np = 0 := Nat.eq_zero_of_not_pos (fun q => nI_nle q hn (h ▸ c))
theorem np_1 {t4 : Int32} {np : Nat} (h : t4 = nI np) (c : ¬ t4 ≤ 0) : 0 < np := Nat.pos_of_ne_zero (fun q => c (by rw [h, q]; decide))
theorem drI_eq (i : Nat → Int32) (a b c d e f g : Int32) : upd (upd (upd (upd (upd (upd i 5 a) 8 b) 5 c) 8 d) 8 e) 8 f = upd (upd i 5 c) 8 f := by
  funext k; simp only [upd]; by_cases h5 : k = 5 <;> by_cases h8 : k = 8 <;> simp [h5, h8]
theorem drI_eq0 (i : Nat → Int32) (a b c : Int32) : upd (upd (upd i 5 a) 8 b) 5 c = upd (upd i 5 c) 8 b := by
  funext k; simp only [upd]; by_cases h5 : k = 5 <;> by_cases h8 : k = 8 <;> simp [h5, h8]
