/-! before the first town: nobody is there, no creditor is there -/
def nob (t : Nat → Int32) : Prop := t 0 = 0 ∧ t 3 = nI 0 ∧ t 4 = nI 0
def N0 : Nat → Int32 := begN (fun _ => 0) (fun _ => 0)
theorem nobC {t : Nat → Int32} (h : nob t) {c : Int32} : ¬ isC t c := fun q => by
  have q : inB c 0 (t 3 - 1) := q
  rw [h.2.1] at q
  exact absurd (Int32.le_trans q.1 q.2) (by decide)
theorem nobP {t : Nat → Int32} (h : nob t) {p : Int32} : ¬ isP t p := nobody h.2.2
theorem z_cr {t : Nat → Int32} (h : nob t) {n : Nat → Int32} {np : Nat} {c x : Int32} : crR t n np c x = cUNK := if_pos (nobC h)
theorem z_pe {t : Nat → Int32} (h : nob t) {n : Nat → Int32} {nc : Nat} {p x : Int32} : peR t n nc p x = cUNK := if_pos (nobP h)
theorem z_ow {t : Nat → Int32} (h : nob t) {n : Nat → Int32} {p c : Int32} : owR t n p c = cUNK := if_neg (fun q => nobP h q.1)
theorem z_te {t : Nat → Int32} (h : nob t) {n : Nat → Int32} {p c : Int32} : teR t n p c = cUNK := if_neg (fun q => nobP h q.1)
theorem z_bo {t : Nat → Int32} (h : nob t) {n : Nat → Int32} {p c k : Int32} : borR t n p c k = cUNK := if_pos (fun q => nobP h q.1)
theorem z_bo' {t : Nat → Int32} (h : nob t) {n : Nat → Int32} {p c k : Int32} : ¬ okBor t n p c k := fun q => nobP h q.1
theorem z_pa {t : Nat → Int32} (h : nob t) {n : Nat → Int32} {p c k : Int32} : payR t n p c k = cUNK := if_pos (fun q => nobP h q.1)
theorem z_pa' {t : Nat → Int32} (h : nob t) {n : Nat → Int32} {p c k : Int32} : ¬ okPay t n p c k := fun q => nobP h q.1
theorem z_rf {t : Nat → Int32} (h : nob t) {n : Nat → Int32} {x : Int32} : rfR t n x = if ¬ inB x 1 20 then cOUT else cNOT := by
  unfold rfR; rw [if_pos h.1]
theorem z_rf' {t : Nat → Int32} (h : nob t) {n : Nat → Int32} {x : Int32} : ¬ rfR t n x = 0 := by
  rw [z_rf h]
  by_cases e : ¬ inB x 1 20
  · rw [if_pos e]; decide
  · rw [if_neg e]; decide
theorem z_qu {t : Nat → Int32} (h : nob t) {n : Nat → Int32} {nc np : Nat} {x : Int32} : quR t n nc np x = if ¬ inB x 1 20 then cOUT else cNOT := by
  unfold quR; rw [if_pos (z_rf' h), z_rf h]
theorem z_dr {t : Nat → Int32} (h : nob t) {n : Nat → Int32} {nc np sd : Nat} {x : Int32} : drR t n nc np sd x = if ¬ inB x 1 20 then cOUT else cNOT := by
  unfold drR; rw [if_pos (z_rf' h), z_rf h]
theorem z_we {t : Nat → Int32} (h : nob t) {n : Nat → Int32} {nc : Nat} {g m : Int32} : weR t n nc g m = cUNK := if_pos (fun q => nobP h q.1.1)
theorem z_dv {t : Nat → Int32} (h : nob t) {n : Nat → Int32} {g : Int32} : dvR t n g = cUNK := if_pos (fun q => nobP h q.1)
theorem z_jo {t : Nat → Int32} (h : nob t) {n : Nat → Int32} {nc : Nat} {g m : Int32} : joR t n nc g m = cUNK := if_pos (fun q => nobP h q.1.1)
theorem z_le {t : Nat → Int32} (h : nob t) {n : Nat → Int32} {nc : Nat} {p x w : Int32} : leR t n nc p x w = cUNK := if_pos (nobP h)
theorem z_pl {t : Nat → Int32} (h : nob t) {n : Nat → Int32} {p c x w : Int32} : plR t n p c x w = cUNK := if_pos (fun q => nobP h q.1)
theorem z_cd {t : Nat → Int32} (h : nob t) {n : Nat → Int32} {p c : Int32} : cdR t n p c = cUNK := if_pos (fun q => nobP h q.1)
theorem z_ca {t : Nat → Int32} (h : nob t) {cm : Nat} {p c q : Int32} : ¬ okCd t cm p c q := fun z => nobP h z.1
theorem z_wr {t : Nat → Int32} (h : nob t) {bm : Nat} {p s : Int32} : ¬ okWr t bm p s := fun z => nobP h z.1
theorem z_nQ {t : Nat → Int32} {n : Nat → Int32} (h2 : n 52 = 0) : ∀ k, nQ t 0 0 n k 52 = 0
  | 0 => h2
  | k + 1 => by
    show qgF t (nQ t 0 0 n k) 0 0 52 = 0
    rw [qgF_52, z_nQ h2 k]
    show ((0 : Int32) ||| (0 : Int32)) = 0
    decide
theorem z_fa {t : Nat → Int32} {n : Nat → Int32} (h2 : n 52 = 0) : (qgF t n 0 0 52 &&& (n 52 ^^^ (-1))) = 0 := by
  rw [qgF_52, h2]
  show (((0 : Int32) ||| (0 : Int32)) &&& ((0 : Int32) ^^^ (-1))) = 0
  decide
theorem N0_52 : N0 52 = 0 := by unfold N0; rw [begN_hi (by omega) (by omega), if_neg (by omega)]
theorem N0_53 : N0 53 = 0 := by unfold N0; rw [begN_hi (by omega) (by omega), if_neg (by omega)]
theorem N0_m {p : Nat} (h : p < 8) : N0 (44 + p) = -1 := by unfold N0; rw [begN_hi (by omega) (by omega), if_pos (by omega)]
theorem N0_lo {k : Nat} (h : k < 32) : N0 k = 0 := by unfold N0; rw [begN_lo h]
theorem N0_w : wedS N0 8 = 0 := by
  have key : ∀ k, k ≤ 8 → wedS N0 k = 0 := by
    intro k
    induction k with
    | zero => intro _; rfl
    | succ k ih =>
      intro hk
      show (if wedP N0 k = true then _ else setU (wedP N0) k) = 0
      rw [if_neg (by unfold wedP; rw [decide_eq_true_eq]; exact fun q => q (N0_m (by omega)))]
      exact ih (by omega)
  exact key 8 (Nat.le_refl _)
theorem owU_c {f g : Nat → Int32} {p : Nat} (h : ∀ k, k < 32 → f k = g k) (hp : p < 8) : owU f p 4 = owU g p 4 := sumU_c (fun c hc => h _ (by omega))
theorem N0_all : allU N0 8 = allU (fun _ => 0) 8 := sumU_c (fun p hp => owU_c (fun k hk => N0_lo hk) hp)
theorem z_to {i t : Nat → Int32} {x : Int32} : toldC i t (fun _ => 0) 0 x = toldR i t N0 x := by
  unfold toldC
  by_cases e : x = 8
  · rw [if_pos e, e]
    show (0 : Int32) = wedS N0 8
    exact N0_w.symm
  · rw [if_neg e]
    unfold toldR
    rw [N0_53, N0_52, N0_all, if_neg e]
    simp only [e, if_false]
