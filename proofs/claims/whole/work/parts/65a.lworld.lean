/-! the class's world by the reference's names -/
theorem dR_n {G : gG} {a : Nat → Nat} {ra : Nat → Nat → Nat} {nR : Nat} {s : RSt} {em : Int32} {i eo es t n d tx rt rn cd su bk co mo m0 m1 kp n2 : Nat → Int32} {rg : Nat → Nat → Int32} (h : eq54 n n2) : wQ (dR G a ra nR s em i eo es t n d tx rt rn cd su bk co mo m0 m1 kp rg) (dR G a ra nR s em i eo es t n2 d tx rt rn cd su bk co mo m0 m1 kp rg) :=
  wQ_c (cQ_e rfl) (wQ_c (cQ_e rfl) (wQ_c (cQ_e rfl) (wQ_c (cQ_e rfl) (wQ_c (cQ_e rfl) (wQ_c (cQ_e (by rw [h 52 (by omega), h 53 (by omega)])) (wQ_c (cQ_row (fun k hk => h k (by omega))) (wQ_c (cQ_row (fun k hk => h _ (by omega))) (wQ_c (cQ_row (fun k hk => h _ (by omega))) (wQ_c (cQ_row (fun k hk => h _ (by omega))) (wQ_rf _))))))))))
theorem dR_i {G : gG} {a : Nat → Nat} {ra : Nat → Nat → Nat} {nR : Nat} {s : RSt} {em : Int32} {i eo es t n d tx rt rn cd su bk co mo m0 m1 kp i2 : Nat → Int32} {rg : Nat → Nat → Int32} (h5 : i 5 = i2 5) (h8 : i 8 = i2 8) (h10 : i 10 = i2 10) (h13 : i 13 = i2 13) (h15 : i 15 = i2 15) : dR G a ra nR s em i eo es t n d tx rt rn cd su bk co mo m0 m1 kp rg = dR G a ra nR s em i2 eo es t n d tx rt rn cd su bk co mo m0 m1 kp rg := by
  unfold dR
  rw [h5, h8, h10, h13, h15]
/-- what holds of both between two calls, once a town is told; past and images stand as the state does -/
def Past (t ps : Nat → Int32) (nc np un : Nat) : Prop := ∀ k, k < un → okS t (fun x => ps (54 * k + x)) nc np
def Imgs (t im kp m0 m1 eo : Nat → Int32) (nc np : Nat) : Prop :=
  (kp 0 = 0 ∨ (kp 0 = 1 ∧ eq54 m0 im ∧ okS t m0 nc np ∧ eo 1 = im 54 ∧ ¬ im 54 < 0)) ∧ (kp 1 = 0 ∨ (kp 1 = 1 ∧ eq54 m1 (fun k => im (55 + k)) ∧ okS t m1 nc np ∧ eo 2 = im 109 ∧ ¬ im 109 < 0))
def Crds (i cd : Nat → Int32) : Prop := ∃ cm : Nat, i 13 = nI cm ∧ cm ≤ 6 ∧ (∀ k, k < cm → ∃ q, q ≤ 12 ∧ cd (4 * k + 2) = nI q) ∧ ∀ k, k < cm → cd (4 * k + 3) = 0 ∨ cd (4 * k + 3) = 1
def Bks (i bk : Nat → Int32) : Prop := ∃ bm : Nat, i 15 = nI bm ∧ bm ≤ 20 ∧ ∀ k, k < bm → ∃ p, p < 8 ∧ bk (2 * k) = nI p
def Txt (i tx : Nat → Int32) : Prop := ∃ sz : Nat, i 10 = nI sz ∧ sz ≤ 240 ∧ okTx tx sz
/-- phase 1: a town was told -/
def Inv1 (i t n ps im kp tx cd bk : Nat → Int32) (s : RSt) (eo tc m0 m1 : Nat → Int32) (rg : Nat → Nat → Int32) : Prop :=
  s.2.2 = i 11 ∧ Crds i cd ∧ Bks i bk ∧ Txt i tx ∧ (∃ sd : Nat, i 8 = nI sd ∧ sd < 2147483648) ∧
  ∃ nc np un od : Nat, eqN tc t nc ∧ okT t nc np ∧ t 0 = 1 ∧ okS t n nc np ∧ i 5 = nI un ∧ un ≤ 30 ∧ eo 0 = nI od ∧ od < 30 ∧ RING rg ps od un ∧ Past t ps nc np un ∧ Imgs t im kp m0 m1 eo nc np
/-- phase 0: none was told yet -/
def Inv0 (i t n im kp tx : Nat → Int32) (s : RSt) (eo tc nk m0 m1 : Nat → Int32) : Prop :=
  s.2.2 = i 11 ∧ i 13 = nI 0 ∧ i 15 = nI 0 ∧ Txt i tx ∧ (∃ sd : Nat, i 8 = nI sd ∧ sd < 2147483648) ∧ i 5 = nI 0 ∧ (∃ od : Nat, eo 0 = nI od ∧ od < 30) ∧
  nob t ∧ (∀ k, tc k = 0) ∧ (∀ k, t k = 0) ∧ nk = (fun _ => 0) ∧ n = N0 ∧
  (kp 0 = 0 ∨ (kp 0 = 1 ∧ m0 = (fun _ => 0) ∧ eq54 N0 im ∧ eo 1 = im 54 ∧ ¬ im 54 < 0)) ∧ (kp 1 = 0 ∨ (kp 1 = 1 ∧ m1 = (fun _ => 0) ∧ eq54 N0 (fun k => im (55 + k)) ∧ eo 2 = im 109 ∧ ¬ im 109 < 0))
