/-! what holds of both between two calls -/
theorem mR.toE {l : Launch} {y : MethodName} {wd : List Cond} {rm : Room} {G : gG} {w : va_W} {av : List Value} {r : Int32} (h : mR l y wd rm G w av r) : mE (S := Unit) l y wd rm G w (fun _ => w) av (.returned (some (.int r))) :=
  met_conv h (fun a s q => ⟨q.1, q.2.1, q.2.2.1⟩) (fun a s o t p q => by
    obtain ⟨x, h1, h2, h3⟩ := q
    subst h2
    exact ⟨h1, ⟨(), by rw [h3]; exact p.2.1⟩, by rw [h3]; exact Nat.le_refl _, fun z _ _ => by rw [h3]⟩) (fun q hq => hq.elim)
theorem mX.toE {l : Launch} {y : MethodName} {wd : List Cond} {rm : Room} {G : gG} {w w' : va_W} {av : List Value} {o : Outcome} (h : mX l y wd rm G w w' av o) : mE (S := Unit) l y wd rm G w (fun _ => w') av o :=
  met_conv h (fun a s q => q) (fun a s o t p q => ⟨q.1, ⟨(), q.2.1⟩, q.2.2⟩) (fun q hq => hq)
theorem mE.eqw {S : Type} {l : Launch} {y : MethodName} {wd : List Cond} {rm : Room} {G : gG} {w w2 : va_W} {F F2 : S → va_W} {av : List Value} {o : Outcome} (h : mE l y wd rm G w F av o) (e1 : w = w2) (e2 : ∀ u, F u = F2 u) : mE l y wd rm G w2 F2 av o := by
  obtain rfl : F = F2 := funext e2
  subst e1
  exact h
theorem mX.eqw {l : Launch} {y : MethodName} {wd : List Cond} {rm : Room} {G : gG} {w w2 v v2 : va_W} {av : List Value} {o : Outcome} (h : mX l y wd rm G w v av o) (e1 : w = w2) (e2 : v = v2) : mX l y wd rm G w2 v2 av o := by
  subst e1 e2
  exact h
theorem mR.eqw {l : Launch} {y : MethodName} {wd : List Cond} {rm : Room} {G : gG} {w w2 : va_W} {av : List Value} {r : Int32} (h : mR l y wd rm G w av r) (e1 : w = w2) : mR l y wd rm G w2 av r := by
  subst e1
  exact h
/-- a contract that leaves some world of a kind -/
def mP (l : Launch) (y : MethodName) (wd : List Cond) (rm : Room) (G : gG) (w : va_W) (Ph : va_W → Prop) (av : List Value) (r : Int32) : Prop :=
  mE (S := {w' : va_W // Ph w'}) l y wd rm G w (fun u => u.1) av (.returned (some (.int r)))
theorem mE.toP {S : Type} {l : Launch} {y : MethodName} {wd : List Cond} {rm : Room} {G : gG} {w : va_W} {F : S → va_W} {av : List Value} {r : Int32} {Ph : va_W → Prop} (h : mE l y wd rm G w F av (.returned (some (.int r)))) (hw : ∀ u, ∃ w2, wQ (F u) w2 ∧ Ph w2) : mP l y wd rm G w Ph av r :=
  met_conv h (fun a s q => q) (fun a s o t p q => ⟨q.1, q.2.1.elim (fun u hu => (hw u).elim (fun w2 h2 => ⟨⟨w2, h2.2⟩, hu.wq h2.1⟩)), q.2.2⟩) (fun q hq => hq)
/-- one call of the class, the same call of the reference: one answer, and a world of the kind again -/
def Two (l : Launch) (y9 : MethodName) (wd9 : List Cond) (rm9 : Room) (y10 : MethodName) (wd10 : List Cond) (rm10 : Room) (G : gG) (a b : Nat → Nat) (Ps : va_W → Prop) (w : va_W) (As : List Value) : Prop :=
  ∃ (r : Int32) (Ph : va_W → Prop), mP l y9 wd9 rm9 G w Ph (.ref (b 0) :: As) r ∧ ∀ w1, Ph w1 → w1.map Prod.fst = w.map Prod.fst ∧ (∃ fs, w1[0]? = some (a 0, oA 10 fs)) ∧ mP l y10 wd10 rm10 G w1 Ps (.ref (a 0) :: As) r
theorem two_EE {S9 S10 : Type} {l : Launch} {y9 : MethodName} {wd9 : List Cond} {rm9 : Room} {y10 : MethodName} {wd10 : List Cond} {rm10 : Room} {G : gG} {a b : Nat → Nat} {Ps : va_W → Prop} {mw dw : va_W} {As : List Value} {F9 : S9 → va_W} {F10 : S10 → va_W} {r r2 : Int32}
    (h9 : mE l y9 wd9 rm9 G dw F9 (.ref (b 0) :: As) (.returned (some (.int r)))) (h10 : mE l y10 wd10 rm10 G mw F10 (.ref (a 0) :: As) (.returned (some (.int r2)))) (e : r = r2) (hf : ∀ u, (F9 u).map Prod.fst = dw.map Prod.fst) (h0 : ∃ fs, mw[0]? = some (a 0, oA 10 fs)) (hw : ∀ u v, ∃ w2, wQ (F10 v ++ F9 u) w2 ∧ Ps w2) :
    Two l y9 wd9 rm9 y10 wd10 rm10 G a b Ps (mw ++ dw) As := by
  subst e
  refine ⟨r, fun w1 => ∃ u, w1 = mw ++ F9 u, (h9.appR mw).toP (fun u => ⟨_, wQ_rf _, u, rfl⟩), ?_⟩
  rintro w1 ⟨u, rfl⟩
  obtain ⟨fs, h0⟩ := h0
  exact ⟨by rw [List.map_append, List.map_append, hf u], ⟨fs, app_l h0⟩, (h10.appL (F9 u)).toP (fun v => hw u v)⟩
set_option maxRecDepth 100000 in
theorem dR_dW {G : gG} {a : Nat → Nat} {ra : Nat → Nat → Nat} {nR : Nat} {s : RSt} {em : Int32} {i eo es t n d tx rt rn cd su bk co mo m0 m1 kp : Nat → Int32} {rg : Nat → Nat → Int32} : dW G a ra s em i eo es t n d tx rt rn cd su bk co mo m0 m1 kp ++ rgW G (a 1) ra rg nR = dR G a ra nR s em i eo es t n d tx rt rn cd su bk co mo m0 m1 kp rg := rfl
theorem mR.dR {l : Launch} {y : MethodName} {wd : List Cond} {rm : Room} {G : gG} {av : List Value} {r : Int32} {a : Nat → Nat} {ra : Nat → Nat → Nat} {s : RSt} {em : Int32} {i eo es t n d tx rt rn cd su bk co mo m0 m1 kp : Nat → Int32} (h : mR l y wd rm G (dW G a ra s em i eo es t n d tx rt rn cd su bk co mo m0 m1 kp) av r) (nR : Nat) (rg : Nat → Nat → Int32) : mR l y wd rm G (dR G a ra nR s em i eo es t n d tx rt rn cd su bk co mo m0 m1 kp rg) av r :=
  (h.appL (rgW G (a 1) ra rg nR)).eqw dR_dW
theorem mX.dR {l : Launch} {y : MethodName} {wd : List Cond} {rm : Room} {G : gG} {av : List Value} {o : Outcome} {a : Nat → Nat} {ra : Nat → Nat → Nat} {s s' : RSt} {em em' : Int32} {i eo es t n d tx rt rn cd su bk co mo m0 m1 kp i' eo' es' t' n' d' tx' rt' rn' cd' su' bk' co' mo' m0' m1' kp' : Nat → Int32} (h : mX l y wd rm G (dW G a ra s em i eo es t n d tx rt rn cd su bk co mo m0 m1 kp) (dW G a ra s' em' i' eo' es' t' n' d' tx' rt' rn' cd' su' bk' co' mo' m0' m1' kp') av o) (nR : Nat) (rg : Nat → Nat → Int32) : mX l y wd rm G (dR G a ra nR s em i eo es t n d tx rt rn cd su bk co mo m0 m1 kp rg) (dR G a ra nR s' em' i' eo' es' t' n' d' tx' rt' rn' cd' su' bk' co' mo' m0' m1' kp' rg) av o :=
  (h.appL (rgW G (a 1) ra rg nR)).eqw dR_dW dR_dW
/-! past, images, cards, book, text -/
def Past (t ps : Nat → Int32) (nc np un : Nat) : Prop := ∀ k, k < un → okS t (fun x => ps (54 * k + x)) nc np
def isSd (x : Int32) : Prop := ∃ sd : Nat, x = nI sd ∧ sd < 2147483648
def Imgs (t im kp m0 m1 eo : Nat → Int32) (nc np : Nat) : Prop :=
  (kp 0 = 0 ∨ (eq54 m0 im ∧ okS t m0 nc np ∧ eo 1 = im 54 ∧ isSd (im 54))) ∧ (kp 1 = 0 ∨ (eq54 m1 (fun k => im (55 + k)) ∧ okS t m1 nc np ∧ eo 2 = im 109 ∧ isSd (im 109)))
def Crds (i cd : Nat → Int32) : Prop := ∃ cm : Nat, i 13 = nI cm ∧ cm ≤ 6 ∧ (∀ k, k < cm → ∃ q, q ≤ 12 ∧ cd (4 * k + 2) = nI q) ∧ ∀ k, k < cm → cd (4 * k + 3) = 0 ∨ cd (4 * k + 3) = 1
def Bks (i bk : Nat → Int32) : Prop := ∃ bm : Nat, i 15 = nI bm ∧ bm ≤ 20 ∧ ∀ k, k < bm → ∃ p, p < 8 ∧ bk (2 * k) = nI p
def Txt (i tx : Nat → Int32) : Prop := ∃ sz : Nat, i 10 = nI sz ∧ sz ≤ 240 ∧ okTx tx sz
def IvA (i tx cd bk : Nat → Int32) (s : RSt) : Prop := s.2.2 = i 11 ∧ Crds i cd ∧ Bks i bk ∧ Txt i tx ∧ isSd (i 8)
theorem IvA_c {i i' tx cd bk : Nat → Int32} {s : RSt} (h : IvA i tx cd bk s) (e8 : i' 8 = i 8) (e10 : i' 10 = i 10) (e11 : i' 11 = i 11) (e13 : i' 13 = i 13) (e15 : i' 15 = i 15) : IvA i' tx cd bk s := by
  unfold IvA Crds Bks Txt at h ⊢
  rw [e8, e10, e11, e13, e15]; exact h
theorem IvA_5 {i tx cd bk : Nat → Int32} {s : RSt} (h : IvA i tx cd bk s) (v : Int32) : IvA (upd i 5 v) tx cd bk s := IvA_c h (upd_ne (by decide)) (upd_ne (by decide)) (upd_ne (by decide)) (upd_ne (by decide)) (upd_ne (by decide))
theorem IvA_8 {i tx cd bk : Nat → Int32} {s : RSt} (h : IvA i tx cd bk s) {v : Int32} (hv : isSd v) : IvA (upd i 8 v) tx cd bk s := by
  obtain ⟨h1, ⟨cm, h2⟩, ⟨bm, h3⟩, ⟨sz, h4⟩, -⟩ := h
  exact ⟨h1.trans (upd_ne (by decide)).symm, ⟨cm, (upd_ne (by decide)).trans h2.1, h2.2⟩, ⟨bm, (upd_ne (by decide)).trans h3.1, h3.2⟩, ⟨sz, (upd_ne (by decide)).trans h4.1, h4.2⟩, by rw [upd_at]; exact hv⟩
/-- the town's words, the state and its past, once a town is told -/
def IvT (t tc : Nat → Int32) (nc np : Nat) : Prop := eqN tc t nc ∧ okT t nc np ∧ t 0 = 1
def IvH (i t n ps eo : Nat → Int32) (rg : Nat → Nat → Int32) (nc np un od : Nat) : Prop := okS t n nc np ∧ i 5 = nI un ∧ un ≤ 30 ∧ eo 0 = nI od ∧ od < 30 ∧ RING rg ps od un ∧ Past t ps nc np un
def LI1 (G : gG) (a b : Nat → Nat) (ra : Nat → Nat → Nat) (nR : Nat) (w : va_W) : Prop :=
  ∃ (i j t r n d ps im kp tx cd bk py pt mt eo es tc d2 rt rn su co mo m0 m1 : Nat → Int32) (s : RSt) (em : Int32) (rg : Nat → Nat → Int32) (nc np un od : Nat),
    w = mW G a i j t r n d ps im kp tx cd bk py pt mt ++ dR G b ra nR s em i eo es tc n d2 tx rt rn cd su bk co mo m0 m1 kp rg ∧ IvA i tx cd bk s ∧ IvT t tc nc np ∧ IvH i t n ps eo rg nc np un od ∧ Imgs t im kp m0 m1 eo nc np
/-! before a town is told, or once a text told nobody -/
def IvZ (i t tc eo : Nat → Int32) : Prop := eqN tc t 0 ∧ okT t 0 0 ∧ t 0 = 0 ∧ i 5 = nI 0 ∧ (∃ od : Nat, eo 0 = nI od ∧ od < 30) ∧ i 15 = nI 0
def zC (t n : Nat → Int32) : Prop := okS t n 0 0 ∧ n 52 = 0 ∧ n 53 = 0
def zR (t n : Nat → Int32) : Prop := zC t n ∧ ∀ p, p < 8 → n (44 + p) = -1
def Imgz (t im kp m0 m1 eo : Nat → Int32) : Prop :=
  (kp 0 = 0 ∨ (zC t m0 ∧ zR t im ∧ eo 1 = im 54 ∧ isSd (im 54))) ∧ (kp 1 = 0 ∨ (zC t m1 ∧ zR t (fun k => im (55 + k)) ∧ eo 2 = im 109 ∧ isSd (im 109)))
def LI0 (G : gG) (a b : Nat → Nat) (ra : Nat → Nat → Nat) (nR : Nat) (w : va_W) : Prop :=
  ∃ (i j t r n d ps im kp tx cd bk py pt mt eo es tc nk d2 rt rn su co mo m0 m1 : Nat → Int32) (s : RSt) (em : Int32) (rg : Nat → Nat → Int32),
    w = mW G a i j t r n d ps im kp tx cd bk py pt mt ++ dR G b ra nR s em i eo es tc nk d2 tx rt rn cd su bk co mo m0 m1 kp rg ∧ IvA i tx cd bk s ∧ IvZ i t tc eo ∧ zR t n ∧ zC t nk ∧ Imgz t im kp m0 m1 eo
def LI (G : gG) (a b : Nat → Nat) (ra : Nat → Nat → Nat) (nR : Nat) (w : va_W) : Prop := LI1 G a b ra nR w ∨ LI0 G a b ra nR w
section LIS
variable {G : gG} {a b : Nat → Nat} {ra : Nat → Nat → Nat} {nR : Nat} {i j t r n d ps im kp tx cd bk py pt mt eo es tc nk d2 rt rn su co mo m0 m1 : Nat → Int32} {s : RSt} {em : Int32} {rg : Nat → Nat → Int32} {nc np un od : Nat}
theorem LI_1 (hA : IvA i tx cd bk s) (hT : IvT t tc nc np) (hH : IvH i t n ps eo rg nc np un od) (hI : Imgs t im kp m0 m1 eo nc np) : LI G a b ra nR (mW G a i j t r n d ps im kp tx cd bk py pt mt ++ dR G b ra nR s em i eo es tc n d2 tx rt rn cd su bk co mo m0 m1 kp rg) :=
  Or.inl ⟨i, j, t, r, n, d, ps, im, kp, tx, cd, bk, py, pt, mt, eo, es, tc, d2, rt, rn, su, co, mo, m0, m1, s, em, rg, nc, np, un, od, rfl, hA, hT, hH, hI⟩
theorem LI_0 (hA : IvA i tx cd bk s) (hZ : IvZ i t tc eo) (hN : zR t n) (hK : zC t nk) (hI : Imgz t im kp m0 m1 eo) : LI G a b ra nR (mW G a i j t r n d ps im kp tx cd bk py pt mt ++ dR G b ra nR s em i eo es tc nk d2 tx rt rn cd su bk co mo m0 m1 kp rg) :=
  Or.inr ⟨i, j, t, r, n, d, ps, im, kp, tx, cd, bk, py, pt, mt, eo, es, tc, nk, d2, rt, rn, su, co, mo, m0, m1, s, em, rg, rfl, hA, hZ, hN, hK, hI⟩
/-! deeds keep it -/
theorem Past_n (hp8 : np ≤ 8) (h : Past t ps nc np un) (hO : okS t n nc np) (hu : un ≤ 30) : Past t (rmP n ps un) nc np (rmU un) := by
  intro k hk
  unfold rmU at hk
  by_cases e : un = 30
  · rw [if_pos e] at hk
    by_cases e2 : k = 29
    · refine okS_c hp8 (f := n) (fun x hx => ?_) hO
      show n x = rmP n ps un (54 * k + x)
      unfold rmP; rw [if_pos e]; unfold va_cpy; rw [if_pos (by omega)]
      exact congrArg n (show _ = _ by omega)
    · refine okS_c hp8 (f := fun x => ps (54 * (k + 1) + x)) (fun x hx => ?_) (h (k + 1) (by omega))
      show ps (54 * (k + 1) + x) = rmP n ps un (54 * k + x)
      unfold rmP; rw [if_pos e]; unfold va_cpy; rw [if_neg (by omega)]; unfold upto; rw [if_pos (by omega)]
      exact congrArg ps (show _ = _ by omega)
  · rw [if_neg e] at hk
    by_cases e2 : k = un
    · refine okS_c hp8 (f := n) (fun x hx => ?_) hO
      show n x = rmP n ps un (54 * k + x)
      unfold rmP; rw [if_neg e]; unfold va_cpy; rw [if_pos (by omega)]
      exact congrArg n (show _ = _ by omega)
    · refine okS_c hp8 (f := fun x => ps (54 * k + x)) (fun x hx => ?_) (h k (by omega))
      show ps (54 * k + x) = rmP n ps un (54 * k + x)
      unfold rmP; rw [if_neg e]; unfold va_cpy; rw [if_neg (by omega)]
theorem Past_Q (hT : okT t nc np) (h : Past t ps nc np un) (hO : okS t n nc np) (hu : un ≤ 30) : ∀ k, Past t (psQ t nc np n ps un k) nc np (unQ un k)
  | 0 => h
  | k + 1 => Past_n hT.1.2.2.2 (Past_Q hT h hO hu k) (okS_nQ hT hO k) (unQ_le hu k)
theorem Past_D {sd : Nat} (hT : okT t nc np) (h : Past t ps nc np un) (hO : okS t n nc np) (hu : un ≤ 30) : ∀ k, Past t (psD t nc np n ps sd un k) nc np (unQ un k)
  | 0 => h
  | k + 1 => Past_n hT.1.2.2.2 (Past_D hT h hO hu k) (okS_nD hT hO k) (unQ_le hu k)
theorem IvH_note {n' : Nat → Int32} (hT : okT t nc np) (h : IvH i t n ps eo rg nc np un od) (hO : okS t n' nc np) : IvH (rmI i un) t n' (rmP n ps un) (upd eo 0 (nI (odN od un))) (rgN rg od un n) nc np (rmU un) (odN od un) :=
  ⟨hO, upd_at _ _ _, rmU_le h.2.2.1, upd_at _ _ _, odN_lt h.2.2.2.2.1, ring_note h.2.2.2.2.2.1 h.2.2.1 h.2.2.2.2.1, Past_n hT.1.2.2.2 h.2.2.2.2.2.2 h.1 h.2.2.1⟩
theorem Imgs_eo (h : Imgs t im kp m0 m1 eo nc np) (v : Int32) : Imgs t im kp m0 m1 (upd eo 0 v) nc np := by
  unfold Imgs at h ⊢
  rw [upd_ne (show (1 : Nat) ≠ 0 by decide), upd_ne (show (2 : Nat) ≠ 0 by decide)]; exact h
theorem okS_bor {p c k : Int32} (hT : okT t nc np) (hO : okS t n nc np) (e : okBor t n p c k) : okS t (borF n (cl p) (cl c) k) nc np := by
  obtain ⟨e1, e2, e3, e4⟩ := e
  have q3 := hT.1.2.2.1
  have q4 := hT.1.2.2.2
  obtain ⟨pp, hpp, rfl⟩ := inB_nat hT.1.2.1 (by omega) e1
  obtain ⟨cc, hcc, rfl⟩ := inB_nat hT.1.1 (by omega) e2
  obtain ⟨kk, k1, k2, rfl⟩ := inB_rng (a := 1) (b := 999) rfl rfl (by decide) (by decide) e3
  rw [cl_nI (show pp < 2147483648 by omega), cl_nI (show cc < 2147483648 by omega)] at e4 ⊢
  exact okS_b hT hO hpp hcc (by omega) e4
theorem okS_pay {p c k : Int32} (hT : okT t nc np) (hO : okS t n nc np) (e : okPay t n p c k) : okS t (payF t n (cl p) (cl c) k) nc np := by
  obtain ⟨e1, e2, e3, e4⟩ := e
  have q3 := hT.1.2.2.1
  have q4 := hT.1.2.2.2
  obtain ⟨pp, hpp, rfl⟩ := inB_nat hT.1.2.1 (by omega) e1
  obtain ⟨cc, hcc, rfl⟩ := inB_nat hT.1.1 (by omega) e2
  rw [cl_nI (show pp < 2147483648 by omega), cl_nI (show cc < 2147483648 by omega)] at e4 ⊢
  exact okS_p hT hO hpp hcc e3 e4
theorem okS_wed {g m : Int32} (hT : okT t nc np) (hO : okS t n nc np) (e : isG t g ∧ isM t m ∧ n (44 + cl g) = -1 ∧ n (44 + cl m) = -1) : okS t (wedF n (cl g) (cl m)) nc np := by
  obtain ⟨e1, e2, e3, e4⟩ := e
  have q4 := hT.1.2.2.2
  obtain ⟨gg, hgg, rfl⟩ := inB_nat hT.1.2.1 (by omega) e1.1
  obtain ⟨mm, hmm, rfl⟩ := inB_nat hT.1.2.1 (by omega) e2.1
  rw [cl_nI (show gg < 2147483648 by omega)] at e3 ⊢
  rw [cl_nI (show mm < 2147483648 by omega)] at e4 ⊢
  exact okS_w hT hO hgg hmm e1.2 e2.2 e3 e4
theorem okS_div {g : Int32} (hT : okT t nc np) (hO : okS t n nc np) (e : isG t g ∧ ¬ n (44 + cl g) = -1) : okS t (divF n (cl g) (cl (n (44 + cl g)))) nc np := by
  obtain ⟨e1, e2⟩ := e
  have q4 := hT.1.2.2.2
  obtain ⟨gg, hgg, rfl⟩ := inB_nat hT.1.2.1 (by omega) e1.1
  rw [cl_nI (show gg < 2147483648 by omega)] at e2 ⊢
  rcases hO.2.2.2.2.1 gg hgg with z | ⟨q, z1, z2, z3, z4, z5⟩
  · exact absurd z e2
  · rw [z3, cl_nI (show q < 2147483648 by omega)]
    exact okS_d hT hO hgg z1 (fun z => z2 z.symm) z3 z4
theorem okS_mate (hT : okT t nc np) (hO : okS t n nc np) (h0 : t 0 = 1) : mateOK n := by
  intro p hp
  have q4 := hT.1.2.2.2
  by_cases h : p < np
  · rcases hO.2.2.2.2.1 p h with z | ⟨q, z1, z2, z3, z4, z5⟩
    · exact Or.inl z
    · exact Or.inr ⟨q, by omega, z3⟩
  · exact Or.inl ((hO.2.1 p (by omega) hp).2.resolve_right (fun z => absurd (h0.symm.trans z) (by decide)))
theorem okS_un {k : Nat} (hT : okT t nc np) (h : Past t ps nc np un) (hk : k < un) : okS t (va_cpy ps n (54 * k) 0 54) nc np := by
  refine okS_c hT.1.2.2.2 (f := fun x => ps (54 * k + x)) (fun x hx => ?_) (h k hk)
  show ps (54 * k + x) = va_cpy ps n (54 * k) 0 54 x
  unfold va_cpy; rw [if_pos (by omega)]
  exact congrArg ps (show _ = _ by omega)
theorem isSd_i {x : Int32} (h : ¬ x < 0) : isSd x := by
  obtain ⟨k, h1, h2⟩ := nI_of h
  exact ⟨k, h2, by omega⟩
end LIS
