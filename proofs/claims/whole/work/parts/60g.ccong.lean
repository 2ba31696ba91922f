/-! what is answered rests on the town's words in use alone -/
theorem ite_c {α : Type} {P Q : Prop} [Decidable P] [Decidable Q] {a b a' b' : α} (h : P ↔ Q) (ha : a = a') (hb : b = b') : (if P then a else b) = (if Q then a' else b') := by
  subst ha hb
  by_cases e : P
  · rw [if_pos e, if_pos (h.mp e)]
  · rw [if_neg e, if_neg (fun q => e (h.mpr q))]
section CONG
variable {t u : Nat → Int32} {nc : Nat}
theorem isP_t (h : eqN t u nc) (x : Int32) : isP t x ↔ isP u x := by show inB x 0 (t 4 - 1) ↔ inB x 0 (u 4 - 1); rw [h.1 4 (by omega)]
theorem isC_t (h : eqN t u nc) (x : Int32) : isC t x ↔ isC u x := by show inB x 0 (t 3 - 1) ↔ inB x 0 (u 3 - 1); rw [h.1 3 (by omega)]
theorem isG_t (h : eqN t u nc) (x : Int32) : isG t x ↔ isG u x := by show inB x 0 (t 4 - 1) ∧ hasR (t 21) x ↔ inB x 0 (u 4 - 1) ∧ hasR (u 21) x; rw [h.1 4 (by omega), h.2.1]
theorem isM_t (h : eqN t u nc) (x : Int32) : isM t x ↔ isM u x := by show inB x 0 (t 4 - 1) ∧ ¬ hasR (t 21) x ↔ inB x 0 (u 4 - 1) ∧ ¬ hasR (u 21) x; rw [h.1 4 (by omega), h.2.1]
theorem isPC_t (h : eqN t u nc) (x y : Int32) : (isP t x ∧ isC t y) ↔ (isP u x ∧ isC u y) := and_congr (isP_t h x) (isC_t h y)
theorem isGM_t (h : eqN t u nc) (x y : Int32) : (isG t x ∧ isM t y) ↔ (isG u x ∧ isM u y) := and_congr (isG_t h x) (isM_t h y)
theorem isC_lt {np : Nat} (hT : okT u nc np) {c : Int32} (h : isC u c) : cl c < nc := by
  obtain ⟨j, h1, h2⟩ := inB_nat hT.1.1 (by have := hT.1.2.2.1; omega) h
  have := hT.1.2.2.1
  rw [h2, cl_nI (by omega)]; exact h1
theorem tm_t (h : eqN t u nc) {f : Nat → Int32} {p c : Nat} (hc : c < nc) : tm t f p c = tm u f p c := by unfold tm; rw [(h.2.2 c hc).1, (h.2.2 c hc).2.1]
theorem stU_t (h : eqN t u nc) {f : Nat → Int32} {p : Nat} : stU t f p nc = stU u f p nc := sumU_c (fun c hc => by rw [tm_t h hc, (h.2.2 c hc).2.2])
theorem sourU_t (h : eqN t u nc) {f : Nat → Int32} {c np : Nat} (hc : c < nc) : sourU t f c np = sourU u f c np := sumU_c (fun p hp => by rw [tm_t h hc])
theorem soursU_t (h : eqN t u nc) {f : Nat → Int32} {np : Nat} : soursU t f np nc = soursU u f np nc := setU_c (fun c hc => by unfold failP; rw [sourU_t h hc])
theorem qg2_t (h : eqN t u nc) {f : Nat → Int32} : qg2 t f = qg2 u f := by unfold qg2 qg1; rw [h.1 1 (by omega)]
theorem qgF_t (h : eqN t u nc) {f : Nat → Int32} {np : Nat} : qgF t f nc np = qgF u f nc np := by
  have e3 : qg3 t f nc np = qg3 u f nc np := by unfold qg3; rw [qg2_t h, soursU_t h]
  have e4 : qg4 t f nc np = qg4 u f nc np := by unfold qg4; rw [e3]
  unfold qgF; rw [e4]
theorem nQ_t (h : eqN t u nc) {n : Nat → Int32} {np : Nat} : ∀ k, nQ t nc np n k = nQ u nc np n k
  | 0 => rfl
  | k + 1 => by show qgF t (nQ t nc np n k) nc np = qgF u (nQ u nc np n k) nc np; rw [nQ_t h k, qgF_t h]
theorem psQ_t (h : eqN t u nc) {n ps : Nat → Int32} {np un : Nat} : ∀ k, psQ t nc np n ps un k = psQ u nc np n ps un k
  | 0 => rfl
  | k + 1 => by show rmP (nQ t nc np n k) (psQ t nc np n ps un k) (unQ un k) = rmP (nQ u nc np n k) (psQ u nc np n ps un k) (unQ un k); rw [nQ_t h, psQ_t h k]
theorem mayB_t (h : eqN t u nc) {n : Nat → Int32} {p c : Nat} {k : Int32} : mayB t n p c k ↔ mayB u n p c k := by
  show ¬ (¬ hasB (t 21) p ∧ ¬ n (44 + p) = -1) ∧ ¬ hasB (n 52) c ∧ k ≤ n (32 + c) ↔ ¬ (¬ hasB (u 21) p ∧ ¬ n (44 + p) = -1) ∧ ¬ hasB (n 52) c ∧ k ≤ n (32 + c)
  rw [h.2.1]
theorem dfN_t (h : eqN t u nc) {n : Nat → Int32} {np sd : Nat} : dfN t nc np n sd = dfN u nc np n sd := by
  unfold dfN
  exact ite_c Iff.rfl rfl (ite_c (and_congr Iff.rfl (mayB_t h)) rfl rfl)
theorem nD_t (h : eqN t u nc) {n : Nat → Int32} {np sd : Nat} : ∀ k, nD t nc np n sd k = nD u nc np n sd k
  | 0 => rfl
  | k + 1 => by rw [← nD_s2, ← nD_s2, nD_t h k, dfN_t h, qgF_t h]
theorem psD_t (h : eqN t u nc) {n ps : Nat → Int32} {np sd un : Nat} : ∀ k, psD t nc np n ps sd un k = psD u nc np n ps sd un k
  | 0 => rfl
  | k + 1 => by rw [← psD_s, ← psD_s, nD_t h, psD_t h k]
theorem rfR_t (h : eqN t u nc) {n : Nat → Int32} {x : Int32} : rfR t n x = rfR u n x := by unfold rfR; rw [h.1 0 (by omega)]
theorem whoU_t (h : eqN t u nc) {n : Nat → Int32} {c np : Nat} {k : Int32} (hc : c < nc) : whoU t n c k np = whoU u n c k np := setU_c (fun p hp => by unfold whoP; rw [tm_t h hc])
theorem toldR_t (h : eqN t u nc) {i n : Nat → Int32} {x : Int32} : toldR i t n x = toldR i u n x := by
  unfold toldR; rw [h.1 0 (by omega), h.1 1 (by omega), h.1 2 (by omega), h.1 3 (by omega), h.1 4 (by omega), h.2.1]
theorem crR_t (h : eqN t u nc) {np : Nat} (hT : okT u nc np) {n : Nat → Int32} {c x : Int32} : crR t n np c x = crR u n np c x := by
  unfold crR
  by_cases e : isC u c
  · have hl := isC_lt hT e
    rw [if_neg (not_not_intro ((isC_t h c).mpr e)), if_neg (not_not_intro e), (h.2.2 _ hl).1, (h.2.2 _ hl).2.1, (h.2.2 _ hl).2.2, whoU_t h hl, whoU_t h hl]
  · rw [if_pos (fun q => e ((isC_t h c).mp q)), if_pos e]
theorem peR_t (h : eqN t u nc) {n : Nat → Int32} {p x : Int32} : peR t n nc p x = peR u n nc p x := by
  unfold peR; rw [stU_t h, h.2.1]; exact ite_c (not_congr (isP_t h p)) rfl rfl
theorem owR_t (h : eqN t u nc) {n : Nat → Int32} {p c : Int32} : owR t n p c = owR u n p c := ite_c (isPC_t h p c) rfl rfl
theorem teR_t (h : eqN t u nc) {np : Nat} (hT : okT u nc np) {n : Nat → Int32} {p c : Int32} : teR t n p c = teR u n p c := by
  unfold teR
  by_cases e : isP u p ∧ isC u c
  · rw [if_pos ((isPC_t h p c).mpr e), if_pos e, tm_t h (isC_lt hT e.2)]
  · rw [if_neg (fun q => e ((isPC_t h p c).mp q)), if_neg e]
theorem borR_t (h : eqN t u nc) {n : Nat → Int32} {p c k : Int32} : borR t n p c k = borR u n p c k := ite_c (not_congr (isPC_t h p c)) rfl (ite_c Iff.rfl rfl (ite_c (not_congr (mayB_t h)) rfl rfl))
theorem okBor_t (h : eqN t u nc) {n : Nat → Int32} {p c k : Int32} : okBor t n p c k ↔ okBor u n p c k := and_congr (isP_t h p) (and_congr (isC_t h c) (and_congr Iff.rfl (mayB_t h)))
theorem payR_t (h : eqN t u nc) {n : Nat → Int32} {p c k : Int32} : payR t n p c k = payR u n p c k := ite_c (not_congr (isPC_t h p c)) rfl rfl
theorem okPay_t (h : eqN t u nc) {n : Nat → Int32} {p c k : Int32} : okPay t n p c k ↔ okPay u n p c k := and_congr (isP_t h p) (and_congr (isC_t h c) Iff.rfl)
theorem payF_t (h : eqN t u nc) {n : Nat → Int32} {p c : Nat} {k : Int32} : payF t n p c k = payF u n p c k := by unfold payF pay2 pay1; rw [h.1 2 (by omega)]
theorem quR_t (h : eqN t u nc) {n : Nat → Int32} {np : Nat} {x : Int32} : quR t n nc np x = quR u n nc np x := by unfold quR; rw [rfR_t h, nQ_t h]
theorem okW_t (h : eqN t u nc) {n : Nat → Int32} {g m : Int32} : (isG t g ∧ isM t m ∧ n (44 + cl g) = -1 ∧ n (44 + cl m) = -1) ↔ (isG u g ∧ isM u m ∧ n (44 + cl g) = -1 ∧ n (44 + cl m) = -1) := and_congr (isG_t h g) (and_congr (isM_t h m) Iff.rfl)
theorem weR_t (h : eqN t u nc) {n : Nat → Int32} {g m : Int32} : weR t n nc g m = weR u n nc g m := by unfold weR; rw [stU_t h]; exact ite_c (not_congr (isGM_t h g m)) rfl rfl
theorem dvR_t (h : eqN t u nc) {n : Nat → Int32} {g : Int32} : dvR t n g = dvR u n g := ite_c (not_congr (isG_t h g)) rfl rfl
theorem drR_t (h : eqN t u nc) {n : Nat → Int32} {np sd : Nat} {x : Int32} : drR t n nc np sd x = drR u n nc np sd x := by unfold drR; rw [rfR_t h, nD_t h]
theorem joR_t (h : eqN t u nc) {n : Nat → Int32} {g m : Int32} : joR t n nc g m = joR u n nc g m := by unfold joR; rw [stU_t h]; exact ite_c (not_congr (isGM_t h g m)) rfl rfl
/-! least -/
theorem mayT_t (h : eqN t u nc) {n : Nat → Int32} {p c : Nat} (hc : c < nc) : mayT t n p c ↔ mayT u n p c := by
  show ¬ hasB (n 52) c ∧ ¬ hasB (n (36 + p)) c ∧ 0 < t (9 + c) - n (4 * p + c) ∧ t (9 + c) - n (4 * p + c) ≤ n (32 + c) ↔ ¬ hasB (n 52) c ∧ ¬ hasB (n (36 + p)) c ∧ 0 < u (9 + c) - n (4 * p + c) ∧ u (9 + c) - n (4 * p + c) ≤ n (32 + c)
  rw [(h.2.2 c hc).1]
theorem tkS_t (h : eqN t u nc) {n : Nat → Int32} {p s : Nat} : ∀ k, k ≤ nc → tkS t n p s k = tkS u n p s k
  | 0, _ => rfl
  | k + 1, hk => by
    have ih := tkS_t h (n := n) (p := p) (s := s) k (by omega)
    have e : (if mayT t n p k then t (9 + k) - n (4 * p + k) else 1000000) = (if mayT u n p k then u (9 + k) - n (4 * p + k) else 1000000) := ite_c (mayT_t h (by omega)) (by rw [(h.2.2 k (by omega)).1]) rfl
    exact ite_c Iff.rfl (by rw [ih, e]) ih
theorem tkD_t (h : eqN t u nc) {n : Nat → Int32} {p s : Nat} : ∀ k, k ≤ nc → tkD t n p s k = tkD u n p s k
  | 0, _ => rfl
  | k + 1, hk => by
    have ih := tkD_t h (n := n) (p := p) (s := s) k (by omega)
    exact ite_c Iff.rfl (by rw [ih, (h.2.2 k (by omega)).1]) ih
theorem lsC_t (h : eqN t u nc) {n : Nat → Int32} {p s : Nat} {sx f : Int32} : lsC t n nc p sx s f ↔ lsC u n nc p sx s f := by
  show tkS t n p s nc < f ∧ sx ≤ stU t (tkD t n p s nc) p nc ↔ tkS u n p s nc < f ∧ sx ≤ stU u (tkD u n p s nc) p nc
  rw [tkS_t h nc (Nat.le_refl _), tkD_t h nc (Nat.le_refl _), stU_t h]
theorem ls_t (h : eqN t u nc) {n : Nat → Int32} {p : Nat} {sx : Int32} : ∀ s, lsF t n nc p sx s = lsF u n nc p sx s ∧ lsB t n nc p sx s = lsB u n nc p sx s
  | 0 => ⟨rfl, rfl⟩
  | s + 1 => by
    obtain ⟨i1, i2⟩ := ls_t h (n := n) (p := p) (sx := sx) s
    constructor
    · exact ite_c (by rw [i1]; exact lsC_t h) (tkS_t h nc (Nat.le_refl _)) i1
    · exact ite_c (by rw [i1]; exact lsC_t h) rfl i2
theorem leR_t (h : eqN t u nc) {n : Nat → Int32} {p sx w : Int32} : leR t n nc p sx w = leR u n nc p sx w := by
  unfold leR
  rw [(ls_t h _).1, (ls_t h _).2]
  refine ite_c (not_congr (isP_t h p)) rfl (ite_c Iff.rfl rfl (ite_c ?_ rfl rfl))
  show ¬ hasB (t 21) (cl p) ∧ ¬ n (44 + cl p) = -1 ↔ ¬ hasB (u 21) (cl p) ∧ ¬ n (44 + cl p) = -1
  rw [h.2.1]
/-! credit, cards -/
theorem crd_t (h : eqN t u nc) {n : Nat → Int32} {p c : Nat} (hc : c < nc) : ∀ j, crd t n p c j = crd u n p c j
  | 0 => rfl
  | j + 1 => ite_c (and_congr (or_congr Iff.rfl (mayB_t h)) (by rw [tm_t h hc])) rfl (crd_t h hc j)
theorem cdR_t (h : eqN t u nc) {np : Nat} (hT : okT u nc np) {n : Nat → Int32} {p c : Int32} : cdR t n p c = cdR u n p c := by
  unfold cdR
  by_cases e : isP u p ∧ isC u c
  · rw [if_neg (not_not_intro ((isPC_t h p c).mpr e)), if_neg (not_not_intro e), crd_t h (isC_lt hT e.2)]
  · rw [if_pos (fun q => e ((isPC_t h p c).mp q)), if_pos e]
theorem caR_t (h : eqN t u nc) {cm : Nat} {p c q : Int32} : caR t cm p c q = caR u cm p c q := ite_c (not_congr (isPC_t h p c)) rfl rfl
theorem okCd_t (h : eqN t u nc) {cm : Nat} {p c q : Int32} : okCd t cm p c q ↔ okCd u cm p c q := and_congr (isP_t h p) (and_congr (isC_t h c) Iff.rfl)
theorem civB_t (h : eqN t u nc) {c q : Nat} {v : Int32} (hc : c < nc) : civB t c v q ↔ civB u c v q := by
  show inB (grU (t 1) v q) (t (9 + c)) (t (13 + c)) ↔ inB (grU (u 1) v q) (u (9 + c)) (u (13 + c))
  rw [h.1 1 (by omega), (h.2.2 c hc).1, (h.2.2 c hc).2.1]
theorem fitB_t (h : eqN t u nc) {cd : Nat → Int32} {p c : Nat} {v : Int32} (hc : c < nc) : ∀ k, fitB t cd p c v k = fitB u cd p c v k
  | 0 => rfl
  | k + 1 => by
    show (fitB t cd p c v k && decide (okkB t cd p c v k)) = (fitB u cd p c v k && decide (okkB u cd p c v k))
    have e : okkB t cd p c v k ↔ okkB u cd p c v k := imp_congr Iff.rfl (iff_congr (civB_t h hc) Iff.rfl)
    rw [fitB_t h hc k, decide_eq_decide.mpr e]
theorem fitP_t (h : eqN t u nc) {cd : Nat → Int32} {cm p c : Nat} (hc : c < nc) : fitP t cd cm p c = fitP u cd cm p c := funext (fun v => fitB_t h hc cm)
theorem haR_t (h : eqN t u nc) {np : Nat} (hT : okT u nc np) {cd : Nat → Int32} {cm : Nat} {p c w : Int32} : haR t cd cm p c w = haR u cd cm p c w := by
  unfold haR
  by_cases e : isP u p ∧ isC u c
  · rw [if_neg (not_not_intro ((isPC_t h p c).mpr e)), if_neg (not_not_intro e), fitP_t h (isC_lt hT e.2)]
  · rw [if_pos (fun q => e ((isPC_t h p c).mp q)), if_pos e]
theorem lk_t (h : eqN t u nc) {cd : Nat → Int32} {cm p c : Nat} (hc : c < nc) (q : Nat) : lkG t cd cm p c q = lkG u cd cm p c q := by
  have e1 : lkA t cd cm p c = lkA u cd cm p c := by unfold lkA; rw [fitP_t h hc]
  have e2 : lkC t cd cm p c q = lkC u cd cm p c q := by
    unfold lkC
    have e : civP t cd cm p c q = civP u cd cm p c q := funext (fun v => by unfold civP; rw [fitP_t h hc, decide_eq_decide.mpr (civB_t h hc)])
    rw [e]
  unfold lkG; rw [e1, e2]
theorem lkF_t (h : eqN t u nc) {cd : Nat → Int32} {cm p c : Nat} (hc : c < nc) : ∀ q, lkF t cd cm p c q = lkF u cd cm p c q
  | 0 => by show lkA t cd cm p c = lkA u cd cm p c; unfold lkA; rw [fitP_t h hc]
  | q + 1 => by show lessI (lkF t cd cm p c q) (lkG t cd cm p c q) = lessI (lkF u cd cm p c q) (lkG u cd cm p c q); rw [lkF_t h hc q, lk_t h hc]
theorem lkW_t (h : eqN t u nc) {cd : Nat → Int32} {cm p c : Nat} (hc : c < nc) : ∀ q, lkW t cd cm p c q = lkW u cd cm p c q
  | 0 => rfl
  | q + 1 => ite_c (by rw [lk_t h hc, lkF_t h hc]) rfl (lkW_t h hc q)
theorem loR_t (h : eqN t u nc) {np : Nat} (hT : okT u nc np) {cd : Nat → Int32} {cm : Nat} {p c : Int32} : loR t cd cm p c = loR u cd cm p c := by
  unfold loR
  by_cases e : isP u p ∧ isC u c
  · rw [if_neg (not_not_intro ((isPC_t h p c).mpr e)), if_neg (not_not_intro e), lkW_t h (isC_lt hT e.2)]
  · rw [if_pos (fun q => e ((isPC_t h p c).mp q)), if_pos e]
theorem wrR_t (h : eqN t u nc) {bm : Nat} {p s : Int32} : wrR t bm p s = wrR u bm p s := ite_c (not_congr (isP_t h p)) rfl rfl
theorem okWr_t (h : eqN t u nc) {bm : Nat} {p s : Int32} : okWr t bm p s ↔ okWr u bm p s := and_congr (isP_t h p) Iff.rfl
theorem juU_t (h : eqN t u nc) {n bk : Nat → Int32} : ∀ m k, juU t n bk nc m k = juU u n bk nc m k
  | 0, _ => rfl
  | m + 1, k => ite_c (by rw [stU_t h]) (juU_t h m (k + 1)) rfl
/-! plans -/
theorem pbR_t (h : eqN t u nc) {pt : Nat → Int32} {c : Nat} (hc : c < nc) {o r : Int32} : pbR t pt c o r = pbR u pt c o r := by
  unfold pbR; rw [h.1 1 (by omega), (h.2.2 c hc).1, (h.2.2 c hc).2.1]
theorem plB_t (h : eqN t u nc) {pt : Nat → Int32} {c : Nat} (hc : c < nc) : ∀ v, plB t pt c v = plB u pt c v
  | 0 => rfl
  | v + 1 => by show lessI (plB t pt c v) (pbR t pt c 0 (nI v)) = lessI (plB u pt c v) (pbR u pt c 0 (nI v)); rw [plB_t h hc v, pbR_t h hc]
theorem plT_t (h : eqN t u nc) {c : Nat} (hc : c < nc) : ∀ q, plT t c q = plT u c q
  | 0 => rfl
  | q + 1 => by
    show plG t (plT t c q) c = plG u (plT u c q) c
    rw [plT_t h hc q]
    exact funext (fun v => by unfold plG; rw [plB_t h hc])
theorem pl_t (h : eqN t u nc) {pt : Nat → Int32} {c mn : Nat} (hc : c < nc) {o : Int32} : ∀ i, plF t pt c o mn i = plF u pt c o mn i ∧ plL t pt c o mn i = plL u pt c o mn i
  | 0 => ⟨rfl, rfl⟩
  | i + 1 => by
    obtain ⟨i1, i2⟩ := pl_t h (pt := pt) (mn := mn) (o := o) hc i
    constructor
    · show lessI (plF t pt c o mn i) (pbR t pt c o _) = lessI (plF u pt c o mn i) (pbR u pt c o _); rw [i1, pbR_t h hc]
    · exact ite_c (by rw [i1, pbR_t h hc]) rfl i2
theorem plR_t (h : eqN t u nc) {np : Nat} (hT : okT u nc np) {n : Nat → Int32} {p c x w : Int32} : plR t n p c x w = plR u n p c x w := by
  unfold plR
  by_cases e : isP u p ∧ isC u c
  · have hl := isC_lt hT e.2
    rw [if_neg (not_not_intro ((isPC_t h p c).mpr e)), if_neg (not_not_intro e), plT_t h hl]
    unfold plV; rw [(pl_t h hl _).1, (pl_t h hl _).2]
  · rw [if_pos (fun q => e ((isPC_t h p c).mp q)), if_pos e]
/-! pairs -/
theorem bpI_t (h : eqN t u nc) {n : Nat → Int32} {tk : Int32} {g : Nat} {s : Int32 × Int32 × Int32} : ∀ m, bpI t n nc tk g s m = bpI u n nc tk g s m
  | 0 => rfl
  | m + 1 => by
    have ih := bpI_t h (n := n) (tk := tk) (g := g) (s := s) m
    have ej : jnV t n nc g m = jnV u n nc g m := stU_t h
    refine ite_c ?_ (by rw [ej]) ih
    rw [ih]
    show isG t (nI g) ∧ isM t (nI m) ∧ ¬ hasB tk g ∧ ¬ hasB tk m ∧ stU t n g nc < jnV t n nc g m ∧ stU t n m nc < jnV t n nc g m ∧ _ < jnV t n nc g m ↔ isG u (nI g) ∧ isM u (nI m) ∧ ¬ hasB tk g ∧ ¬ hasB tk m ∧ stU u n g nc < jnV u n nc g m ∧ stU u n m nc < jnV u n nc g m ∧ _ < jnV u n nc g m
    rw [ej, stU_t h, stU_t h]
    exact and_congr (isG_t h _) (and_congr (isM_t h _) Iff.rfl)
theorem bpG_t (h : eqN t u nc) {n : Nat → Int32} {np : Nat} {tk : Int32} : ∀ g, bpG t n nc np tk g = bpG u n nc np tk g
  | 0 => rfl
  | g + 1 => by show bpI t n nc tk g (bpG t n nc np tk g) np = bpI u n nc tk g (bpG u n nc np tk g) np; rw [bpG_t h g, bpI_t h]
theorem bpR_t (h : eqN t u nc) {n : Nat → Int32} {np : Nat} {tk : Int32} : bpR t n nc np tk = bpR u n nc np tk := bpG_t h np
theorem mkT_t (h : eqN t u nc) {n : Nat → Int32} {np : Nat} : ∀ r, mkT t n nc np r = mkT u n nc np r
  | 0 => rfl
  | r + 1 => by
    show mkT t n nc np r ||| _ = mkT u n nc np r ||| _
    rw [mkT_t h r, bpR_t h]
theorem mkM_t (h : eqN t u nc) {n f : Nat → Int32} {np : Nat} : ∀ r, mkM t n nc np f r = mkM u n nc np f r
  | 0 => rfl
  | r + 1 => by
    show upd (mkM t n nc np f r) _ _ = upd (mkM u n nc np f r) _ _
    rw [mkM_t h r, mkT_t h, bpR_t h]
theorem mkN_t (h : eqN t u nc) {n : Nat → Int32} {np : Nat} : ∀ m r, mkN t n nc np m r = mkN u n nc np m r
  | 0, _ => rfl
  | m + 1, r => ite_c (by rw [mkT_t h, bpR_t h]) rfl (mkN_t h m (r + 1))
theorem maR_t (h : eqN t u nc) {n : Nat → Int32} {np : Nat} {x : Int32} : maR t n nc np x = maR u n nc np x := by
  unfold maR; rw [mkN_t h, mkM_t h]
  exact ite_c (and_congr Iff.rfl (not_congr (isG_t h x))) rfl rfl
/-! invariants -/
theorem okT_t (h : eqN t u nc) {np : Nat} (hT : okT u nc np) : okT t nc np := by
  obtain ⟨⟨a1, a2, a3, a4⟩, ⟨ir, b1, b2⟩, c1, d1, e1⟩ := hT
  refine ⟨⟨(h.1 3 (by omega)).trans a1, (h.1 4 (by omega)).trans a2, a3, a4⟩, ⟨ir, b1, (h.1 1 (by omega)).trans b2⟩, c1, by rw [h.1 0 (by omega)]; exact d1, fun c hc => ?_⟩
  obtain ⟨lo, hi, g, q⟩ := e1 c hc
  exact ⟨lo, hi, g, by rw [(h.2.2 c hc).1, (h.2.2 c hc).2.1, (h.2.2 c hc).2.2]; exact q⟩
theorem okS_t (h : eqN t u nc) {n : Nat → Int32} {np : Nat} (hO : okS u n nc np) : okS t n nc np := by
  obtain ⟨a1, a2, a3, a4, a5, a6⟩ := hO
  refine ⟨a1, fun p h1 h2 => by rw [h.1 0 (by omega)]; exact a2 p h1 h2, a3, a4, ?_, ?_⟩
  · rw [h.2.1]; exact a5
  · rw [h.2.1]; exact a6
end CONG
