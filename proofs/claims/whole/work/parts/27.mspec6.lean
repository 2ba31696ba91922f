theorem dfN_x {t n : Nat → Int32} {nc np s0 s1 s2 pp cc kc sx : Nat} (h0 : s0 = sx) (h1 : s1 = nxtN s0) (h2 : s2 = nxtN s1) (hp : pp = drN s0 np) (hc : cc = drN s1 nc) (hk : kc = drN s2 100) : dfN t nc np n sx = if np = 0 then n else if 0 < kc ∧ mayB t n pp cc (nI kc) then borF n pp cc (nI kc) else n := by
  unfold dfN; rw [← h0, ← h1, ← h2, ← hp, ← hc, ← hk]
theorem sD_x {np sd s0 s1 s2 s3 k : Nat} (hn : ¬ np = 0) (h0 : s0 = sD np sd k) (h1 : s1 = nxtN s0) (h2 : s2 = nxtN s1) (h3 : s3 = nxtN s2) : sD np sd (k + 1) = s3 := by
  show dfS np (sD np sd k) = s3
  unfold dfS; rw [if_neg hn, ← h0, ← h1, ← h2, ← h3]
theorem sD_0 {np sd s0 k : Nat} (hn : np = 0) (h0 : s0 = sD np sd k) : sD np sd (k + 1) = s0 := by
  show dfS np (sD np sd k) = s0
  unfold dfS; rw [if_pos hn, h0]
theorem c_X10_draw_o (l : Launch) (G : gG) (a : Nat → Nat) (i j t r n d ps im kp tx cd bk py pt mt : Nat → Int32) (sd nx dr : Nat) (k : Nat) (hk0 : 0 < k) (hk : k < 2147483648) (hsd : i 8 = nI sd) (hs : sd < 2147483648) (hnx : nx = nxtN sd) (hdr : dr = drN sd k) : mX l yX10_draw wsX10_draw ({ frames := 0, cells := 0, slots := 0, locals := 0 }) G (mW G a i j t r n d ps im kp tx cd bk py pt mt) (mW G a (upd i 8 (nI nx)) j t r n d ps im kp tx cd bk py pt mt) [.ref (a 0), .int (nI k)] (.returned (some (.int (nI dr)))) := by
  rw [hnx, hdr]; exact c_X10_draw l G a i j t r n d ps im kp tx cd bk py pt mt sd k hk0 hk hsd hs
/-! pairs -/
def jnV (t n : Nat → Int32) (nc g m : Nat) : Int32 := stU t (wedF n g m) g nc
abbrev bpC (t n : Nat → Int32) (nc : Nat) (tk b : Int32) (g m : Nat) : Prop := isG t (nI g) ∧ isM t (nI m) ∧ ¬ hasB tk g ∧ ¬ hasB tk m ∧ stU t n g nc < jnV t n nc g m ∧ stU t n m nc < jnV t n nc g m ∧ b < jnV t n nc g m
def bpI (t n : Nat → Int32) (nc : Nat) (tk : Int32) (g : Nat) (s : Int32 × Int32 × Int32) : Nat → Int32 × Int32 × Int32
  | 0 => s
  | m + 1 => if bpC t n nc tk (bpI t n nc tk g s m).1 g m then (jnV t n nc g m, nI g, nI m) else bpI t n nc tk g s m
def bpG (t n : Nat → Int32) (nc np : Nat) (tk : Int32) : Nat → Int32 × Int32 × Int32
  | 0 => (-1000000, -1, -1)
  | g + 1 => bpI t n nc tk g (bpG t n nc np tk g) np
def bpOK (tk : Int32) (np : Nat) (s : Int32 × Int32 × Int32) : Prop := s.2.1 = -1 ∨ ∃ g m : Nat, g < np ∧ m < np ∧ s.2.1 = nI g ∧ s.2.2 = nI m ∧ ¬ hasB tk g ∧ ¬ hasB tk m
theorem bpI_ok {t n : Nat → Int32} {nc np : Nat} {tk : Int32} {g : Nat} (hg : g < np) {s : Int32 × Int32 × Int32} (hs : bpOK tk np s) : ∀ m, m ≤ np → bpOK tk np (bpI t n nc tk g s m)
  | 0, _ => hs
  | m + 1, h => by
    show bpOK tk np (if _ then _ else _)
    by_cases e : bpC t n nc tk (bpI t n nc tk g s m).1 g m
    · rw [if_pos e]; exact Or.inr ⟨g, m, hg, by omega, rfl, rfl, e.2.2.1, e.2.2.2.1⟩
    · rw [if_neg e]; exact bpI_ok hg hs m (by omega)
theorem bpG_ok {t n : Nat → Int32} {nc np : Nat} {tk : Int32} : ∀ g, g ≤ np → bpOK tk np (bpG t n nc np tk g)
  | 0, _ => Or.inl rfl
  | g + 1, h => bpI_ok (by omega) (bpG_ok g (by omega)) np (Nat.le_refl _)
def bpR (t n : Nat → Int32) (nc np : Nat) (tk : Int32) : Int32 × Int32 × Int32 := bpG t n nc np tk np
def mkT (t n : Nat → Int32) (nc np : Nat) : Nat → Int32
  | 0 => wedS n 8
  | r + 1 => mkT t n nc np r ||| ((1 <<< ((bpR t n nc np (mkT t n nc np r)).2.1 &&& 31)) ||| (1 <<< ((bpR t n nc np (mkT t n nc np r)).2.2 &&& 31)))
def mkM (t n : Nat → Int32) (nc np : Nat) (f : Nat → Int32) : Nat → Nat → Int32
  | 0 => f
  | r + 1 => upd (mkM t n nc np f r) (cl (bpR t n nc np (mkT t n nc np r)).2.1) (bpR t n nc np (mkT t n nc np r)).2.2
def mkN (t n : Nat → Int32) (nc np : Nat) : Nat → Nat → Nat
  | 0, r => r
  | m + 1, r => if (bpR t n nc np (mkT t n nc np r)).2.1 = -1 then r else mkN t n nc np m (r + 1)
/-- how many of the first k aren't in the set -/
def frN (tk : Int32) : Nat → Nat
  | 0 => 0
  | k + 1 => if hasB tk k then frN tk k else frN tk k + 1
theorem frN_le (tk : Int32) : ∀ k, frN tk k ≤ k
  | 0 => Nat.le_refl _
  | k + 1 => by
    show (if hasB tk k then frN tk k else frN tk k + 1) ≤ k + 1
    have := frN_le tk k
    split <;> omega
/-! bits (begun from kit/laws/BITS) -/
def bt (x : Int32) (i : Nat) : Bool := x.toBitVec.getLsbD i
theorem b_ext {x y : Int32} (h : ∀ i, i < 32 → bt x i = bt y i) : x = y := Int32.toBitVec_inj.mp (BitVec.eq_of_getLsbD_eq (fun i hi => h i hi))
theorem b_or (x y : Int32) (i : Nat) : bt (x ||| y) i = (bt x i || bt y i) := by unfold bt; rw [Int32.toBitVec_or, BitVec.getLsbD_or]
theorem b_and (x y : Int32) (i : Nat) : bt (x &&& y) i = (bt x i && bt y i) := by unfold bt; rw [Int32.toBitVec_and, BitVec.getLsbD_and]
theorem b_big {x : Int32} {i : Nat} (h : 32 ≤ i) : bt x i = false := BitVec.getLsbD_of_ge _ _ h
theorem s_l : ∀ n, n < 32 → ((nI n &&& 31).toBitVec.smod 32).toNat = n := by decide +kernel
theorem b_shl (n : Nat) (hn : n < 32) (x : Int32) {i : Nat} (hi : i < 32) : bt (x <<< (nI n &&& 31)) i = (decide (n ≤ i) && bt x (i - n)) := by
  unfold bt
  rw [Int32.toBitVec_shiftLeft]
  show (x.toBitVec <<< ((nI n &&& 31).toBitVec.smod 32).toNat).getLsbD i = _
  rw [s_l n hn, BitVec.getLsbD_shiftLeft]
  rcases Nat.lt_or_ge i n with h | h
  · simp [h, Nat.not_le.mpr h]
  · simp [hi, h, Nat.not_lt.mpr h]
theorem b_sshr (n : Nat) (hn : n < 32) (x : Int32) {i : Nat} (hi : i < 32) : bt (x >>> (nI n &&& 31)) i = if n + i < 32 then bt x (n + i) else bt x 31 := by
  unfold bt
  rw [Int32.toBitVec_shiftRight]
  show (x.toBitVec.sshiftRight ((nI n &&& 31).toBitVec.smod 32).toNat).getLsbD i = _
  rw [s_l n hn, BitVec.getLsbD_sshiftRight, BitVec.msb_eq_getLsbD_last]
  simp [hi]
theorem bt_1 : ∀ i, i < 32 → bt 1 i = decide (i = 0) := by decide +kernel
theorem and1 (y : Int32) : (y &&& 1) = 1 ↔ bt y 0 = true := by
  constructor
  · intro h
    have h1 : bt (y &&& 1) 0 = bt 1 0 := by rw [h]
    rw [b_and, bt_1 0 (by decide)] at h1
    simpa using h1
  · intro h
    refine b_ext (fun i hi => ?_)
    rw [b_and, bt_1 i hi]
    by_cases e : i = 0
    · subst e; rw [h]; rfl
    · rw [decide_eq_false e, Bool.and_false]
theorem has_bt {x : Int32} {k : Nat} (hk : k < 32) : hasB x k ↔ bt x k = true := by
  show ((x >>> (nI k &&& 31)) &&& 1) = 1 ↔ _
  rw [and1, b_sshr k hk x (by decide), if_pos (by omega)]; rfl
theorem has_or {a b : Int32} {k : Nat} (hk : k < 32) : hasB (a ||| b) k ↔ hasB a k ∨ hasB b k := by
  rw [has_bt hk, has_bt hk, has_bt hk, b_or, Bool.or_eq_true]
theorem has_bit {g k : Nat} (hg : g < 32) (hk : k < 32) : hasB (1 <<< (nI g &&& 31)) k ↔ k = g := by
  rw [has_bt hk, b_shl g hg 1 hk, Bool.and_eq_true, decide_eq_true_eq, bt_1 (k - g) (by omega), decide_eq_true_eq]; omega
theorem frN_mono {a b : Int32} : ∀ k, (∀ j, j < k → hasB a j → hasB b j) → frN b k ≤ frN a k
  | 0, _ => Nat.le_refl _
  | k + 1, h => by
    have ih := frN_mono k (fun j hj => h j (by omega))
    show (if hasB b k then frN b k else frN b k + 1) ≤ (if hasB a k then frN a k else frN a k + 1)
    by_cases e : hasB a k
    · rw [if_pos e, if_pos (h k (by omega) e)]; exact ih
    · rw [if_neg e]; split <;> omega
theorem frN_dec {a b : Int32} {g : Nat} (h1 : ¬ hasB a g) (h2 : hasB b g) : ∀ k, g < k → (∀ j, j < k → hasB a j → hasB b j) → frN b k + 1 ≤ frN a k
  | 0, h, _ => absurd h (by omega)
  | k + 1, h, hm => by
    show (if hasB b k then frN b k else frN b k + 1) + 1 ≤ (if hasB a k then frN a k else frN a k + 1)
    by_cases e : g = k
    · subst e
      rw [if_pos h2, if_neg h1]
      have := frN_mono g (fun j hj => hm j (by omega)); omega
    · have ih := frN_dec h1 h2 k (by omega) (fun j hj => hm j (by omega))
      by_cases e2 : hasB a k
      · rw [if_pos e2, if_pos (hm k (by omega) e2)]; exact ih
      · rw [if_neg e2]; split <;> omega
theorem fr_take {tk : Int32} {g m : Nat} (hg : g < 8) (h : ¬ hasB tk g) : frN (tk ||| ((1 <<< (nI g &&& 31)) ||| (1 <<< (nI m &&& 31)))) 8 + 1 ≤ frN tk 8 :=
  frN_dec h ((has_or (by omega)).mpr (Or.inr ((has_or (by omega)).mpr (Or.inl ((has_bit (by omega) (by omega)).mpr rfl))))) 8 hg (fun j hj q => (has_or (by omega)).mpr (Or.inl q))
def maR (t n : Nat → Int32) (nc np : Nat) (x : Int32) : Int32 := if ¬ x = -1 ∧ ¬ isG t x then cUNK else if x = -1 then nI (mkN t n nc np 8 0) else mkM t n nc np (fun _ => -1) (mkN t n nc np 8 0) (cl x)
theorem mkM_c {t n f g : Nat → Int32} {nc np : Nat} (h : ∀ k, k < 8 → f k = g k) : ∀ r k, k < 8 → mkM t n nc np f r k = mkM t n nc np g r k
  | 0, k, hk => h k hk
  | r + 1, k, hk => by
    show upd (mkM t n nc np f r) _ _ k = upd (mkM t n nc np g r) _ _ k
    unfold upd
    split
    · rfl
    · exact mkM_c h r k hk
theorem mkN_st {t n : Nat → Int32} {nc np r m : Nat} (h : ¬ (bpR t n nc np (mkT t n nc np r)).2.1 = -1) : mkN t n nc np (m + 1) r = mkN t n nc np m (r + 1) := if_neg h
theorem mkN_ex {t n : Nat → Int32} {nc np r m : Nat} (h : (bpR t n nc np (mkT t n nc np r)).2.1 = -1) : mkN t n nc np m r = r := by
  cases m
  · rfl
  · exact if_pos h
theorem nD_s (t n : Nat → Int32) (nc np sd k : Nat) {X : Nat → Int32} (h : X = dfN t nc np (nD t nc np n sd k) (sD np sd k)) : qgF t X nc np = nD t nc np n sd (k + 1) := by rw [h]; rfl
theorem psD_s (t n ps : Nat → Int32) (nc np sd un k : Nat) : rmP (nD t nc np n sd k) (psD t nc np n ps sd un k) (unQ un k) = psD t nc np n ps sd un (k + 1) := rfl
theorem drI_x (i : Nat → Int32) (un k : Nat) (s0 s1 s2 s3 : Int32) : upd (upd (upd (rmI (upd (upd i 5 (nI (unQ un k))) 8 s0) (unQ un k)) 8 s1) 8 s2) 8 s3 = upd (upd i 5 (nI (unQ un (k + 1)))) 8 s3 := drI_eq i _ s0 (nI (rmU (unQ un k))) s1 s2 s3 0
theorem drI_x0 (i : Nat → Int32) (un k : Nat) (s0 : Int32) : rmI (upd (upd i 5 (nI (unQ un k))) 8 s0) (unQ un k) = upd (upd i 5 (nI (unQ un (k + 1)))) 8 s0 := drI_eq0 i _ s0 (nI (rmU (unQ un k)))
theorem nI_m1 {k : Nat} (hk : k < 2147483648) : ¬ nI k = -1 := by
  intro h
  have h2 := congrArg Int32.toInt h
  rw [nI_toInt hk, show (-1 : Int32).toInt = -1 from rfl] at h2
  omega
/-- an equation that omega doesn't look at -/
def hid (P : Prop) : Prop := P
theorem ri8 (i : Nat → Int32) (u s : Int32) (v : Nat) : rmI (upd (upd i 5 u) 8 s) v 8 = s := by unfold rmI; rw [upd_ne (by decide), upd_at]
