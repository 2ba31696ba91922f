def pkW (G : gG) (f0 f1 b0 b1 b2 b3 : Nat) (es co t : Nat → Int32) : va_W := [(f0, oA 5 [.ref f1, .int (es 4), .int (es 5)]), (f1, iA G 1000 co), (b0, oA 8 [.int (t 0), .int (t 1), .int (t 2), .int (t 3), .int (t 4), .int (t 21), .ref b1, .ref b2, .ref b3]), (b1, iA G 4 (fun k => t (9 + k))), (b2, iA G 4 (fun k => t (13 + k))), (b3, iA G 4 (fun k => t (17 + k)))]
theorem pkW_f {G : gG} {f0 f1 b0 b1 b2 b3 : Nat} {es co t : Nat → Int32} : (pkW G f0 f1 b0 b1 b2 b3 es co t).map Prod.fst = [f0, f1, b0, b1, b2, b3] := rfl
theorem pkW_p0_1 {G : gG} {f0 f1 b0 b1 b2 b3 : Nat} {es co t : Nat → Int32} {v : Int32} : wQ ((pkW G f0 f1 b0 b1 b2 b3 es co t).set 0 (f0, oA 5 ([.ref f1, .int (es 4), .int (es 5)].set 1 (.int v)))) (pkW G f0 f1 b0 b1 b2 b3 (upd es 4 v) co t) := wQ_c (cQ_e rfl) (wQ_c (cQ_e rfl) (wQ_c (cQ_e rfl) (wQ_c (cQ_e rfl) (wQ_c (cQ_e rfl) (wQ_c (cQ_e rfl) (wQ_n))))))
theorem pkW_p0_2 {G : gG} {f0 f1 b0 b1 b2 b3 : Nat} {es co t : Nat → Int32} {v : Int32} : wQ ((pkW G f0 f1 b0 b1 b2 b3 es co t).set 0 (f0, oA 5 ([.ref f1, .int (es 4), .int (es 5)].set 2 (.int v)))) (pkW G f0 f1 b0 b1 b2 b3 (upd es 5 v) co t) := wQ_c (cQ_e rfl) (wQ_c (cQ_e rfl) (wQ_c (cQ_e rfl) (wQ_c (cQ_e rfl) (wQ_c (cQ_e rfl) (wQ_c (cQ_e rfl) (wQ_n))))))
theorem pkW_r1 {G : gG} {f0 f1 b0 b1 b2 b3 : Nat} {es co t : Nat → Int32} {j : Nat} {v : Int32} (hj : j < 1000) : wQ ((pkW G f0 f1 b0 b1 b2 b3 es co t).set 1 (f1, iA G 1000 (upd co j v))) (pkW G f0 f1 b0 b1 b2 b3 es (upd co (j) v) t) := wQ_c (cQ_e rfl) (wQ_c (cQ_row (fun k hk => rfl)) (wQ_c (cQ_e rfl) (wQ_c (cQ_e rfl) (wQ_c (cQ_e rfl) (wQ_c (cQ_e rfl) (wQ_n))))))
theorem pkW_p2_0 {G : gG} {f0 f1 b0 b1 b2 b3 : Nat} {es co t : Nat → Int32} {v : Int32} : wQ ((pkW G f0 f1 b0 b1 b2 b3 es co t).set 2 (b0, oA 8 ([.int (t 0), .int (t 1), .int (t 2), .int (t 3), .int (t 4), .int (t 21), .ref b1, .ref b2, .ref b3].set 0 (.int v)))) (pkW G f0 f1 b0 b1 b2 b3 es co (upd t 0 v)) := wQ_c (cQ_e rfl) (wQ_c (cQ_e rfl) (wQ_c (cQ_e rfl) (wQ_c (cQ_row (fun k hk => (upd_ne (by omega)).symm)) (wQ_c (cQ_row (fun k hk => (upd_ne (by omega)).symm)) (wQ_c (cQ_row (fun k hk => (upd_ne (by omega)).symm)) (wQ_n))))))
theorem pkW_p2_1 {G : gG} {f0 f1 b0 b1 b2 b3 : Nat} {es co t : Nat → Int32} {v : Int32} : wQ ((pkW G f0 f1 b0 b1 b2 b3 es co t).set 2 (b0, oA 8 ([.int (t 0), .int (t 1), .int (t 2), .int (t 3), .int (t 4), .int (t 21), .ref b1, .ref b2, .ref b3].set 1 (.int v)))) (pkW G f0 f1 b0 b1 b2 b3 es co (upd t 1 v)) := wQ_c (cQ_e rfl) (wQ_c (cQ_e rfl) (wQ_c (cQ_e rfl) (wQ_c (cQ_row (fun k hk => (upd_ne (by omega)).symm)) (wQ_c (cQ_row (fun k hk => (upd_ne (by omega)).symm)) (wQ_c (cQ_row (fun k hk => (upd_ne (by omega)).symm)) (wQ_n))))))
theorem pkW_p2_2 {G : gG} {f0 f1 b0 b1 b2 b3 : Nat} {es co t : Nat → Int32} {v : Int32} : wQ ((pkW G f0 f1 b0 b1 b2 b3 es co t).set 2 (b0, oA 8 ([.int (t 0), .int (t 1), .int (t 2), .int (t 3), .int (t 4), .int (t 21), .ref b1, .ref b2, .ref b3].set 2 (.int v)))) (pkW G f0 f1 b0 b1 b2 b3 es co (upd t 2 v)) := wQ_c (cQ_e rfl) (wQ_c (cQ_e rfl) (wQ_c (cQ_e rfl) (wQ_c (cQ_row (fun k hk => (upd_ne (by omega)).symm)) (wQ_c (cQ_row (fun k hk => (upd_ne (by omega)).symm)) (wQ_c (cQ_row (fun k hk => (upd_ne (by omega)).symm)) (wQ_n))))))
theorem pkW_p2_3 {G : gG} {f0 f1 b0 b1 b2 b3 : Nat} {es co t : Nat → Int32} {v : Int32} : wQ ((pkW G f0 f1 b0 b1 b2 b3 es co t).set 2 (b0, oA 8 ([.int (t 0), .int (t 1), .int (t 2), .int (t 3), .int (t 4), .int (t 21), .ref b1, .ref b2, .ref b3].set 3 (.int v)))) (pkW G f0 f1 b0 b1 b2 b3 es co (upd t 3 v)) := wQ_c (cQ_e rfl) (wQ_c (cQ_e rfl) (wQ_c (cQ_e rfl) (wQ_c (cQ_row (fun k hk => (upd_ne (by omega)).symm)) (wQ_c (cQ_row (fun k hk => (upd_ne (by omega)).symm)) (wQ_c (cQ_row (fun k hk => (upd_ne (by omega)).symm)) (wQ_n))))))
theorem pkW_p2_4 {G : gG} {f0 f1 b0 b1 b2 b3 : Nat} {es co t : Nat → Int32} {v : Int32} : wQ ((pkW G f0 f1 b0 b1 b2 b3 es co t).set 2 (b0, oA 8 ([.int (t 0), .int (t 1), .int (t 2), .int (t 3), .int (t 4), .int (t 21), .ref b1, .ref b2, .ref b3].set 4 (.int v)))) (pkW G f0 f1 b0 b1 b2 b3 es co (upd t 4 v)) := wQ_c (cQ_e rfl) (wQ_c (cQ_e rfl) (wQ_c (cQ_e rfl) (wQ_c (cQ_row (fun k hk => (upd_ne (by omega)).symm)) (wQ_c (cQ_row (fun k hk => (upd_ne (by omega)).symm)) (wQ_c (cQ_row (fun k hk => (upd_ne (by omega)).symm)) (wQ_n))))))
theorem pkW_p2_5 {G : gG} {f0 f1 b0 b1 b2 b3 : Nat} {es co t : Nat → Int32} {v : Int32} : wQ ((pkW G f0 f1 b0 b1 b2 b3 es co t).set 2 (b0, oA 8 ([.int (t 0), .int (t 1), .int (t 2), .int (t 3), .int (t 4), .int (t 21), .ref b1, .ref b2, .ref b3].set 5 (.int v)))) (pkW G f0 f1 b0 b1 b2 b3 es co (upd t 21 v)) := wQ_c (cQ_e rfl) (wQ_c (cQ_e rfl) (wQ_c (cQ_e rfl) (wQ_c (cQ_row (fun k hk => (upd_ne (by omega)).symm)) (wQ_c (cQ_row (fun k hk => (upd_ne (by omega)).symm)) (wQ_c (cQ_row (fun k hk => (upd_ne (by omega)).symm)) (wQ_n))))))
theorem pkW_r3 {G : gG} {f0 f1 b0 b1 b2 b3 : Nat} {es co t : Nat → Int32} {j : Nat} {v : Int32} (hj : j < 4) : wQ ((pkW G f0 f1 b0 b1 b2 b3 es co t).set 3 (b1, iA G 4 (upd (fun k => t (9 + k)) j v))) (pkW G f0 f1 b0 b1 b2 b3 es co (upd t (9 + j) v)) := wQ_c (cQ_e rfl) (wQ_c (cQ_e rfl) (wQ_c (cQ_e (by simp only [upd_ne (show (0 : Nat) ≠ 9 + j by omega), upd_ne (show (1 : Nat) ≠ 9 + j by omega), upd_ne (show (2 : Nat) ≠ 9 + j by omega), upd_ne (show (3 : Nat) ≠ 9 + j by omega), upd_ne (show (4 : Nat) ≠ 9 + j by omega), upd_ne (show (21 : Nat) ≠ 9 + j by omega)])) (wQ_c (cQ_row (fun k hk => upd_view k)) (wQ_c (cQ_row (fun k hk => (upd_ne (by omega)).symm)) (wQ_c (cQ_row (fun k hk => (upd_ne (by omega)).symm)) (wQ_n))))))
theorem pkW_r4 {G : gG} {f0 f1 b0 b1 b2 b3 : Nat} {es co t : Nat → Int32} {j : Nat} {v : Int32} (hj : j < 4) : wQ ((pkW G f0 f1 b0 b1 b2 b3 es co t).set 4 (b2, iA G 4 (upd (fun k => t (13 + k)) j v))) (pkW G f0 f1 b0 b1 b2 b3 es co (upd t (13 + j) v)) := wQ_c (cQ_e rfl) (wQ_c (cQ_e rfl) (wQ_c (cQ_e (by simp only [upd_ne (show (0 : Nat) ≠ 13 + j by omega), upd_ne (show (1 : Nat) ≠ 13 + j by omega), upd_ne (show (2 : Nat) ≠ 13 + j by omega), upd_ne (show (3 : Nat) ≠ 13 + j by omega), upd_ne (show (4 : Nat) ≠ 13 + j by omega), upd_ne (show (21 : Nat) ≠ 13 + j by omega)])) (wQ_c (cQ_row (fun k hk => (upd_ne (by omega)).symm)) (wQ_c (cQ_row (fun k hk => upd_view k)) (wQ_c (cQ_row (fun k hk => (upd_ne (by omega)).symm)) (wQ_n))))))
theorem pkW_r5 {G : gG} {f0 f1 b0 b1 b2 b3 : Nat} {es co t : Nat → Int32} {j : Nat} {v : Int32} (hj : j < 4) : wQ ((pkW G f0 f1 b0 b1 b2 b3 es co t).set 5 (b3, iA G 4 (upd (fun k => t (17 + k)) j v))) (pkW G f0 f1 b0 b1 b2 b3 es co (upd t (17 + j) v)) := wQ_c (cQ_e rfl) (wQ_c (cQ_e rfl) (wQ_c (cQ_e (by simp only [upd_ne (show (0 : Nat) ≠ 17 + j by omega), upd_ne (show (1 : Nat) ≠ 17 + j by omega), upd_ne (show (2 : Nat) ≠ 17 + j by omega), upd_ne (show (3 : Nat) ≠ 17 + j by omega), upd_ne (show (4 : Nat) ≠ 17 + j by omega), upd_ne (show (21 : Nat) ≠ 17 + j by omega)])) (wQ_c (cQ_row (fun k hk => (upd_ne (by omega)).symm)) (wQ_c (cQ_row (fun k hk => (upd_ne (by omega)).symm)) (wQ_c (cQ_row (fun k hk => upd_view k)) (wQ_n))))))
theorem inB_lo {x lo hi : Int32} {a : Nat} (hlo : lo = nI a) (ha : a < 2147483648) (h : x < 0) : ¬ inB x lo hi := by
  intro q
  have h1 := q.1
  have h2 := nI_pos' ha
  rw [hlo] at h1
  rw [Int32.le_iff_toInt_le] at h1 h2
  rw [Int32.lt_iff_toInt_lt] at h
  omega
theorem inB_hi {x lo hi : Int32} {b : Nat} (hhi : hi = nI b) (hb : b ≤ 999) (h : 999 < x) : ¬ inB x lo hi := by
  intro q
  have h1 := q.2
  rw [hhi, Int32.le_iff_toInt_le, nI_toInt (by omega)] at h1
  rw [Int32.lt_iff_toInt_lt, show (999 : Int32).toInt = 999 by decide] at h
  omega
theorem mn_hi {x : Int32} {ow hi : Nat} (hx : x = nI hi) (h1 : ow < 2147483648) (h2 : hi < 2147483648) : (if x < nI ow then x else nI ow) = nI (min ow hi) := by
  subst hx
  by_cases e : hi < ow
  · rw [if_pos ((nI_ltI h2 h1).mpr e), Nat.min_eq_right (by omega)]
  · rw [if_neg (fun q => e ((nI_ltI h2 h1).mp q)), Nat.min_eq_left (by omega)]
theorem upd4 {f : Nat → Int32} {a b : Nat} {x y x2 y2 : Int32} (h : a ≠ b) : upd (upd (upd (upd f a x) b y) a x2) b y2 = upd (upd f a x2) b y2 := by
  funext k
  by_cases h2 : k = b
  · subst h2; rw [upd_at, upd_at]
  · rw [upd_ne h2, upd_ne h2]
    by_cases h1 : k = a
    · subst h1; rw [upd_at, upd_at]
    · rw [upd_ne h1, upd_ne h2, upd_ne h1, upd_ne h1]

