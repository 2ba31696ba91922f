section LBOTH
variable {l : Launch} {G : gG} {a b : Nat → Nat} {ra : Nat → Nat → Nat} {nR : Nat} {w : va_W}
theorem two_feed_b (hnR : nR = 30) (hw : LI G a b ra nR w) (x1 : Int32) : Two l yX9_feed wsX9_feed ({ frames := 1, cells := 0, slots := 0, locals := 21 } : Room) yX10_feed wsX10_feed ({ frames := 1, cells := 0, slots := 0, locals := 25 } : Room) G a b (LI G a b ra nR) w [.int x1] := by
  rcases hw with ⟨i, j, t, r, n, d, ps, im, kp, tx, cd, bk, py, pt, mt, eo, es, tc, d2, rt, rn, su, co, mo, m0, m1, s, em, rg, nc, np, un, od, rfl, hA, hT, hH, hI⟩ | ⟨i, j, t, r, n, d, ps, im, kp, tx, cd, bk, py, pt, mt, eo, es, tc, nk, d2, rt, rn, su, co, mo, m0, m1, s, em, rg, rfl, hA, hZ, hN, hK, hI⟩
  · exact two1_feed hnR hA hT hH hI x1
  · exact two0_feed hnR hA hZ hN hK hI x1
theorem two_town_b (hnR : nR = 30) (hw : LI G a b ra nR w)  : Two l yX9_town wsX9_town ({ frames := 6, cells := 0, slots := 0, locals := 132 } : Room) yX10_town wsX10_town ({ frames := 5, cells := 0, slots := 0, locals := 111 } : Room) G a b (LI G a b ra nR) w [] := by
  rcases hw with ⟨i, j, t, r, n, d, ps, im, kp, tx, cd, bk, py, pt, mt, eo, es, tc, d2, rt, rn, su, co, mo, m0, m1, s, em, rg, nc, np, un, od, rfl, hA, hT, hH, hI⟩ | ⟨i, j, t, r, n, d, ps, im, kp, tx, cd, bk, py, pt, mt, eo, es, tc, nk, d2, rt, rn, su, co, mo, m0, m1, s, em, rg, rfl, hA, hZ, hN, hK, hI⟩
  · exact two1_town hnR hA hT hH hI 
  · exact two0_town hnR hA hZ hN hK hI 
theorem two_fault_b (hnR : nR = 30) (hw : LI G a b ra nR w)  : Two l yX9_fault wsX9_fault ({ frames := 0, cells := 0, slots := 0, locals := 0 } : Room) yX10_fault wsX10_fault ({ frames := 0, cells := 0, slots := 0, locals := 0 } : Room) G a b (LI G a b ra nR) w [] := by
  rcases hw with ⟨i, j, t, r, n, d, ps, im, kp, tx, cd, bk, py, pt, mt, eo, es, tc, d2, rt, rn, su, co, mo, m0, m1, s, em, rg, nc, np, un, od, rfl, hA, hT, hH, hI⟩ | ⟨i, j, t, r, n, d, ps, im, kp, tx, cd, bk, py, pt, mt, eo, es, tc, nk, d2, rt, rn, su, co, mo, m0, m1, s, em, rg, rfl, hA, hZ, hN, hK, hI⟩
  · exact two1_fault hnR hA hT hH hI 
  · exact two0_fault hnR hA hZ hN hK hI 
theorem two_told_b (hnR : nR = 30) (hw : LI G a b ra nR w) (x1 : Int32) : Two l yX9_told wsX9_told ({ frames := 3, cells := 0, slots := 0, locals := 67 } : Room) yX10_told wsX10_told ({ frames := 2, cells := 0, slots := 0, locals := 46 } : Room) G a b (LI G a b ra nR) w [.int x1] := by
  rcases hw with ⟨i, j, t, r, n, d, ps, im, kp, tx, cd, bk, py, pt, mt, eo, es, tc, d2, rt, rn, su, co, mo, m0, m1, s, em, rg, nc, np, un, od, rfl, hA, hT, hH, hI⟩ | ⟨i, j, t, r, n, d, ps, im, kp, tx, cd, bk, py, pt, mt, eo, es, tc, nk, d2, rt, rn, su, co, mo, m0, m1, s, em, rg, rfl, hA, hZ, hN, hK, hI⟩
  · exact two1_told hnR hA hT hH hI x1
  · exact two0_told hnR hA hZ hN hK hI x1
theorem two_creditor_b (hnR : nR = 30) (hw : LI G a b ra nR w) (x1 x2 : Int32) : Two l yX9_creditor wsX9_creditor ({ frames := 4, cells := 0, slots := 0, locals := 90 } : Room) yX10_creditor wsX10_creditor ({ frames := 3, cells := 0, slots := 0, locals := 69 } : Room) G a b (LI G a b ra nR) w [.int x1, .int x2] := by
  rcases hw with ⟨i, j, t, r, n, d, ps, im, kp, tx, cd, bk, py, pt, mt, eo, es, tc, d2, rt, rn, su, co, mo, m0, m1, s, em, rg, nc, np, un, od, rfl, hA, hT, hH, hI⟩ | ⟨i, j, t, r, n, d, ps, im, kp, tx, cd, bk, py, pt, mt, eo, es, tc, nk, d2, rt, rn, su, co, mo, m0, m1, s, em, rg, rfl, hA, hZ, hN, hK, hI⟩
  · exact two1_creditor hnR hA hT hH hI x1 x2
  · exact two0_creditor hnR hA hZ hN hK hI x1 x2
theorem two_person_b (hnR : nR = 30) (hw : LI G a b ra nR w) (x1 x2 : Int32) : Two l yX9_person wsX9_person ({ frames := 4, cells := 0, slots := 0, locals := 89 } : Room) yX10_person wsX10_person ({ frames := 3, cells := 0, slots := 0, locals := 70 } : Room) G a b (LI G a b ra nR) w [.int x1, .int x2] := by
  rcases hw with ⟨i, j, t, r, n, d, ps, im, kp, tx, cd, bk, py, pt, mt, eo, es, tc, d2, rt, rn, su, co, mo, m0, m1, s, em, rg, nc, np, un, od, rfl, hA, hT, hH, hI⟩ | ⟨i, j, t, r, n, d, ps, im, kp, tx, cd, bk, py, pt, mt, eo, es, tc, nk, d2, rt, rn, su, co, mo, m0, m1, s, em, rg, rfl, hA, hZ, hN, hK, hI⟩
  · exact two1_person hnR hA hT hH hI x1 x2
  · exact two0_person hnR hA hZ hN hK hI x1 x2
theorem two_owes_b (hnR : nR = 30) (hw : LI G a b ra nR w) (x1 x2 : Int32) : Two l yX9_owes wsX9_owes ({ frames := 2, cells := 0, slots := 0, locals := 43 } : Room) yX10_owes wsX10_owes ({ frames := 2, cells := 0, slots := 0, locals := 46 } : Room) G a b (LI G a b ra nR) w [.int x1, .int x2] := by
  rcases hw with ⟨i, j, t, r, n, d, ps, im, kp, tx, cd, bk, py, pt, mt, eo, es, tc, d2, rt, rn, su, co, mo, m0, m1, s, em, rg, nc, np, un, od, rfl, hA, hT, hH, hI⟩ | ⟨i, j, t, r, n, d, ps, im, kp, tx, cd, bk, py, pt, mt, eo, es, tc, nk, d2, rt, rn, su, co, mo, m0, m1, s, em, rg, rfl, hA, hZ, hN, hK, hI⟩
  · exact two1_owes hnR hA hT hH hI x1 x2
  · exact two0_owes hnR hA hZ hN hK hI x1 x2
theorem two_temper_b (hnR : nR = 30) (hw : LI G a b ra nR w) (x1 x2 : Int32) : Two l yX9_temper wsX9_temper ({ frames := 3, cells := 0, slots := 0, locals := 66 } : Room) yX10_temper wsX10_temper ({ frames := 2, cells := 0, slots := 0, locals := 46 } : Room) G a b (LI G a b ra nR) w [.int x1, .int x2] := by
  rcases hw with ⟨i, j, t, r, n, d, ps, im, kp, tx, cd, bk, py, pt, mt, eo, es, tc, d2, rt, rn, su, co, mo, m0, m1, s, em, rg, nc, np, un, od, rfl, hA, hT, hH, hI⟩ | ⟨i, j, t, r, n, d, ps, im, kp, tx, cd, bk, py, pt, mt, eo, es, tc, nk, d2, rt, rn, su, co, mo, m0, m1, s, em, rg, rfl, hA, hZ, hN, hK, hI⟩
  · exact two1_temper hnR hA hT hH hI x1 x2
  · exact two0_temper hnR hA hZ hN hK hI x1 x2
theorem two_borrow_b (hnR : nR = 30) (hw : LI G a b ra nR w) (x1 x2 x3 : Int32) : Two l yX9_borrow wsX9_borrow ({ frames := 4, cells := 0, slots := 0, locals := 86 } : Room) yX10_borrow wsX10_borrow ({ frames := 5, cells := 0, slots := 0, locals := 111 } : Room) G a b (LI G a b ra nR) w [.int x1, .int x2, .int x3] := by
  rcases hw with ⟨i, j, t, r, n, d, ps, im, kp, tx, cd, bk, py, pt, mt, eo, es, tc, d2, rt, rn, su, co, mo, m0, m1, s, em, rg, nc, np, un, od, rfl, hA, hT, hH, hI⟩ | ⟨i, j, t, r, n, d, ps, im, kp, tx, cd, bk, py, pt, mt, eo, es, tc, nk, d2, rt, rn, su, co, mo, m0, m1, s, em, rg, rfl, hA, hZ, hN, hK, hI⟩
  · exact two1_borrow hnR hA hT hH hI x1 x2 x3
  · exact two0_borrow hnR hA hZ hN hK hI x1 x2 x3
theorem two_pay_b (hnR : nR = 30) (hw : LI G a b ra nR w) (x1 x2 x3 : Int32) : Two l yX9_pay wsX9_pay ({ frames := 3, cells := 0, slots := 0, locals := 68 } : Room) yX10_pay wsX10_pay ({ frames := 2, cells := 0, slots := 0, locals := 46 } : Room) G a b (LI G a b ra nR) w [.int x1, .int x2, .int x3] := by
  rcases hw with ⟨i, j, t, r, n, d, ps, im, kp, tx, cd, bk, py, pt, mt, eo, es, tc, d2, rt, rn, su, co, mo, m0, m1, s, em, rg, nc, np, un, od, rfl, hA, hT, hH, hI⟩ | ⟨i, j, t, r, n, d, ps, im, kp, tx, cd, bk, py, pt, mt, eo, es, tc, nk, d2, rt, rn, su, co, mo, m0, m1, s, em, rg, rfl, hA, hZ, hN, hK, hI⟩
  · exact two1_pay hnR hA hT hH hI x1 x2 x3
  · exact two0_pay hnR hA hZ hN hK hI x1 x2 x3
theorem two_quarter_b (hnR : nR = 30) (hw : LI G a b ra nR w) (x1 : Int32) : Two l yX9_quarter wsX9_quarter ({ frames := 5, cells := 0, slots := 0, locals := 111 } : Room) yX10_quarter wsX10_quarter ({ frames := 4, cells := 0, slots := 0, locals := 92 } : Room) G a b (LI G a b ra nR) w [.int x1] := by
  rcases hw with ⟨i, j, t, r, n, d, ps, im, kp, tx, cd, bk, py, pt, mt, eo, es, tc, d2, rt, rn, su, co, mo, m0, m1, s, em, rg, nc, np, un, od, rfl, hA, hT, hH, hI⟩ | ⟨i, j, t, r, n, d, ps, im, kp, tx, cd, bk, py, pt, mt, eo, es, tc, nk, d2, rt, rn, su, co, mo, m0, m1, s, em, rg, rfl, hA, hZ, hN, hK, hI⟩
  · exact two1_quarter hnR hA hT hH hI x1
  · exact two0_quarter hnR hA hZ hN hK hI x1
theorem two_wed_b (hnR : nR = 30) (hw : LI G a b ra nR w) (x1 x2 : Int32) : Two l yX9_wed wsX9_wed ({ frames := 4, cells := 0, slots := 0, locals := 89 } : Room) yX10_wed wsX10_wed ({ frames := 3, cells := 0, slots := 0, locals := 70 } : Room) G a b (LI G a b ra nR) w [.int x1, .int x2] := by
  rcases hw with ⟨i, j, t, r, n, d, ps, im, kp, tx, cd, bk, py, pt, mt, eo, es, tc, d2, rt, rn, su, co, mo, m0, m1, s, em, rg, nc, np, un, od, rfl, hA, hT, hH, hI⟩ | ⟨i, j, t, r, n, d, ps, im, kp, tx, cd, bk, py, pt, mt, eo, es, tc, nk, d2, rt, rn, su, co, mo, m0, m1, s, em, rg, rfl, hA, hZ, hN, hK, hI⟩
  · exact two1_wed hnR hA hT hH hI x1 x2
  · exact two0_wed hnR hA hZ hN hK hI x1 x2
theorem two_divorce_b (hnR : nR = 30) (hw : LI G a b ra nR w) (x1 : Int32) : Two l yX9_divorce wsX9_divorce ({ frames := 3, cells := 0, slots := 0, locals := 68 } : Room) yX10_divorce wsX10_divorce ({ frames := 3, cells := 0, slots := 0, locals := 67 } : Room) G a b (LI G a b ra nR) w [.int x1] := by
  rcases hw with ⟨i, j, t, r, n, d, ps, im, kp, tx, cd, bk, py, pt, mt, eo, es, tc, d2, rt, rn, su, co, mo, m0, m1, s, em, rg, nc, np, un, od, rfl, hA, hT, hH, hI⟩ | ⟨i, j, t, r, n, d, ps, im, kp, tx, cd, bk, py, pt, mt, eo, es, tc, nk, d2, rt, rn, su, co, mo, m0, m1, s, em, rg, rfl, hA, hZ, hN, hK, hI⟩
  · exact two1_divorce hnR hA hT hH hI x1
  · exact two0_divorce hnR hA hZ hN hK hI x1
theorem two_drift_b (hnR : nR = 30) (hw : LI G a b ra nR w) (x1 : Int32) : Two l yX9_drift wsX9_drift ({ frames := 5, cells := 0, slots := 0, locals := 111 } : Room) yX10_drift wsX10_drift ({ frames := 5, cells := 0, slots := 0, locals := 111 } : Room) G a b (LI G a b ra nR) w [.int x1] := by
  rcases hw with ⟨i, j, t, r, n, d, ps, im, kp, tx, cd, bk, py, pt, mt, eo, es, tc, d2, rt, rn, su, co, mo, m0, m1, s, em, rg, nc, np, un, od, rfl, hA, hT, hH, hI⟩ | ⟨i, j, t, r, n, d, ps, im, kp, tx, cd, bk, py, pt, mt, eo, es, tc, nk, d2, rt, rn, su, co, mo, m0, m1, s, em, rg, rfl, hA, hZ, hN, hK, hI⟩
  · exact two1_drift hnR hA hT hH hI x1
  · exact two0_drift hnR hA hZ hN hK hI x1
theorem two_undo_b (hnR : nR = 30) (hw : LI G a b ra nR w) (x1 : Int32) : Two l yX9_undo wsX9_undo ({ frames := 3, cells := 0, slots := 0, locals := 64 } : Room) yX10_undo wsX10_undo ({ frames := 1, cells := 0, slots := 0, locals := 25 } : Room) G a b (LI G a b ra nR) w [.int x1] := by
  rcases hw with ⟨i, j, t, r, n, d, ps, im, kp, tx, cd, bk, py, pt, mt, eo, es, tc, d2, rt, rn, su, co, mo, m0, m1, s, em, rg, nc, np, un, od, rfl, hA, hT, hH, hI⟩ | ⟨i, j, t, r, n, d, ps, im, kp, tx, cd, bk, py, pt, mt, eo, es, tc, nk, d2, rt, rn, su, co, mo, m0, m1, s, em, rg, rfl, hA, hZ, hN, hK, hI⟩
  · exact two1_undo hnR hA hT hH hI x1
  · exact two0_undo hnR hA hZ hN hK hI x1
theorem two_joined_b (hnR : nR = 30) (hw : LI G a b ra nR w) (x1 x2 : Int32) : Two l yX9_joined wsX9_joined ({ frames := 3, cells := 0, slots := 0, locals := 70 } : Room) yX10_joined wsX10_joined ({ frames := 4, cells := 0, slots := 0, locals := 92 } : Room) G a b (LI G a b ra nR) w [.int x1, .int x2] := by
  rcases hw with ⟨i, j, t, r, n, d, ps, im, kp, tx, cd, bk, py, pt, mt, eo, es, tc, d2, rt, rn, su, co, mo, m0, m1, s, em, rg, nc, np, un, od, rfl, hA, hT, hH, hI⟩ | ⟨i, j, t, r, n, d, ps, im, kp, tx, cd, bk, py, pt, mt, eo, es, tc, nk, d2, rt, rn, su, co, mo, m0, m1, s, em, rg, rfl, hA, hZ, hN, hK, hI⟩
  · exact two1_joined hnR hA hT hH hI x1 x2
  · exact two0_joined hnR hA hZ hN hK hI x1 x2
theorem two_least_b (hnR : nR = 30) (hw : LI G a b ra nR w) (x1 x2 x3 : Int32) : Two l yX9_least wsX9_least ({ frames := 6, cells := 0, slots := 0, locals := 137 } : Room) yX10_least wsX10_least ({ frames := 4, cells := 0, slots := 0, locals := 88 } : Room) G a b (LI G a b ra nR) w [.int x1, .int x2, .int x3] := by
  rcases hw with ⟨i, j, t, r, n, d, ps, im, kp, tx, cd, bk, py, pt, mt, eo, es, tc, d2, rt, rn, su, co, mo, m0, m1, s, em, rg, nc, np, un, od, rfl, hA, hT, hH, hI⟩ | ⟨i, j, t, r, n, d, ps, im, kp, tx, cd, bk, py, pt, mt, eo, es, tc, nk, d2, rt, rn, su, co, mo, m0, m1, s, em, rg, rfl, hA, hZ, hN, hK, hI⟩
  · exact two1_least hnR hA hT hH hI x1 x2 x3
  · exact two0_least hnR hA hZ hN hK hI x1 x2 x3
theorem two_plan_b (hnR : nR = 30) (hw : LI G a b ra nR w) (x1 x2 x3 x4 : Int32) : Two l yX9_plan wsX9_plan ({ frames := 5, cells := 0, slots := 0, locals := 119 } : Room) yX10_plan wsX10_plan ({ frames := 3, cells := 0, slots := 0, locals := 66 } : Room) G a b (LI G a b ra nR) w [.int x1, .int x2, .int x3, .int x4] := by
  rcases hw with ⟨i, j, t, r, n, d, ps, im, kp, tx, cd, bk, py, pt, mt, eo, es, tc, d2, rt, rn, su, co, mo, m0, m1, s, em, rg, nc, np, un, od, rfl, hA, hT, hH, hI⟩ | ⟨i, j, t, r, n, d, ps, im, kp, tx, cd, bk, py, pt, mt, eo, es, tc, nk, d2, rt, rn, su, co, mo, m0, m1, s, em, rg, rfl, hA, hZ, hN, hK, hI⟩
  · exact two1_plan hnR hA hT hH hI x1 x2 x3 x4
  · exact two0_plan hnR hA hZ hN hK hI x1 x2 x3 x4
theorem two_matches_b (hnR : nR = 30) (hw : LI G a b ra nR w) (x1 : Int32) : Two l yX9_matches wsX9_matches ({ frames := 6, cells := 0, slots := 0, locals := 143 } : Room) yX10_matches wsX10_matches ({ frames := 5, cells := 0, slots := 0, locals := 122 } : Room) G a b (LI G a b ra nR) w [.int x1] := by
  rcases hw with ⟨i, j, t, r, n, d, ps, im, kp, tx, cd, bk, py, pt, mt, eo, es, tc, d2, rt, rn, su, co, mo, m0, m1, s, em, rg, nc, np, un, od, rfl, hA, hT, hH, hI⟩ | ⟨i, j, t, r, n, d, ps, im, kp, tx, cd, bk, py, pt, mt, eo, es, tc, nk, d2, rt, rn, su, co, mo, m0, m1, s, em, rg, rfl, hA, hZ, hN, hK, hI⟩
  · exact two1_matches hnR hA hT hH hI x1
  · exact two0_matches hnR hA hZ hN hK hI x1
theorem two_failing_b (hnR : nR = 30) (hw : LI G a b ra nR w)  : Two l yX9_failing wsX9_failing ({ frames := 5, cells := 0, slots := 0, locals := 111 } : Room) yX10_failing wsX10_failing ({ frames := 4, cells := 0, slots := 0, locals := 92 } : Room) G a b (LI G a b ra nR) w [] := by
  rcases hw with ⟨i, j, t, r, n, d, ps, im, kp, tx, cd, bk, py, pt, mt, eo, es, tc, d2, rt, rn, su, co, mo, m0, m1, s, em, rg, nc, np, un, od, rfl, hA, hT, hH, hI⟩ | ⟨i, j, t, r, n, d, ps, im, kp, tx, cd, bk, py, pt, mt, eo, es, tc, nk, d2, rt, rn, su, co, mo, m0, m1, s, em, rg, rfl, hA, hZ, hN, hK, hI⟩
  · exact two1_failing hnR hA hT hH hI 
  · exact two0_failing hnR hA hZ hN hK hI 
theorem two_run_b (hnR : nR = 30) (hw : LI G a b ra nR w) (x1 : Int32) : Two l yX9_run wsX9_run ({ frames := 5, cells := 0, slots := 0, locals := 111 } : Room) yX10_run wsX10_run ({ frames := 4, cells := 0, slots := 0, locals := 92 } : Room) G a b (LI G a b ra nR) w [.int x1] := by
  rcases hw with ⟨i, j, t, r, n, d, ps, im, kp, tx, cd, bk, py, pt, mt, eo, es, tc, d2, rt, rn, su, co, mo, m0, m1, s, em, rg, nc, np, un, od, rfl, hA, hT, hH, hI⟩ | ⟨i, j, t, r, n, d, ps, im, kp, tx, cd, bk, py, pt, mt, eo, es, tc, nk, d2, rt, rn, su, co, mo, m0, m1, s, em, rg, rfl, hA, hZ, hN, hK, hI⟩
  · exact two1_run hnR hA hT hH hI x1
  · exact two0_run hnR hA hZ hN hK hI x1
theorem two_credit_b (hnR : nR = 30) (hw : LI G a b ra nR w) (x1 x2 : Int32) : Two l yX9_credit wsX9_credit ({ frames := 4, cells := 0, slots := 0, locals := 86 } : Room) yX10_credit wsX10_credit ({ frames := 5, cells := 0, slots := 0, locals := 111 } : Room) G a b (LI G a b ra nR) w [.int x1, .int x2] := by
  rcases hw with ⟨i, j, t, r, n, d, ps, im, kp, tx, cd, bk, py, pt, mt, eo, es, tc, d2, rt, rn, su, co, mo, m0, m1, s, em, rg, nc, np, un, od, rfl, hA, hT, hH, hI⟩ | ⟨i, j, t, r, n, d, ps, im, kp, tx, cd, bk, py, pt, mt, eo, es, tc, nk, d2, rt, rn, su, co, mo, m0, m1, s, em, rg, rfl, hA, hZ, hN, hK, hI⟩
  · exact two1_credit hnR hA hT hH hI x1 x2
  · exact two0_credit hnR hA hZ hN hK hI x1 x2
theorem two_rumours_b (hnR : nR = 30) (hw : LI G a b ra nR w) (x1 x2 : Int32) : Two l yX9_rumours wsX9_rumours ({ frames := 0, cells := 0, slots := 0, locals := 0 } : Room) yX10_rumours wsX10_rumours ({ frames := 1, cells := 0, slots := 0, locals := 25 } : Room) G a b (LI G a b ra nR) w [.int x1, .int x2] := by
  rcases hw with ⟨i, j, t, r, n, d, ps, im, kp, tx, cd, bk, py, pt, mt, eo, es, tc, d2, rt, rn, su, co, mo, m0, m1, s, em, rg, nc, np, un, od, rfl, hA, hT, hH, hI⟩ | ⟨i, j, t, r, n, d, ps, im, kp, tx, cd, bk, py, pt, mt, eo, es, tc, nk, d2, rt, rn, su, co, mo, m0, m1, s, em, rg, rfl, hA, hZ, hN, hK, hI⟩
  · exact two1_rumours hnR hA hT hH hI x1 x2
  · exact two0_rumours hnR hA hZ hN hK hI x1 x2
theorem two_card_b (hnR : nR = 30) (hw : LI G a b ra nR w) (x1 x2 x3 : Int32) (v : Prop) [Decidable v] : Two l yX9_card wsX9_card ({ frames := 2, cells := 0, slots := 0, locals := 43 } : Room) yX10_card wsX10_card ({ frames := 2, cells := 0, slots := 0, locals := 46 } : Room) G a b (LI G a b ra nR) w [.int x1, .int x2, .int x3, .int (bI v)] := by
  rcases hw with ⟨i, j, t, r, n, d, ps, im, kp, tx, cd, bk, py, pt, mt, eo, es, tc, d2, rt, rn, su, co, mo, m0, m1, s, em, rg, nc, np, un, od, rfl, hA, hT, hH, hI⟩ | ⟨i, j, t, r, n, d, ps, im, kp, tx, cd, bk, py, pt, mt, eo, es, tc, nk, d2, rt, rn, su, co, mo, m0, m1, s, em, rg, rfl, hA, hZ, hN, hK, hI⟩
  · exact two1_card hnR hA hT hH hI x1 x2 x3 v
  · exact two0_card hnR hA hZ hN hK hI x1 x2 x3 v
theorem two_had_b (hnR : nR = 30) (hw : LI G a b ra nR w) (x1 x2 x3 : Int32) : Two l yX9_had wsX9_had ({ frames := 5, cells := 0, slots := 0, locals := 116 } : Room) yX10_had wsX10_had ({ frames := 4, cells := 0, slots := 0, locals := 92 } : Room) G a b (LI G a b ra nR) w [.int x1, .int x2, .int x3] := by
  rcases hw with ⟨i, j, t, r, n, d, ps, im, kp, tx, cd, bk, py, pt, mt, eo, es, tc, d2, rt, rn, su, co, mo, m0, m1, s, em, rg, nc, np, un, od, rfl, hA, hT, hH, hI⟩ | ⟨i, j, t, r, n, d, ps, im, kp, tx, cd, bk, py, pt, mt, eo, es, tc, nk, d2, rt, rn, su, co, mo, m0, m1, s, em, rg, rfl, hA, hZ, hN, hK, hI⟩
  · exact two1_had hnR hA hT hH hI x1 x2 x3
  · exact two0_had hnR hA hZ hN hK hI x1 x2 x3
theorem two_lookAt_b (hnR : nR = 30) (hw : LI G a b ra nR w) (x1 x2 : Int32) : Two l yX9_lookAt wsX9_lookAt ({ frames := 5, cells := 0, slots := 0, locals := 116 } : Room) yX10_lookAt wsX10_lookAt ({ frames := 5, cells := 0, slots := 0, locals := 119 } : Room) G a b (LI G a b ra nR) w [.int x1, .int x2] := by
  rcases hw with ⟨i, j, t, r, n, d, ps, im, kp, tx, cd, bk, py, pt, mt, eo, es, tc, d2, rt, rn, su, co, mo, m0, m1, s, em, rg, nc, np, un, od, rfl, hA, hT, hH, hI⟩ | ⟨i, j, t, r, n, d, ps, im, kp, tx, cd, bk, py, pt, mt, eo, es, tc, nk, d2, rt, rn, su, co, mo, m0, m1, s, em, rg, rfl, hA, hZ, hN, hK, hI⟩
  · exact two1_lookAt hnR hA hT hH hI x1 x2
  · exact two0_lookAt hnR hA hZ hN hK hI x1 x2
theorem two_write_b (hnR : nR = 30) (hw : LI G a b ra nR w) (x1 x2 : Int32) : Two l yX9_write wsX9_write ({ frames := 1, cells := 0, slots := 0, locals := 22 } : Room) yX10_write wsX10_write ({ frames := 2, cells := 0, slots := 0, locals := 46 } : Room) G a b (LI G a b ra nR) w [.int x1, .int x2] := by
  rcases hw with ⟨i, j, t, r, n, d, ps, im, kp, tx, cd, bk, py, pt, mt, eo, es, tc, d2, rt, rn, su, co, mo, m0, m1, s, em, rg, nc, np, un, od, rfl, hA, hT, hH, hI⟩ | ⟨i, j, t, r, n, d, ps, im, kp, tx, cd, bk, py, pt, mt, eo, es, tc, nk, d2, rt, rn, su, co, mo, m0, m1, s, em, rg, rfl, hA, hZ, hN, hK, hI⟩
  · exact two1_write hnR hA hT hH hI x1 x2
  · exact two0_write hnR hA hZ hN hK hI x1 x2
theorem two_judge_b (hnR : nR = 30) (hw : LI G a b ra nR w)  : Two l yX9_judge wsX9_judge ({ frames := 5, cells := 0, slots := 0, locals := 111 } : Room) yX10_judge wsX10_judge ({ frames := 3, cells := 0, slots := 0, locals := 70 } : Room) G a b (LI G a b ra nR) w [] := by
  rcases hw with ⟨i, j, t, r, n, d, ps, im, kp, tx, cd, bk, py, pt, mt, eo, es, tc, d2, rt, rn, su, co, mo, m0, m1, s, em, rg, nc, np, un, od, rfl, hA, hT, hH, hI⟩ | ⟨i, j, t, r, n, d, ps, im, kp, tx, cd, bk, py, pt, mt, eo, es, tc, nk, d2, rt, rn, su, co, mo, m0, m1, s, em, rg, rfl, hA, hZ, hN, hK, hI⟩
  · exact two1_judge hnR hA hT hH hI 
  · exact two0_judge hnR hA hZ hN hK hI 
theorem two_tear_b (hnR : nR = 30) (hw : LI G a b ra nR w)  : Two l yX9_tear wsX9_tear ({ frames := 0, cells := 0, slots := 0, locals := 0 } : Room) yX10_tear wsX10_tear ({ frames := 0, cells := 0, slots := 0, locals := 0 } : Room) G a b (LI G a b ra nR) w [] := by
  rcases hw with ⟨i, j, t, r, n, d, ps, im, kp, tx, cd, bk, py, pt, mt, eo, es, tc, d2, rt, rn, su, co, mo, m0, m1, s, em, rg, nc, np, un, od, rfl, hA, hT, hH, hI⟩ | ⟨i, j, t, r, n, d, ps, im, kp, tx, cd, bk, py, pt, mt, eo, es, tc, nk, d2, rt, rn, su, co, mo, m0, m1, s, em, rg, rfl, hA, hZ, hN, hK, hI⟩
  · exact two1_tear hnR hA hT hH hI 
  · exact two0_tear hnR hA hZ hN hK hI 
theorem two_seed_b (hnR : nR = 30) (hw : LI G a b ra nR w) (x1 : Int32) : Two l yX9_seed wsX9_seed ({ frames := 0, cells := 0, slots := 0, locals := 0 } : Room) yX10_seed wsX10_seed ({ frames := 0, cells := 0, slots := 0, locals := 0 } : Room) G a b (LI G a b ra nR) w [.int x1] := by
  rcases hw with ⟨i, j, t, r, n, d, ps, im, kp, tx, cd, bk, py, pt, mt, eo, es, tc, d2, rt, rn, su, co, mo, m0, m1, s, em, rg, nc, np, un, od, rfl, hA, hT, hH, hI⟩ | ⟨i, j, t, r, n, d, ps, im, kp, tx, cd, bk, py, pt, mt, eo, es, tc, nk, d2, rt, rn, su, co, mo, m0, m1, s, em, rg, rfl, hA, hZ, hN, hK, hI⟩
  · exact two1_seed hnR hA hT hH hI x1
  · exact two0_seed hnR hA hZ hN hK hI x1
theorem two_keep_b (hnR : nR = 30) (hw : LI G a b ra nR w) (x1 : Int32) : Two l yX9_keep wsX9_keep ({ frames := 2, cells := 0, slots := 0, locals := 42 } : Room) yX10_keep wsX10_keep ({ frames := 1, cells := 0, slots := 0, locals := 25 } : Room) G a b (LI G a b ra nR) w [.int x1] := by
  rcases hw with ⟨i, j, t, r, n, d, ps, im, kp, tx, cd, bk, py, pt, mt, eo, es, tc, d2, rt, rn, su, co, mo, m0, m1, s, em, rg, nc, np, un, od, rfl, hA, hT, hH, hI⟩ | ⟨i, j, t, r, n, d, ps, im, kp, tx, cd, bk, py, pt, mt, eo, es, tc, nk, d2, rt, rn, su, co, mo, m0, m1, s, em, rg, rfl, hA, hZ, hN, hK, hI⟩
  · exact two1_keep hnR hA hT hH hI x1
  · exact two0_keep hnR hA hZ hN hK hI x1
theorem two_goBack_b (hnR : nR = 30) (hw : LI G a b ra nR w) (x1 : Int32) : Two l yX9_goBack wsX9_goBack ({ frames := 2, cells := 0, slots := 0, locals := 42 } : Room) yX10_goBack wsX10_goBack ({ frames := 1, cells := 0, slots := 0, locals := 25 } : Room) G a b (LI G a b ra nR) w [.int x1] := by
  rcases hw with ⟨i, j, t, r, n, d, ps, im, kp, tx, cd, bk, py, pt, mt, eo, es, tc, d2, rt, rn, su, co, mo, m0, m1, s, em, rg, nc, np, un, od, rfl, hA, hT, hH, hI⟩ | ⟨i, j, t, r, n, d, ps, im, kp, tx, cd, bk, py, pt, mt, eo, es, tc, nk, d2, rt, rn, su, co, mo, m0, m1, s, em, rg, rfl, hA, hZ, hN, hK, hI⟩
  · exact two1_goBack hnR hA hT hH hI x1
  · exact two0_goBack hnR hA hZ hN hK hI x1
theorem LI_14 (hw : LI G a b ra nR w) : ∃ fs, w[14]? = some (b 0, oA 9 fs) := by
  rcases hw with ⟨i, j, t, r, n, d, ps, im, kp, tx, cd, bk, py, pt, mt, eo, es, tc, d2, rt, rn, su, co, mo, m0, m1, s, em, rg, nc, np, un, od, rfl, -⟩ | ⟨i, j, t, r, n, d, ps, im, kp, tx, cd, bk, py, pt, mt, eo, es, tc, nk, d2, rt, rn, su, co, mo, m0, m1, s, em, rg, rfl, -⟩
  · exact ⟨_, rfl⟩
  · exact ⟨_, rfl⟩
theorem LI_adr (hw : LI G a b ra nR w) : w.map Prod.fst = [a 0, a 1, a 2, a 3, a 4, a 5, a 6, a 7, a 8, a 9, a 10, a 11, a 12, a 13] ++ (b 0 :: b 1 :: b 2 :: b 3 :: b 4 :: b 5 :: b 6 :: b 7 :: b 8 :: b 9 :: b 10 :: b 11 :: b 12 :: b 13 :: b 14 :: b 15 :: b 16 :: b 17 :: b 18 :: b 19 :: b 20 :: b 21 :: b 22 :: b 23 :: b 24 :: b 25 :: b 26 :: b 27 :: b 28 :: b 29 :: b 30 :: b 31 :: b 32 :: b 33 :: b 34 :: b 35 :: b 36 :: b 37 :: b 38 :: b 39 :: b 40 :: b 41 :: b 42 :: b 43 :: b 44 :: b 45 :: b 46 :: b 47 :: b 48 :: b 49 :: b 50 :: b 51 :: b 52 :: b 53 :: rgA ra nR) := by
  rcases hw with ⟨i, j, t, r, n, d, ps, im, kp, tx, cd, bk, py, pt, mt, eo, es, tc, d2, rt, rn, su, co, mo, m0, m1, s, em, rg, nc, np, un, od, rfl, -⟩ | ⟨i, j, t, r, n, d, ps, im, kp, tx, cd, bk, py, pt, mt, eo, es, tc, nk, d2, rt, rn, su, co, mo, m0, m1, s, em, rg, rfl, -⟩
  · rw [List.map_append, mW_f, dR_f]
  · rw [List.map_append, mW_f, dR_f]
theorem LI_f {w' : va_W} (hw : LI G a b ra nR w) (hw' : LI G a b ra nR w') : w'.map Prod.fst = w.map Prod.fst := (LI_adr hw').trans (LI_adr hw).symm
end LBOTH
