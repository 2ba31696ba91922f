set_option maxRecDepth 100000 in
set_option maxHeartbeats 4000000 in
theorem c_X2_note_b (l : Launch) (G : gG) (a : Nat → Nat) (ra : Nat → Nat → Nat) (nR : Nat) (s : RSt) (em : Int32) (i : Nat → Int32) (eo : Nat → Int32) (es : Nat → Int32) (t : Nat → Int32) (n : Nat → Int32) (d : Nat → Int32) (tx : Nat → Int32) (rt : Nat → Int32) (rn : Nat → Int32) (cd : Nat → Int32) (su : Nat → Int32) (bk : Nat → Int32) (co : Nat → Int32) (mo : Nat → Int32) (m0 : Nat → Int32) (m1 : Nat → Int32) (kp : Nat → Int32) (rg : Nat → Nat → Int32) (un : Nat) (od : Nat) (hun : i 5 = nI un) (hul : un ≤ 30) (hod : eo 0 = nI od) (hol : od < 30) (hnR : nR = 30) : mX l yX2_note wsX2_note ({ frames := 2, cells := 0, slots := 0, locals := 42 }) G (dR G a ra nR s em i eo es t n d tx rt rn cd su bk co mo m0 m1 kp rg) (dR G a ra nR s em (rmI i un) (upd eo 0 (nI (odN od un))) es t n d tx rt rn cd su bk co mo m0 m1 kp (rgN rg od un n)) [.ref (a 26), .ref (a 5)] (.returned none) := by
  obtain ⟨j, hj⟩ : ∃ z, z = (od + un) % 30 := ⟨_, rfl⟩
  have hj30 : j < 30 := by rw [hj]; exact Nat.mod_lt _ (by decide)
  have hjR : j < nR := by omega
  have h := c_X2_note l G (a 26) (a 27) (fun k => ra k 0) (a 5) (a 6) (a 7) (a 8) (a 9) (ra j 0) (ra j 1) (ra j 2) (ra j 3) (ra j 4) (a 1) (a 1) i eo n (rg j) un od hun hul hod hol (by rw [hj])
  rw [show (if un = 30 then upd eo 0 (nI ((od + 1) % 30)) else eo) = upd eo 0 (nI (odN od un)) by
    unfold odN
    by_cases e : un = 30
    · rw [if_pos e, if_pos e]
    · rw [if_neg e, if_neg e, upd_self hod]] at h
  unfold rgN
  rw [← hj]
  rw [dR_eq, dR_eq]
  refine mX.big h ([26, 27, 5, 6, 7, 8, 9] ++ (([0, 1, 2, 3, 4].map (fun q => 5 * j + q)).map (fun q => (dW G a ra s em i eo es t n d tx rt rn cd su bk co mo m0 m1 kp).length + q))) ?_ ?_ (hnW_f.trans hnW_f.symm) ?_
  · show va_nd [26, 27, 5, 6, 7, 8, 9, 54 + (5 * j + 0), 54 + (5 * j + 1), 54 + (5 * j + 2), 54 + (5 * j + 3), 54 + (5 * j + 4)] = true
    simp [va_nd]
    omega
  · rw [List.map_append]
    have e1 : [26, 27, 5, 6, 7, 8, 9].map (fun i_ : Nat => (dW G a ra s em i eo es t n d tx rt rn cd su bk co mo m0 m1 kp ++ rgW G (a 1) ra rg nR)[i_]?) = ([(a 26, oA 2 [.ref (a 27), .int (eo 0), .int (i 5)]), (a 27, rA G.2.2.2.1 30 (fun k => some (ra k 0)))] ++ s1W G (a 5) (a 6) (a 7) (a 8) (a 9) (a 1) n).map some := rfl
    have e2 : (([0, 1, 2, 3, 4].map (fun q => 5 * j + q)).map (fun q => (dW G a ra s em i eo es t n d tx rt rn cd su bk co mo m0 m1 kp).length + q)).map (fun i_ : Nat => (dW G a ra s em i eo es t n d tx rt rn cd su bk co mo m0 m1 kp ++ rgW G (a 1) ra rg nR)[i_]?) = (s1W G (ra j 0) (ra j 1) (ra j 2) (ra j 3) (ra j 4) (a 1) (rg j)).map some := by
      rw [← rgW_get (G := G) (ka := a 1) (ra := ra) (rg := rg) nR hjR, List.map_map]
      refine List.map_congr_left (fun q _ => ?_)
      show (_ ++ _)[_ + q]? = _
      rw [List.getElem?_append_right (Nat.le_add_right _ _), Nat.add_sub_cancel_left]
    rw [e1, e2]; rfl
  · show setM _ _ (([(a 26, oA 2 [.ref (a 27), .int ((upd eo 0 (nI (odN od un))) 0), .int ((rmI i un) 5)]), (a 27, rA G.2.2.2.1 30 (fun k => some (ra k 0)))] ++ s1W G (a 5) (a 6) (a 7) (a 8) (a 9) (a 1) n) ++ s1W G (ra j 0) (ra j 1) (ra j 2) (ra j 3) (ra j 4) (a 1) n) = _
    rw [setM_two _ _ _ rfl, setM_appL _ _ _ (show ∀ i_ ∈ [26, 27, 5, 6, 7, 8, 9], i_ < 54 by decide), show setM (dW G a ra s em i eo es t n d tx rt rn cd su bk co mo m0 m1 kp) [26, 27, 5, 6, 7, 8, 9] ([(a 26, oA 2 [.ref (a 27), .int ((upd eo 0 (nI (odN od un))) 0), .int ((rmI i un) 5)]), (a 27, rA G.2.2.2.1 30 (fun k => some (ra k 0)))] ++ s1W G (a 5) (a 6) (a 7) (a 8) (a 9) (a 1) n) = dW G a ra s em (rmI i un) (upd eo 0 (nI (odN od un))) es t n d tx rt rn cd su bk co mo m0 m1 kp from rfl, show (dW G a ra s em i eo es t n d tx rt rn cd su bk co mo m0 m1 kp).length = (dW G a ra s em (rmI i un) (upd eo 0 (nI (odN od un))) es t n d tx rt rn cd su bk co mo m0 m1 kp).length from rfl, setM_appR, rgW_set nR hjR]
set_option maxRecDepth 100000 in
set_option maxHeartbeats 4000000 in
theorem c_X2_restore_b (l : Launch) (G : gG) (a : Nat → Nat) (ra : Nat → Nat → Nat) (nR : Nat) (s : RSt) (em : Int32) (i : Nat → Int32) (eo : Nat → Int32) (es : Nat → Int32) (t : Nat → Int32) (n : Nat → Int32) (d : Nat → Int32) (tx : Nat → Int32) (rt : Nat → Int32) (rn : Nat → Int32) (cd : Nat → Int32) (su : Nat → Int32) (bk : Nat → Int32) (co : Nat → Int32) (mo : Nat → Int32) (m0 : Nat → Int32) (m1 : Nat → Int32) (kp : Nat → Int32) (rg : Nat → Nat → Int32) (un : Nat) (od : Nat) (k : Nat) (hun : i 5 = nI un) (hul : un ≤ 30) (hod : eo 0 = nI od) (hol : od < 30) (hnR : nR = 30) (hk1 : 1 ≤ k) (hku : k ≤ un) : mX l yX2_restore wsX2_restore ({ frames := 2, cells := 0, slots := 0, locals := 42 }) G (dR G a ra nR s em i eo es t n d tx rt rn cd su bk co mo m0 m1 kp rg) (dR G a ra nR s em (upd i 5 (nI (un - k))) eo es t (rg ((od + (un - k)) % 30)) d tx rt rn cd su bk co mo m0 m1 kp rg) [.ref (a 26), .ref (a 5), .int (nI k)] (.returned none) := by
  obtain ⟨j, hj⟩ : ∃ z, z = (od + (un - k)) % 30 := ⟨_, rfl⟩
  have hj30 : j < 30 := by rw [hj]; exact Nat.mod_lt _ (by decide)
  have hjR : j < nR := by omega
  have h := c_X2_restore l G (a 26) (a 27) (fun k => ra k 0) (a 5) (a 6) (a 7) (a 8) (a 9) (ra j 0) (ra j 1) (ra j 2) (ra j 3) (ra j 4) (a 1) (a 1) i eo n (rg j) un od k hun hul hod hol hk1 hku (by rw [hj])
  rw [← hj]
  rw [dR_eq, dR_eq]
  refine mX.big h ([26, 27, 5, 6, 7, 8, 9] ++ (([0, 1, 2, 3, 4].map (fun q => 5 * j + q)).map (fun q => (dW G a ra s em i eo es t n d tx rt rn cd su bk co mo m0 m1 kp).length + q))) ?_ ?_ (hnW_f.trans hnW_f.symm) ?_
  · show va_nd [26, 27, 5, 6, 7, 8, 9, 54 + (5 * j + 0), 54 + (5 * j + 1), 54 + (5 * j + 2), 54 + (5 * j + 3), 54 + (5 * j + 4)] = true
    simp [va_nd]
    omega
  · rw [List.map_append]
    have e1 : [26, 27, 5, 6, 7, 8, 9].map (fun i_ : Nat => (dW G a ra s em i eo es t n d tx rt rn cd su bk co mo m0 m1 kp ++ rgW G (a 1) ra rg nR)[i_]?) = ([(a 26, oA 2 [.ref (a 27), .int (eo 0), .int (i 5)]), (a 27, rA G.2.2.2.1 30 (fun k => some (ra k 0)))] ++ s1W G (a 5) (a 6) (a 7) (a 8) (a 9) (a 1) n).map some := rfl
    have e2 : (([0, 1, 2, 3, 4].map (fun q => 5 * j + q)).map (fun q => (dW G a ra s em i eo es t n d tx rt rn cd su bk co mo m0 m1 kp).length + q)).map (fun i_ : Nat => (dW G a ra s em i eo es t n d tx rt rn cd su bk co mo m0 m1 kp ++ rgW G (a 1) ra rg nR)[i_]?) = (s1W G (ra j 0) (ra j 1) (ra j 2) (ra j 3) (ra j 4) (a 1) (rg j)).map some := by
      rw [← rgW_get (G := G) (ka := a 1) (ra := ra) (rg := rg) nR hjR, List.map_map]
      refine List.map_congr_left (fun q _ => ?_)
      show (_ ++ _)[_ + q]? = _
      rw [List.getElem?_append_right (Nat.le_add_right _ _), Nat.add_sub_cancel_left]
    rw [e1, e2]; rfl
  · show setM _ _ (([(a 26, oA 2 [.ref (a 27), .int (eo 0), .int ((upd i 5 (nI (un - k))) 5)]), (a 27, rA G.2.2.2.1 30 (fun k => some (ra k 0)))] ++ s1W G (a 5) (a 6) (a 7) (a 8) (a 9) (a 1) (rg j)) ++ s1W G (ra j 0) (ra j 1) (ra j 2) (ra j 3) (ra j 4) (a 1) (rg j)) = _
    rw [setM_two _ _ _ rfl, setM_appL _ _ _ (show ∀ i_ ∈ [26, 27, 5, 6, 7, 8, 9], i_ < 54 by decide), show setM (dW G a ra s em i eo es t n d tx rt rn cd su bk co mo m0 m1 kp) [26, 27, 5, 6, 7, 8, 9] ([(a 26, oA 2 [.ref (a 27), .int (eo 0), .int ((upd i 5 (nI (un - k))) 5)]), (a 27, rA G.2.2.2.1 30 (fun k => some (ra k 0)))] ++ s1W G (a 5) (a 6) (a 7) (a 8) (a 9) (a 1) (rg j)) = dW G a ra s em (upd i 5 (nI (un - k))) eo es t (rg j) d tx rt rn cd su bk co mo m0 m1 kp from rfl, show (dW G a ra s em i eo es t n d tx rt rn cd su bk co mo m0 m1 kp).length = (dW G a ra s em (upd i 5 (nI (un - k))) eo es t (rg j) d tx rt rn cd su bk co mo m0 m1 kp).length from rfl, setM_appR, rgW_set nR hjR]
    rw [show rgU rg j (rg j) = rg by
      funext z; unfold rgU
      by_cases e : z = j
      · rw [if_pos e, e]
      · rw [if_neg e]]

