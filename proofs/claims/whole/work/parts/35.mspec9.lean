/-! a creditor's clause -/
abbrev sN1 (tx : Nat → Int32) (sz a : Nat) : Nat := stN tx sz a
abbrev sN2 (tx : Nat → Int32) (sz a : Nat) : Nat := stN tx sz (sN1 tx sz a)
abbrev sN3 (tx : Nat → Int32) (sz a : Nat) : Nat := stN tx sz (sN2 tx sz a)
abbrev sN4 (tx : Nat → Int32) (sz a : Nat) : Nat := stN tx sz (sN3 tx sz a)
abbrev sN5 (tx : Nat → Int32) (sz a : Nat) : Nat := stN tx sz (sN4 tx sz a)
abbrev rcR1 (tx : Nat → Int32) (sz al cn : Nat) (r : Nat → Int32) : Nat → Int32 := nuR tx sz (sN1 tx sz al) 0 999 (5 + cn) (upd r 3 (nI (cn + 1)))
abbrev rcR2 (tx : Nat → Int32) (sz al cn : Nat) (r : Nat → Int32) : Nat → Int32 := nuR tx sz (sN2 tx sz al) 1 999 (9 + cn) (rcR1 tx sz al cn r)
abbrev rcR3 (tx : Nat → Int32) (sz al cn : Nat) (r : Nat → Int32) : Nat → Int32 := nuR tx sz (sN3 tx sz al) 1 999 (13 + cn) (rcR2 tx sz al cn r)
abbrev rcR4 (tx : Nat → Int32) (sz al cn : Nat) (r : Nat → Int32) : Nat → Int32 := nuR tx sz (sN4 tx sz al) 1 9 (17 + cn) (rcR3 tx sz al cn r)
abbrev rcW1 (tx : Nat → Int32) (sz al : Nat) (w : Int32) : Int32 := nuW tx sz (sN1 tx sz al) 0 999 w
abbrev rcW2 (tx : Nat → Int32) (sz al : Nat) (w : Int32) : Int32 := nuW tx sz (sN2 tx sz al) 1 999 (rcW1 tx sz al w)
abbrev rcW3 (tx : Nat → Int32) (sz al : Nat) (w : Int32) : Int32 := nuW tx sz (sN3 tx sz al) 1 999 (rcW2 tx sz al w)
abbrev rcW4 (tx : Nat → Int32) (sz al : Nat) (w : Int32) : Int32 := nuW tx sz (sN4 tx sz al) 1 9 (rcW3 tx sz al w)
def rcX (tx : Nat → Int32) (sz al : Nat) (r : Nat → Int32) (w : Int32) (cn : Nat) : PR :=
  if cn = 4 then (false, al, r, 3)
  else if r 4 ≤ 0 then
    (if nuOK tx sz (sN1 tx sz al) 0 999 then
      (if nuOK tx sz (sN2 tx sz al) 1 999 then
        (if nuOK tx sz (sN3 tx sz al) 1 999 then
          (if rcR3 tx sz al cn r (9 + cn) ≤ rcR3 tx sz al cn r (13 + cn) then
            (if nuOK tx sz (sN4 tx sz al) 1 9 then
              (if stS tx sz (sN5 tx sz al) = 59 then (true, sN5 tx sz al, rcR4 tx sz al cn r, enW tx sz (sN5 tx sz al) (rcW4 tx sz al w))
              else (false, sN5 tx sz al, rcR4 tx sz al cn r, enW tx sz (sN5 tx sz al) (rcW4 tx sz al w)))
            else (false, sN4 tx sz al, rcR4 tx sz al cn r, rcW4 tx sz al w))
          else (false, sN3 tx sz al, rcR3 tx sz al cn r, 4))
        else (false, sN3 tx sz al, rcR3 tx sz al cn r, rcW3 tx sz al w))
      else (false, sN2 tx sz al, rcR2 tx sz al cn r, rcW2 tx sz al w))
    else (false, sN1 tx sz al, rcR1 tx sz al cn r, rcW1 tx sz al w))
  else (false, al, r, 3)
/-! a person's clause -/
abbrev rpB (g : Prop) [Decidable g] (r : Nat → Int32) (pn : Nat) : Nat → Int32 := upd (upd r 4 (nI (pn + 1))) 21 (r 21 ||| (if g then 1 <<< (nI pn &&& 31) else 0))
def rpA (tx : Nat → Int32) (sz al : Nat) : Nat → Nat
  | 0 => al
  | k + 1 => stN tx sz (stN tx sz (rpA tx sz al k))
def rpR (tx : Nat → Int32) (sz al pn : Nat) (r : Nat → Int32) : Nat → Nat → Int32
  | 0 => r
  | k + 1 => nuR tx sz (stN tx sz (rpA tx sz al k)) 0 999 (22 + 4 * pn + k) (rpR tx sz al pn r k)
def rpW (tx : Nat → Int32) (sz al : Nat) (w : Int32) : Nat → Int32
  | 0 => w
  | k + 1 => nuW tx sz (stN tx sz (rpA tx sz al k)) 0 999 (rpW tx sz al w k)
def rpZ (tx : Nat → Int32) (sz al pn cn : Nat) (r : Nat → Int32) (w : Int32) : Nat → Nat → PR
  | 0, k => (true, rpA tx sz al k, rpR tx sz al pn r k, rpW tx sz al w k)
  | f + 1, k =>
    if nuOK tx sz (stN tx sz (rpA tx sz al k)) 0 999 then
      (if stS tx sz (stN tx sz (stN tx sz (rpA tx sz al k))) = (if k + 1 < cn then 44 else 59) then rpZ tx sz al pn cn r w f (k + 1)
      else (false, stN tx sz (stN tx sz (rpA tx sz al k)), rpR tx sz al pn r (k + 1), 1))
    else (false, stN tx sz (rpA tx sz al k), rpR tx sz al pn r (k + 1), rpW tx sz al w (k + 1))
def rpX (tx : Nat → Int32) (sz al : Nat) (r : Nat → Int32) (w : Int32) (cn pn : Nat) (g : Prop) [Decidable g] : PR :=
  if pn = 8 then (false, al, r, 3) else if r 3 = 0 then (false, al, r, 3) else rpZ tx sz al pn cn (rpB g r pn) w cn 0
theorem rpA_le {tx : Nat → Int32} {sz al : Nat} (h : al ≤ sz) : ∀ k, rpA tx sz al k ≤ sz
  | 0 => h
  | k + 1 => stN_le (stN_le (rpA_le h k))
theorem nuR_lo {tx : Nat → Int32} {sz a pl k : Nat} {lo hi : Int32} {r : Nat → Int32} (h : k ≠ pl) : nuR tx sz a lo hi pl r k = r k := by
  unfold nuR
  by_cases e : nuOK tx sz a lo hi
  · rw [if_pos e, upd_ne h]
  · rw [if_neg e]
theorem rpR_lo {tx : Nat → Int32} {sz al pn : Nat} {r : Nat → Int32} {j : Nat} (hj : j < 22) : ∀ k, rpR tx sz al pn r k j = r j
  | 0 => rfl
  | k + 1 => by
    show nuR tx sz _ 0 999 (22 + 4 * pn + k) (rpR tx sz al pn r k) j = r j
    rw [nuR_lo (by omega), rpR_lo hj k]
