/-! clauses: (well, where the last step began, what is read, what is wrong) -/
abbrev PR : Type := Bool × Nat × (Nat → Int32) × Int32
def riX (tx : Nat → Int32) (sz al : Nat) (r : Nat → Int32) (w : Int32) : PR :=
  if r 0 = 1 then (false, al, r, 3)
  else if nuOK tx sz (stN tx sz al) 0 30 then
    (if nuOK tx sz (stN tx sz (stN tx sz al)) 0 100 then
      (if stS tx sz (stN tx sz (stN tx sz (stN tx sz al))) = 59 then (true, stN tx sz (stN tx sz (stN tx sz al)), nuR tx sz (stN tx sz (stN tx sz al)) 0 100 2 (nuR tx sz (stN tx sz al) 0 30 1 (upd r 0 1)), enW tx sz (stN tx sz (stN tx sz (stN tx sz al))) (nuW tx sz (stN tx sz (stN tx sz al)) 0 100 (nuW tx sz (stN tx sz al) 0 30 w)))
      else (false, stN tx sz (stN tx sz (stN tx sz al)), nuR tx sz (stN tx sz (stN tx sz al)) 0 100 2 (nuR tx sz (stN tx sz al) 0 30 1 (upd r 0 1)), enW tx sz (stN tx sz (stN tx sz (stN tx sz al))) (nuW tx sz (stN tx sz (stN tx sz al)) 0 100 (nuW tx sz (stN tx sz al) 0 30 w))))
    else (false, stN tx sz (stN tx sz al), nuR tx sz (stN tx sz (stN tx sz al)) 0 100 2 (nuR tx sz (stN tx sz al) 0 30 1 (upd r 0 1)), nuW tx sz (stN tx sz (stN tx sz al)) 0 100 (nuW tx sz (stN tx sz al) 0 30 w)))
  else (false, stN tx sz al, nuR tx sz (stN tx sz al) 0 30 1 (upd r 0 1), nuW tx sz (stN tx sz al) 0 30 w)
