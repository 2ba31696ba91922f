/-! a clause -/
def clX (tx : Nat → Int32) (sz al : Nat) (r : Nat → Int32) (w : Int32) (cn pn : Nat) : PR :=
  if stS tx sz al = 105 then riX tx sz al r w
  else if r 0 = 0 then (false, al, r, 1)
  else if stS tx sz al = 99 then rcX tx sz al r w cn
  else if stS tx sz al = 103 then rpX tx sz al r w cn pn True
  else if stS tx sz al = 109 then rpX tx sz al r w cn pn False
  else (false, al, r, 1)
theorem lk_ne {x k : Int32} (h : ¬ x = k) : ¬ k.toInt = x.toInt := fun q => h (Int32.toInt_inj.mp q.symm)
