def mo_dg (c : Int) : Bool := decide (48 ≤ c ∧ c ≤ 57)
def mo_dok (b : Nat → Int) (p : Nat) : Bool := decide (48 ≤ b p ∧ b p ≤ 55)
def mo_ne (b : Nat → Int) (p : Nat) : Nat := if mo_dg (b (p + 1)) = true then p + 2 else p + 1
def mo_nvl (b : Nat → Int) (p : Nat) : Int := if mo_dg (b (p + 1)) = true then 10 * (b p - 48) + b (p + 1) - 48 else b p - 48
def mo_nok (b : Nat → Int) (p : Nat) (hi : Int) : Bool := mo_dg (b p) && (!mo_dg (b (mo_ne b p)) && decide (mo_nvl b p ≤ hi))
def mo_nf (b : Nat → Int) (p : Nat) : Nat := if mo_dg (b p) = true then (if mo_dg (b (mo_ne b p)) = true then mo_ne b p else p) else p
/-- the parts behind the letter: whether they are right; the place behind them, or of the fault -/
def mo_pt (b : Nat → Int) (p : Nat) : Bool × Nat :=
  if b p = 99 then
    (if mo_dok b (p + 1) = true then
      (if mo_nok b (p + 2) 19 = true then
        (if b (mo_ne b (p + 2)) = 58 then
          (if mo_dok b (mo_ne b (p + 2) + 1) = true then (true, mo_ne b (p + 2) + 2) else (false, mo_ne b (p + 2) + 1))
        else (false, mo_ne b (p + 2)))
      else (false, mo_nf b (p + 2)))
    else (false, p + 1))
  else if b p = 112 then (if mo_nok b (p + 1) 19 = true then (true, mo_ne b (p + 1)) else (false, mo_nf b (p + 1)))
  else if b p = 104 ∨ b p = 109 then (if mo_nok b (p + 1) 99 = true then (true, mo_ne b (p + 1)) else (false, mo_nf b (p + 1)))
  else (true, p + 1)
