/-! the reference's public methods: what each answers, notes and leaves -/
abbrev mo_kp (m a : Nat) : Prop := a = m ∨ a = m + 2 ∨ a = m + 8 ∨ a < m ∨ m + 9 < a
def mo_gAO (g : Nat → Int) (h v : Int) : Nat → Int := fun j => if j = 4 then g 4 + 1 else if j = 168 + (g 4).toNat then v else if 8 + 20 * (g 4).toNat ≤ j ∧ j < 8 + 20 * (g 4).toNat + 20 then (if (j : Int) - (8 + 20 * (g 4).toNat : Nat) < g 0 then 0 else h) else g j
def mo_gCH (g : Nat → Int) (o w : Nat) (h : Int) : Nat → Int := fun j => if 8 + 20 * o + w ≤ j ∧ j < 8 + 20 * o + 20 then h else g j
def mo_gAE (g : Nat → Int) (s l : Int) : Nat → Int := va_up (va_up (va_up g (192 + (g 5).toNat) s) (198 + (g 5).toNat) l) 5 (g 5 + 1)
def mo_gAV (g : Nat → Int) (r : Int) : Nat → Int := va_up (va_up g (210 + (g 6).toNat) r) 6 (g 6 + 1)
