def mo_PS (M : mo_M) (m : Nat) (T : Nat → Int) (n p : Nat) : Prop := M m 10 = n ∧ M m 11 = p ∧ M (m + 8) = T
