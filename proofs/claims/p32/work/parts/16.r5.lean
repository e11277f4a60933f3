def mo_svq (n : Nat) : Nat := if n = 4 then 3 else n
