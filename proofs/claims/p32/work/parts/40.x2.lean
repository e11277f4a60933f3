theorem mo_mw_k {g : Nat → Int} {B : Int} (h : mo_Iv g B) : mo_nk (mo_mw g (mo_nk g)).2 = mo_nk g := by
  unfold mo_nk
  rw [show ((mo_mw g (g 7).toNat).2 7) = g 7 from (mo_mw_b h (mo_nk g) (Nat.le_refl _)).2.1]
