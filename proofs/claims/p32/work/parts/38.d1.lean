theorem mo_set_b : ∀ (n : Nat) (g : Nat → Int) (B : Int), mo_Iv g B → -1 ≤ mo_set n g ∧ mo_set n g ≤ 19
  | 0, g, B, h => ⟨Int.le_refl _, by show (-1 : Int) ≤ 19; decide⟩
  | n + 1, g, B, h => by
    have h0 := h.1
    obtain ⟨p1, -⟩ := mo_pl_Iv (show (g 0).toNat < 20 by omega) 61 h
    obtain ⟨q1, q2, q3⟩ := mo_hw_b p1 (mo_nk (mo_pl (g 0).toNat 61 g).2) (Nat.le_refl _)
    have e0 := mo_pl_0 (show (g 0).toNat < 20 by omega) 61 h
    rw [mo_set]
    split
    · omega
    · split
      · exact mo_set_b n _ _ (mo_e_b q1 (by rw [q3, e0]; omega)).1
      · omega
