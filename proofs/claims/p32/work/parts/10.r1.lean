theorem mo_andIn (x y : Int) : mo_In (mo_and x y) := mo_ri _
theorem mo_shlIn (x y : Int) : mo_In (mo_shl x y) := mo_ri _
theorem mo_pow5 : ∀ n : Nat, n ≤ 5 → mo_lshl 1 (n : Int) = 2 ^ n ∧ mo_shl 1 (n : Int) = 2 ^ n := by decide
theorem mo_ow_le {g : Nat → Int} {B : Int} {o w : Nat} (hI : mo_Iv g B) (ho : o < 8) (hw : w < 20) : 0 ≤ mo_ow g o w ∧ mo_ow g o w ≤ 140 := by
  obtain ⟨hI0, hI1, hI2, hI3, hI4, hI5, hI6, hI7, hIh, hIa, hIe, hIm, hIs, hIl, hIw, hIr, hIt, hIs2, hIs3, hIz⟩ := hI
  have hEo := hIe o ho
  have hHs : 0 ≤ mo_hsum g o (w + 1) ∧ mo_hsum g o (w + 1) ≤ ((w + 1 : Nat) : Int) * 7 := by
    refine mo_sum_le (c := 7) (fun j hj => ?_)
    have h9 := hIh (20 * o + j) (by omega)
    rw [show 8 + (20 * o + j) = 8 + 20 * o + j by omega] at h9
    exact h9
  have hc := mo_cnt_le (mo_plb g o w) (mo_nk g)
  unfold mo_ow
  split <;> omega
