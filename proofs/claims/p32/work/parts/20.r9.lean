theorem mo_Iv_lim {g : Nat → Int} {B : Int} {e : Nat} (h : mo_Iv g B) (he : e < 6) : mo_Iv (va_up g (198 + e) 20) B := by
  obtain ⟨hI0, hI1, hI2, hI3, hI4, hI5, hI6, hI7, hIh, hIa, hIe, hIm, hIs, hIl, hIw, hIr, hIt, hIs2, hIs3, hIz⟩ := h
  have lo : ∀ j, j ≠ 198 + e → va_up g (198 + e) 20 j = g j := fun j a => mo_up_n a
  refine ⟨?_, ?_, ?_, ?_, ?_, ?_, ?_, ?_, fun j hj => ?_, fun j hj => ?_, fun j hj => ?_, fun j hj => ?_, fun j hj => ?_, fun j hj => ?_, fun j hj => ?_, fun j hj => ?_, fun k hk2 => ?_, ?_, ?_, fun a b h1 h2 h3 => ?_⟩
  · rw [lo 0 (by omega)]; exact hI0
  · rw [lo 1 (by omega)]; exact hI1
  · rw [lo 2 (by omega)]; exact hI2
  · rw [lo 3 (by omega)]; exact hI3
  · rw [lo 4 (by omega)]; exact hI4
  · rw [lo 5 (by omega)]; exact hI5
  · rw [lo 6 (by omega)]; exact hI6
  · rw [lo 7 (by omega)]; exact hI7
  · rw [lo _ (by omega)]; exact hIh j hj
  · rw [lo _ (by omega)]; exact hIa j hj
  · rw [lo _ (by omega)]; exact hIe j hj
  · rw [lo _ (by omega)]; exact hIm j hj
  · rw [lo _ (by omega)]; exact hIs j hj
  · by_cases c : j = e
    · rw [c, mo_up_s]; omega
    · rw [lo _ (by omega)]; exact hIl j hj
  · rw [lo _ (by omega)]; exact hIw j hj
  · rw [lo _ (by omega)]; exact hIr j hj
  · rw [lo 7 (by omega)] at hk2
    have h9 := hIt k hk2
    unfold mo_Mt mo_fld at h9 ⊢
    rw [lo 4 (by omega), lo 5 (by omega), lo 6 (by omega), lo _ (by omega), lo _ (by omega), lo _ (by omega), lo _ (by omega), lo _ (by omega), lo _ (by omega), lo _ (by omega)]
    exact h9
  · rw [lo 2 (by omega), ← hIs2]
    exact mo_sum_congr fun j hj => lo _ (by omega)
  · rw [lo 3 (by omega), ← hIs3]
    exact mo_sum_congr fun j hj => lo _ (by omega)
  · rw [lo 4 (by omega)] at h1
    rw [lo _ (by omega)]
    exact hIz a b h1 h2 h3
