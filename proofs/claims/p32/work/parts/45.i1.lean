theorem mo_Iv_u192 {g : Nat → Int} {B : Int} {e : Nat} {v : Int} (he : e < 6) (hv : 0 ≤ v ∧ v < 268435456) (h : mo_Iv g B) : mo_Iv (va_up g (192 + e) v) B := by
  obtain ⟨hI0, hI1, hI2, hI3, hI4, hI5, hI6, hI7, hIh, hIa, hIe, hIm, hIs, hIl, hIw, hIr, hIt, hIs2, hIs3, hIz⟩ := id h
  have lo : ∀ j, j ≠ 192 + e → va_up g (192 + e) v j = g j := fun j a => mo_up_n a
  refine ⟨?_, ?_, ?_, ?_, ?_, ?_, ?_, ?_, fun j hj => ?_, fun j hj => ?_, fun j hj => ?_, fun j hj => ?_, fun j hj => ?_, fun j hj => ?_, fun j hj => ?_, fun j hj => ?_, fun k hk2 => ?_, ?_, ?_, fun a b h1 h2 h3 => ?_⟩
  · rw [lo 0 (by omega)]; exact hI0
  · rw [lo 1 (by omega)]; exact hI1
  · rw [lo 2 (by omega)]; exact hI2
  · rw [lo 3 (by omega)]; exact hI3
  · rw [lo 4 (by omega)]; exact hI4
  · rw [lo 5 (by omega)]; exact hI5
  · rw [lo 6 (by omega)]; exact hI6
  · rw [lo 7 (by omega)]; exact hI7
  · rw [lo _ (by omega)]; exact hIh j hj
  · rw [lo _ (by omega)]; exact hIa j hj
  · rw [lo _ (by omega)]; exact hIe j hj
  · rw [lo _ (by omega)]; exact hIm j hj
  · by_cases c : j = e
    · rw [c, mo_up_s]; exact hv
    · rw [lo _ (by omega)]; exact hIs j hj
  · rw [lo _ (by omega)]; exact hIl j hj
  · rw [lo _ (by omega)]; exact hIw j hj
  · rw [lo _ (by omega)]; exact hIr j hj
  · rw [lo 7 (by omega)] at hk2
    have h9 := hIt k hk2
    unfold mo_Mt mo_fld at h9 ⊢
    rw [lo 4 (by omega), lo 5 (by omega), lo 6 (by omega), lo _ (by omega), lo _ (by omega), lo _ (by omega), lo _ (by omega), lo _ (by omega), lo _ (by omega), lo _ (by omega)]
    exact h9
  · rw [lo 2 (by omega), ← hIs2]
    exact mo_sum_congr fun j hj => lo _ (by omega)
  · rw [lo 3 (by omega), ← hIs3]
    exact mo_sum_congr fun j hj => lo _ (by omega)
  · rw [lo 4 (by omega)] at h1
    rw [lo _ (by omega)]
    exact hIz a b h1 h2 h3
theorem mo_Iv_u168 {g : Nat → Int} {B : Int} {e : Nat} {v : Int} (he : e < 8) (hv : 0 ≤ v ∧ v < 32) (h : mo_Iv g B) : mo_Iv (va_up g (168 + e) v) B := by
  obtain ⟨hI0, hI1, hI2, hI3, hI4, hI5, hI6, hI7, hIh, hIa, hIe, hIm, hIs, hIl, hIw, hIr, hIt, hIs2, hIs3, hIz⟩ := id h
  have lo : ∀ j, j ≠ 168 + e → va_up g (168 + e) v j = g j := fun j a => mo_up_n a
  refine ⟨?_, ?_, ?_, ?_, ?_, ?_, ?_, ?_, fun j hj => ?_, fun j hj => ?_, fun j hj => ?_, fun j hj => ?_, fun j hj => ?_, fun j hj => ?_, fun j hj => ?_, fun j hj => ?_, fun k hk2 => ?_, ?_, ?_, fun a b h1 h2 h3 => ?_⟩
  · rw [lo 0 (by omega)]; exact hI0
  · rw [lo 1 (by omega)]; exact hI1
  · rw [lo 2 (by omega)]; exact hI2
  · rw [lo 3 (by omega)]; exact hI3
  · rw [lo 4 (by omega)]; exact hI4
  · rw [lo 5 (by omega)]; exact hI5
  · rw [lo 6 (by omega)]; exact hI6
  · rw [lo 7 (by omega)]; exact hI7
  · rw [lo _ (by omega)]; exact hIh j hj
  · by_cases c : j = e
    · rw [c, mo_up_s]; exact hv
    · rw [lo _ (by omega)]; exact hIa j hj
  · rw [lo _ (by omega)]; exact hIe j hj
  · rw [lo _ (by omega)]; exact hIm j hj
  · rw [lo _ (by omega)]; exact hIs j hj
  · rw [lo _ (by omega)]; exact hIl j hj
  · rw [lo _ (by omega)]; exact hIw j hj
  · rw [lo _ (by omega)]; exact hIr j hj
  · rw [lo 7 (by omega)] at hk2
    have h9 := hIt k hk2
    unfold mo_Mt mo_fld at h9 ⊢
    rw [lo 4 (by omega), lo 5 (by omega), lo 6 (by omega), lo _ (by omega), lo _ (by omega), lo _ (by omega), lo _ (by omega), lo _ (by omega), lo _ (by omega), lo _ (by omega)]
    exact h9
  · rw [lo 2 (by omega), ← hIs2]
    exact mo_sum_congr fun j hj => lo _ (by omega)
  · rw [lo 3 (by omega), ← hIs3]
    exact mo_sum_congr fun j hj => lo _ (by omega)
  · rw [lo 4 (by omega)] at h1
    rw [lo _ (by omega)]
    exact hIz a b h1 h2 h3
theorem mo_Iv_AV {g : Nat → Int} {B : Int} {v : Int} (h6 : g 6 < 5) (hv : 0 ≤ v ∧ v ≤ 4) (h : mo_Iv g B) : mo_Iv (mo_gAV g v) B := by
  obtain ⟨hI0, hI1, hI2, hI3, hI4, hI5, hI6, hI7, hIh, hIa, hIe, hIm, hIs, hIl, hIw, hIr, hIt, hIs2, hIs3, hIz⟩ := id h
  obtain ⟨q, hq⟩ : ∃ q : Nat, g 6 = q := ⟨(g 6).toNat, by omega⟩
  have lo : ∀ j, j ≠ 6 → j ≠ 210 + q → mo_gAV g v j = g j := fun j a b => by
    unfold mo_gAV
    rw [hq, Int.toNat_natCast, mo_up_n a, mo_up_n b]
  have e6 : mo_gAV g v 6 = g 6 + 1 := by unfold mo_gAV; rw [mo_up_s]
  refine ⟨?_, ?_, ?_, ?_, ?_, ?_, ?_, ?_, fun j hj => ?_, fun j hj => ?_, fun j hj => ?_, fun j hj => ?_, fun j hj => ?_, fun j hj => ?_, fun j hj => ?_, fun j hj => ?_, fun k hk2 => ?_, ?_, ?_, fun a b h1 h2 h3 => ?_⟩
  · rw [lo 0 (by omega) (by omega)]; exact hI0
  · rw [lo 1 (by omega) (by omega)]; exact hI1
  · rw [lo 2 (by omega) (by omega)]; exact hI2
  · rw [lo 3 (by omega) (by omega)]; exact hI3
  · rw [lo 4 (by omega) (by omega)]; exact hI4
  · rw [lo 5 (by omega) (by omega)]; exact hI5
  · rw [e6]; omega
  · rw [lo 7 (by omega) (by omega)]; exact hI7
  · rw [lo _ (by omega) (by omega)]; exact hIh j hj
  · rw [lo _ (by omega) (by omega)]; exact hIa j hj
  · rw [lo _ (by omega) (by omega)]; exact hIe j hj
  · rw [lo _ (by omega) (by omega)]; exact hIm j hj
  · rw [lo _ (by omega) (by omega)]; exact hIs j hj
  · rw [lo _ (by omega) (by omega)]; exact hIl j hj
  · rw [lo _ (by omega) (by omega)]; exact hIw j hj
  · by_cases c : j = q
    · rw [c]
      unfold mo_gAV
      rw [hq, Int.toNat_natCast, mo_up_n (by omega), mo_up_s]
      exact hv
    · rw [lo _ (by omega) (by omega)]; exact hIr j hj
  · rw [lo 7 (by omega) (by omega)] at hk2
    have h9 := hIt k hk2
    unfold mo_Mt mo_fld at h9 ⊢
    rw [lo 4 (by omega) (by omega), lo 5 (by omega) (by omega), e6, lo _ (by omega) (by omega), lo _ (by omega) (by omega), lo _ (by omega) (by omega), lo _ (by omega) (by omega), lo _ (by omega) (by omega), lo _ (by omega) (by omega), lo _ (by omega) (by omega)]
    omega
  · rw [lo 2 (by omega) (by omega), ← hIs2]
    exact mo_sum_congr fun j hj => lo _ (by omega) (by omega)
  · rw [lo 3 (by omega) (by omega), ← hIs3]
    exact mo_sum_congr fun j hj => lo _ (by omega) (by omega)
  · rw [lo 4 (by omega) (by omega)] at h1
    rw [lo _ (by omega) (by omega)]
    exact hIz a b h1 h2 h3
theorem mo_Iv_AE {g : Nat → Int} {B : Int} {p v : Int} (h5 : g 5 < 6) (hp : 0 ≤ p ∧ p < 268435456) (hv : 0 ≤ v ∧ v ≤ 20) (h : mo_Iv g B) : mo_Iv (mo_gAE g p v) B := by
  obtain ⟨hI0, hI1, hI2, hI3, hI4, hI5, hI6, hI7, hIh, hIa, hIe, hIm, hIs, hIl, hIw, hIr, hIt, hIs2, hIs3, hIz⟩ := id h
  obtain ⟨q, hq⟩ : ∃ q : Nat, g 5 = q := ⟨(g 5).toNat, by omega⟩
  have lo : ∀ j, j ≠ 5 → j ≠ 192 + q → j ≠ 198 + q → mo_gAE g p v j = g j := fun j a b c => by
    unfold mo_gAE
    rw [hq, Int.toNat_natCast, mo_up_n a, mo_up_n c, mo_up_n b]
  have e5 : mo_gAE g p v 5 = g 5 + 1 := by unfold mo_gAE; rw [mo_up_s]
  refine ⟨?_, ?_, ?_, ?_, ?_, ?_, ?_, ?_, fun j hj => ?_, fun j hj => ?_, fun j hj => ?_, fun j hj => ?_, fun j hj => ?_, fun j hj => ?_, fun j hj => ?_, fun j hj => ?_, fun k hk2 => ?_, ?_, ?_, fun a b h1 h2 h3 => ?_⟩
  · rw [lo 0 (by omega) (by omega) (by omega)]; exact hI0
  · rw [lo 1 (by omega) (by omega) (by omega)]; exact hI1
  · rw [lo 2 (by omega) (by omega) (by omega)]; exact hI2
  · rw [lo 3 (by omega) (by omega) (by omega)]; exact hI3
  · rw [lo 4 (by omega) (by omega) (by omega)]; exact hI4
  · rw [e5]; omega
  · rw [lo 6 (by omega) (by omega) (by omega)]; exact hI6
  · rw [lo 7 (by omega) (by omega) (by omega)]; exact hI7
  · rw [lo _ (by omega) (by omega) (by omega)]; exact hIh j hj
  · rw [lo _ (by omega) (by omega) (by omega)]; exact hIa j hj
  · rw [lo _ (by omega) (by omega) (by omega)]; exact hIe j hj
  · rw [lo _ (by omega) (by omega) (by omega)]; exact hIm j hj
  · by_cases c : j = q
    · rw [c]
      unfold mo_gAE
      rw [hq, Int.toNat_natCast, mo_up_n (by omega), mo_up_n (by omega), mo_up_s]
      exact hp
    · rw [lo _ (by omega) (by omega) (by omega)]; exact hIs j hj
  · by_cases c : j = q
    · rw [c]
      unfold mo_gAE
      rw [hq, Int.toNat_natCast, mo_up_n (by omega), mo_up_s]
      exact hv
    · rw [lo _ (by omega) (by omega) (by omega)]; exact hIl j hj
  · rw [lo _ (by omega) (by omega) (by omega)]; exact hIw j hj
  · rw [lo _ (by omega) (by omega) (by omega)]; exact hIr j hj
  · rw [lo 7 (by omega) (by omega) (by omega)] at hk2
    have h9 := hIt k hk2
    unfold mo_Mt mo_fld at h9 ⊢
    rw [lo 4 (by omega) (by omega) (by omega), e5, lo 6 (by omega) (by omega) (by omega), lo _ (by omega) (by omega) (by omega), lo _ (by omega) (by omega) (by omega), lo _ (by omega) (by omega) (by omega), lo _ (by omega) (by omega) (by omega), lo _ (by omega) (by omega) (by omega), lo _ (by omega) (by omega) (by omega), lo _ (by omega) (by omega) (by omega)]
    omega
  · rw [lo 2 (by omega) (by omega) (by omega), ← hIs2]
    exact mo_sum_congr fun j hj => lo _ (by omega) (by omega) (by omega)
  · rw [lo 3 (by omega) (by omega) (by omega), ← hIs3]
    exact mo_sum_congr fun j hj => lo _ (by omega) (by omega) (by omega)
  · rw [lo 4 (by omega) (by omega) (by omega)] at h1
    rw [lo _ (by omega) (by omega) (by omega)]
    exact hIz a b h1 h2 h3
theorem mo_Iv_AO {g : Nat → Int} {B : Int} {p v : Int} (h4 : g 4 < 8) (hp : 0 ≤ p ∧ p ≤ 7) (hv : 0 ≤ v ∧ v < 32) (h : mo_Iv g B) : mo_Iv (mo_gAO g p v) B := by
  obtain ⟨hI0, hI1, hI2, hI3, hI4, hI5, hI6, hI7, hIh, hIa, hIe, hIm, hIs, hIl, hIw, hIr, hIt, hIs2, hIs3, hIz⟩ := id h
  obtain ⟨q, hq⟩ : ∃ q : Nat, g 4 = q := ⟨(g 4).toNat, by omega⟩
  have lo : ∀ j, j ≠ 4 → j ≠ 168 + q → (j < 8 + 20 * q ∨ 8 + 20 * q + 20 ≤ j) → mo_gAO g p v j = g j := fun j a b c => by
    unfold mo_gAO
    rw [hq, Int.toNat_natCast, if_neg a, if_neg b, if_neg (by omega)]
  have e4 : mo_gAO g p v 4 = g 4 + 1 := by unfold mo_gAO; rw [if_pos rfl]
  refine ⟨?_, ?_, ?_, ?_, ?_, ?_, ?_, ?_, fun j hj => ?_, fun j hj => ?_, fun j hj => ?_, fun j hj => ?_, fun j hj => ?_, fun j hj => ?_, fun j hj => ?_, fun j hj => ?_, fun k hk2 => ?_, ?_, ?_, fun a b h1 h2 h3 => ?_⟩
  · rw [lo 0 (by omega) (by omega) (by omega)]; exact hI0
  · rw [lo 1 (by omega) (by omega) (by omega)]; exact hI1
  · rw [lo 2 (by omega) (by omega) (by omega)]; exact hI2
  · rw [lo 3 (by omega) (by omega) (by omega)]; exact hI3
  · rw [e4]; omega
  · rw [lo 5 (by omega) (by omega) (by omega)]; exact hI5
  · rw [lo 6 (by omega) (by omega) (by omega)]; exact hI6
  · rw [lo 7 (by omega) (by omega) (by omega)]; exact hI7
  · have h9 := hIh j hj
    unfold mo_gAO
    rw [hq, Int.toNat_natCast, if_neg (by omega), if_neg (by omega)]
    split
    · first
      | (split <;> omega)
      | omega
    · exact h9
  · by_cases c : j = q
    · rw [c]
      unfold mo_gAO
      rw [hq, Int.toNat_natCast, if_neg (by omega), if_pos rfl]
      exact hv
    · rw [lo _ (by omega) (by omega) (by omega)]; exact hIa j hj
  · rw [lo _ (by omega) (by omega) (by omega)]; exact hIe j hj
  · rw [lo _ (by omega) (by omega) (by omega)]; exact hIm j hj
  · rw [lo _ (by omega) (by omega) (by omega)]; exact hIs j hj
  · rw [lo _ (by omega) (by omega) (by omega)]; exact hIl j hj
  · rw [lo _ (by omega) (by omega) (by omega)]; exact hIw j hj
  · rw [lo _ (by omega) (by omega) (by omega)]; exact hIr j hj
  · rw [lo 7 (by omega) (by omega) (by omega)] at hk2
    have h9 := hIt k hk2
    unfold mo_Mt mo_fld at h9 ⊢
    rw [e4, lo 5 (by omega) (by omega) (by omega), lo 6 (by omega) (by omega) (by omega), lo _ (by omega) (by omega) (by omega), lo _ (by omega) (by omega) (by omega), lo _ (by omega) (by omega) (by omega), lo _ (by omega) (by omega) (by omega), lo _ (by omega) (by omega) (by omega), lo _ (by omega) (by omega) (by omega), lo _ (by omega) (by omega) (by omega)]
    omega
  · rw [lo 2 (by omega) (by omega) (by omega), ← hIs2]
    exact mo_sum_congr fun j hj => lo _ (by omega) (by omega) (by omega)
  · rw [lo 3 (by omega) (by omega) (by omega), ← hIs3]
    exact mo_sum_congr fun j hj => lo _ (by omega) (by omega) (by omega)
  · rw [e4] at h1
    rw [lo _ (by omega) (by omega) (by omega)]
    exact hIz a b (by omega) h2 h3
