/-! held, missed, taken out, the week's end, how long until all is settled -/
theorem mo_fld_up {g : Nat → Int} {i k j : Nat} {v : Int} (h : 215 + 7 * k + j ≠ i) : mo_fld (va_up g i v) k j = mo_fld g k j := by
  unfold mo_fld
  exact mo_up_n h
def mo_ag (f g : Nat → Int) : Prop := ∀ k, k < 640 → f k = g k
def mo_hd (g : Nat → Int) (p : Nat) : Nat → Int := fun j => if j = 204 + (mo_fld g p 4).toNat then g j + 1 else if j = 176 + (mo_fld g p 1).toNat then g j + 1 else if j = 2 then g j + 1 else if j = 215 + 7 * p + 6 then 1 else g j
def mo_ms (g : Nat → Int) (p : Nat) : Nat → Int := fun j => if j = 184 + (mo_fld g p 1).toNat then g j + 1 else if j = 3 then g j + 1 else if j = 215 + 7 * p + 6 then 2 else g j
theorem mo_hd_lo {g : Nat → Int} {p j : Nat} (h : j ≠ 204 + (mo_fld g p 4).toNat ∧ j ≠ 176 + (mo_fld g p 1).toNat ∧ j ≠ 2 ∧ j ≠ 215 + 7 * p + 6) : mo_hd g p j = g j := by
  unfold mo_hd
  rw [if_neg h.1, if_neg h.2.1, if_neg h.2.2.1, if_neg h.2.2.2]
theorem mo_ms_lo {g : Nat → Int} {p j : Nat} (h : j ≠ 184 + (mo_fld g p 1).toNat ∧ j ≠ 3 ∧ j ≠ 215 + 7 * p + 6) : mo_ms g p j = g j := by
  unfold mo_ms
  rw [if_neg h.1, if_neg h.2.1, if_neg h.2.2]
theorem mo_hd_f {g : Nat → Int} {p k j : Nat} {B : Int} (h : mo_Mt g p B) (h4 : g 4 ≤ 8) (h5 : g 5 ≤ 6) : mo_fld (mo_hd g p) k j = if 215 + 7 * k + j = 215 + 7 * p + 6 then 1 else mo_fld g k j := by
  unfold mo_Mt at h
  unfold mo_fld at *
  unfold mo_hd mo_fld
  rw [if_neg (by omega), if_neg (by omega), if_neg (by omega)]
theorem mo_ms_f {g : Nat → Int} {p k j : Nat} {B : Int} (h : mo_Mt g p B) (h4 : g 4 ≤ 8) : mo_fld (mo_ms g p) k j = if 215 + 7 * k + j = 215 + 7 * p + 6 then 2 else mo_fld g k j := by
  unfold mo_Mt at h
  unfold mo_fld at *
  unfold mo_ms mo_fld
  rw [if_neg (by omega), if_neg (by omega)]
theorem mo_Iv_hd {g : Nat → Int} {B : Int} {p : Nat} (h : mo_Iv g B) (hp : (p : Int) < g 7) : mo_Iv (mo_hd g p) (B + 1) := by
  obtain ⟨hI0, hI1, hI2, hI3, hI4, hI5, hI6, hI7, hIh, hIa, hIe, hIm, hIs, hIl, hIw, hIr, hIt, hIs2, hIs3, hIz⟩ := h
  have hmt := hIt p hp
  have hff : ∀ k j, mo_fld (mo_hd g p) k j = if 215 + 7 * k + j = 215 + 7 * p + 6 then 1 else mo_fld g k j := fun k j => mo_hd_f hmt hI4.2 hI5.2
  unfold mo_Mt at hmt
  generalize hwn : (mo_fld g p 1).toNat = wn at *
  generalize hen : (mo_fld g p 4).toNat = en at *
  have lo : ∀ j, j ≠ 204 + en → j ≠ 176 + wn → j ≠ 2 → j ≠ 215 + 7 * p + 6 → mo_hd g p j = g j := fun j a b c d => mo_hd_lo (by rw [hwn, hen]; exact ⟨a, b, c, d⟩)
  have up : ∀ j, g j ≤ mo_hd g p j ∧ mo_hd g p j ≤ g j + 1 ∨ j = 215 + 7 * p + 6 := fun j => by
    unfold mo_hd
    split
    · omega
    · split
      · omega
      · split
        · omega
        · split <;> omega
  refine ⟨?_, ?_, ?_, ?_, ?_, ?_, ?_, ?_, fun j hj => ?_, fun j hj => ?_, fun j hj => ?_, fun j hj => ?_, fun j hj => ?_, fun j hj => ?_, fun j hj => ?_, fun j hj => ?_, fun k hk2 => ?_, ?_, ?_, fun a b h1 h2 h3 => ?_⟩
  · rw [lo 0 (by omega) (by omega) (by omega) (by omega)]; exact hI0
  · rw [lo 1 (by omega) (by omega) (by omega) (by omega)]; omega
  · have := up 2; omega
  · rw [lo 3 (by omega) (by omega) (by omega) (by omega)]; omega
  · rw [lo 4 (by omega) (by omega) (by omega) (by omega)]; exact hI4
  · rw [lo 5 (by omega) (by omega) (by omega) (by omega)]; exact hI5
  · rw [lo 6 (by omega) (by omega) (by omega) (by omega)]; exact hI6
  · rw [lo 7 (by omega) (by omega) (by omega) (by omega)]; exact hI7
  · rw [lo _ (by omega) (by omega) (by omega) (by omega)]; exact hIh j hj
  · rw [lo _ (by omega) (by omega) (by omega) (by omega)]; exact hIa j hj
  · have h8 := hIe j hj; have := up (176 + j); omega
  · rw [lo _ (by omega) (by omega) (by omega) (by omega)]; have := hIm j hj; omega
  · rw [lo _ (by omega) (by omega) (by omega) (by omega)]; exact hIs j hj
  · rw [lo _ (by omega) (by omega) (by omega) (by omega)]; exact hIl j hj
  · have h8 := hIw j hj; have := up (204 + j); omega
  · rw [lo _ (by omega) (by omega) (by omega) (by omega)]; exact hIr j hj
  · rw [lo 7 (by omega) (by omega) (by omega) (by omega)] at hk2
    have h9 := hIt k hk2
    unfold mo_Mt at h9 ⊢
    rw [lo 4 (by omega) (by omega) (by omega) (by omega), lo 5 (by omega) (by omega) (by omega) (by omega), lo 6 (by omega) (by omega) (by omega) (by omega), hff, hff, hff, hff, hff, hff, hff, if_neg (by omega), if_neg (by omega), if_neg (by omega), if_neg (by omega), if_neg (by omega), if_neg (by omega)]
    refine ⟨by omega, by omega, by omega, by omega, by omega, by omega, ?_⟩
    split <;> omega
  · have e : (fun j => mo_hd g p (176 + j)) = va_up (fun j => g (176 + j)) wn (g (176 + wn) + 1) ∨ True := Or.inr trivial
    have h2 : mo_hd g p 2 = g 2 + 1 := by
      unfold mo_hd
      rw [if_neg (by omega), if_neg (by omega), if_pos rfl]
    have h3 : mo_sum (fun j => mo_hd g p (176 + j)) 8 = mo_sum (va_up (fun j => g (176 + j)) wn (g (176 + wn) + 1)) 8 := by
      refine mo_sum_congr fun j hj => ?_
      by_cases c : j = wn
      · subst c
        rw [mo_up_s]
        unfold mo_hd
        rw [if_neg (by omega), if_pos (by omega)]
      · rw [mo_up_n c, lo _ (by omega) (by omega) (by omega) (by omega)]
    rw [h3, mo_sum_up, if_pos (by omega), hIs2, h2]
    omega
  · rw [lo 3 (by omega) (by omega) (by omega) (by omega), ← hIs3]
    exact mo_sum_congr fun j hj => lo _ (by omega) (by omega) (by omega) (by omega)
  · rw [lo 4 (by omega) (by omega) (by omega) (by omega)] at h1
    rw [lo _ (by omega) (by omega) (by omega) (by omega)]
    exact hIz a b h1 h2 h3
theorem mo_Iv_ms {g : Nat → Int} {B : Int} {p : Nat} (h : mo_Iv g B) (hp : (p : Int) < g 7) : mo_Iv (mo_ms g p) (B + 1) := by
  obtain ⟨hI0, hI1, hI2, hI3, hI4, hI5, hI6, hI7, hIh, hIa, hIe, hIm, hIs, hIl, hIw, hIr, hIt, hIs2, hIs3, hIz⟩ := h
  have hmt := hIt p hp
  have hff : ∀ k j, mo_fld (mo_ms g p) k j = if 215 + 7 * k + j = 215 + 7 * p + 6 then 2 else mo_fld g k j := fun k j => mo_ms_f hmt hI4.2
  unfold mo_Mt at hmt
  generalize hwn : (mo_fld g p 1).toNat = wn at *
  have lo : ∀ j, j ≠ 184 + wn → j ≠ 3 → j ≠ 215 + 7 * p + 6 → mo_ms g p j = g j := fun j a b c => mo_ms_lo (by rw [hwn]; exact ⟨a, b, c⟩)
  have up : ∀ j, g j ≤ mo_ms g p j ∧ mo_ms g p j ≤ g j + 1 ∨ j = 215 + 7 * p + 6 := fun j => by
    unfold mo_ms
    split
    · omega
    · split
      · omega
      · split <;> omega
  refine ⟨?_, ?_, ?_, ?_, ?_, ?_, ?_, ?_, fun j hj => ?_, fun j hj => ?_, fun j hj => ?_, fun j hj => ?_, fun j hj => ?_, fun j hj => ?_, fun j hj => ?_, fun j hj => ?_, fun k hk2 => ?_, ?_, ?_, fun a b h1 h2 h3 => ?_⟩
  · rw [lo 0 (by omega) (by omega) (by omega)]; exact hI0
  · rw [lo 1 (by omega) (by omega) (by omega)]; omega
  · rw [lo 2 (by omega) (by omega) (by omega)]; omega
  · have := up 3; omega
  · rw [lo 4 (by omega) (by omega) (by omega)]; exact hI4
  · rw [lo 5 (by omega) (by omega) (by omega)]; exact hI5
  · rw [lo 6 (by omega) (by omega) (by omega)]; exact hI6
  · rw [lo 7 (by omega) (by omega) (by omega)]; exact hI7
  · rw [lo _ (by omega) (by omega) (by omega)]; exact hIh j hj
  · rw [lo _ (by omega) (by omega) (by omega)]; exact hIa j hj
  · rw [lo _ (by omega) (by omega) (by omega)]; have := hIe j hj; omega
  · have h8 := hIm j hj; have := up (184 + j); omega
  · rw [lo _ (by omega) (by omega) (by omega)]; exact hIs j hj
  · rw [lo _ (by omega) (by omega) (by omega)]; exact hIl j hj
  · rw [lo _ (by omega) (by omega) (by omega)]; have := hIw j hj; omega
  · rw [lo _ (by omega) (by omega) (by omega)]; exact hIr j hj
  · rw [lo 7 (by omega) (by omega) (by omega)] at hk2
    have h9 := hIt k hk2
    unfold mo_Mt at h9 ⊢
    rw [lo 4 (by omega) (by omega) (by omega), lo 5 (by omega) (by omega) (by omega), lo 6 (by omega) (by omega) (by omega), hff, hff, hff, hff, hff, hff, hff, if_neg (by omega), if_neg (by omega), if_neg (by omega), if_neg (by omega), if_neg (by omega), if_neg (by omega)]
    refine ⟨by omega, by omega, by omega, by omega, by omega, by omega, ?_⟩
    split <;> omega
  · rw [lo 2 (by omega) (by omega) (by omega), ← hIs2]
    exact mo_sum_congr fun j hj => lo _ (by omega) (by omega) (by omega)
  · have h2 : mo_ms g p 3 = g 3 + 1 := by
      unfold mo_ms
      rw [if_neg (by omega), if_pos rfl]
    have h3 : mo_sum (fun j => mo_ms g p (184 + j)) 8 = mo_sum (va_up (fun j => g (184 + j)) wn (g (184 + wn) + 1)) 8 := by
      refine mo_sum_congr fun j hj => ?_
      by_cases c : j = wn
      · subst c
        rw [mo_up_s]
        unfold mo_ms
        rw [if_pos (by omega)]
      · rw [mo_up_n c, lo _ (by omega) (by omega) (by omega)]
    rw [h3, mo_sum_up, if_pos (by omega), hIs3, h2]
    omega
  · rw [lo 4 (by omega) (by omega) (by omega)] at h1
    rw [lo _ (by omega) (by omega) (by omega)]
    exact hIz a b h1 h2 h3
/-- a meeting is not kept any more; those behind it close up -/
def mo_to (g : Nat → Int) (p : Nat) : Nat → Int := fun j => if j = 7 then g 7 - 1 else if 215 + 7 * p ≤ j ∧ j < 215 + 7 * (mo_nk g - 1) then g (j + 7) else if 215 + 7 * (mo_nk g - 1) ≤ j ∧ j < 215 + 7 * (mo_nk g - 1) + 7 then 0 else g j
theorem mo_to_lo {g : Nat → Int} {p j : Nat} (h7 : j ≠ 7) (h : j < 215) : mo_to g p j = g j := by
  unfold mo_to
  rw [if_neg h7, if_neg (by omega), if_neg (by omega)]
theorem mo_to_7 (g : Nat → Int) (p : Nat) : mo_to g p 7 = g 7 - 1 := rfl
theorem mo_to_f {g : Nat → Int} {p k j : Nat} (hj : j < 7) (hk : k + 1 < mo_nk g) : mo_fld (mo_to g p) k j = if k < p then mo_fld g k j else mo_fld g (k + 1) j := by
  unfold mo_fld mo_to
  rw [if_neg (by omega)]
  by_cases c : k < p
  · rw [if_pos c, if_neg (by omega), if_neg (by omega)]
  · rw [if_neg c, if_pos (by omega)]
    congr 1
    omega
theorem mo_to_k (g : Nat → Int) (p : Nat) (h : 0 ≤ g 7) : mo_nk (mo_to g p) = mo_nk g - 1 := by
  unfold mo_nk
  rw [mo_to_7]
  omega
theorem mo_Iv_to {g : Nat → Int} {B : Int} {p : Nat} (h : mo_Iv g B) (hp : (p : Int) < g 7) : mo_Iv (mo_to g p) B := by
  obtain ⟨hI0, hI1, hI2, hI3, hI4, hI5, hI6, hI7, hIh, hIa, hIe, hIm, hIs, hIl, hIw, hIr, hIt, hIs2, hIs3, hIz⟩ := h
  have hn : ((mo_nk g : Nat) : Int) = g 7 := by unfold mo_nk; omega
  have lo : ∀ j, j < 215 → j ≠ 7 → mo_to g p j = g j := fun j a b => mo_to_lo b a
  refine ⟨?_, ?_, ?_, ?_, ?_, ?_, ?_, ?_, fun j hj => ?_, fun j hj => ?_, fun j hj => ?_, fun j hj => ?_, fun j hj => ?_, fun j hj => ?_, fun j hj => ?_, fun j hj => ?_, fun k hk2 => ?_, ?_, ?_, fun a b h1 h2 h3 => ?_⟩
  · rw [lo 0 (by omega) (by omega)]; exact hI0
  · rw [lo 1 (by omega) (by omega)]; exact hI1
  · rw [lo 2 (by omega) (by omega)]; exact hI2
  · rw [lo 3 (by omega) (by omega)]; exact hI3
  · rw [lo 4 (by omega) (by omega)]; exact hI4
  · rw [lo 5 (by omega) (by omega)]; exact hI5
  · rw [lo 6 (by omega) (by omega)]; exact hI6
  · rw [mo_to_7]; omega
  · rw [lo _ (by omega) (by omega)]; exact hIh j hj
  · rw [lo _ (by omega) (by omega)]; exact hIa j hj
  · rw [lo _ (by omega) (by omega)]; exact hIe j hj
  · rw [lo _ (by omega) (by omega)]; exact hIm j hj
  · rw [lo _ (by omega) (by omega)]; exact hIs j hj
  · rw [lo _ (by omega) (by omega)]; exact hIl j hj
  · rw [lo _ (by omega) (by omega)]; exact hIw j hj
  · rw [lo _ (by omega) (by omega)]; exact hIr j hj
  · rw [mo_to_7] at hk2
    unfold mo_Mt
    rw [lo 4 (by omega) (by omega), lo 5 (by omega) (by omega), lo 6 (by omega) (by omega), mo_to_f (by omega) (by omega), mo_to_f (by omega) (by omega), mo_to_f (by omega) (by omega), mo_to_f (by omega) (by omega), mo_to_f (by omega) (by omega), mo_to_f (by omega) (by omega), mo_to_f (by omega) (by omega)]
    by_cases c : k < p
    · simp only [if_pos c]
      have h9 := hIt k (by omega)
      unfold mo_Mt at h9
      exact h9
    · simp only [if_neg c]
      have h9 := hIt (k + 1) (by omega)
      unfold mo_Mt at h9
      exact h9
  · rw [lo 2 (by omega) (by omega), ← hIs2]
    exact mo_sum_congr fun j hj => lo _ (by omega) (by omega)
  · rw [lo 3 (by omega) (by omega), ← hIs3]
    exact mo_sum_congr fun j hj => lo _ (by omega) (by omega)
  · rw [lo 4 (by omega) (by omega)] at h1
    rw [lo _ (by omega) (by omega)]
    exact hIz a b h1 h2 h3
/-- the planned ones of the present week are missed, one by one; how many -/
def mo_op (g : Nat → Int) (k : Nat) : Bool := decide (mo_fld g k 2 = g 0 ∧ mo_fld g k 6 = 0)
def mo_mw (g : Nat → Int) : Nat → Int × (Nat → Int)
  | 0 => (0, g)
  | k + 1 => if mo_op (mo_mw g k).2 k = true then ((mo_mw g k).1 + 1, mo_ms (mo_mw g k).2 k) else mo_mw g k
def mo_hw (g : Nat → Int) : Nat → (Nat → Int)
  | 0 => g
  | k + 1 => if mo_op (mo_hw g k) k = true then mo_hd (mo_hw g k) k else mo_hw g k
/-- from the last to the first: what is too old goes -/
def mo_gn (g : Nat → Int) : Nat → (Nat → Int)
  | 0 => g
  | k + 1 => mo_gn (if 4 < g 0 - mo_fld g k 2 then mo_to g k else g) k
def mo_nw (g : Nat → Int) : Nat → Int := va_up g 0 (g 0 + 1)
def mo_eR (g : Nat → Int) : Nat → Int := mo_gn (mo_nw (mo_mw g (mo_nk g)).2) (mo_nk g)
def mo_eN (g : Nat → Int) : Int := (mo_mw g (mo_nk g)).1
theorem mo_mw_b {g : Nat → Int} {B : Int} (h : mo_Iv g B) : ∀ k, k ≤ mo_nk g → mo_Iv (mo_mw g k).2 (B + k) ∧ (mo_mw g k).2 7 = g 7 ∧ (mo_mw g k).2 0 = g 0 ∧ 0 ≤ (mo_mw g k).1 ∧ (mo_mw g k).1 ≤ k
  | 0, _ => ⟨by simpa [mo_mw] using h, rfl, rfl, by simp [mo_mw]⟩
  | k + 1, hk => by
    obtain ⟨h1, h2, h3, h4, h5⟩ := mo_mw_b h k (by omega)
    have hn : ((mo_nk g : Nat) : Int) = g 7 := by
      have := h.2.2.2.2.2.2.2.1
      unfold mo_nk; omega
    have hk7 : (k : Int) < (mo_mw g k).2 7 := by rw [h2]; omega
    have hmt := h1.2.2.2.2.2.2.2.2.2.2.2.2.2.2.2.2.1 k hk7
    have hI4 := h1.2.2.2.2.1
    rw [mo_mw]
    split
    · refine ⟨mo_Iv_mono (mo_Iv_ms h1 hk7) (by omega), ?_, ?_, by simp only; omega, by simp only; omega⟩
      · show mo_ms _ _ 7 = _
        unfold mo_Mt at hmt
        rw [mo_ms_lo ⟨by omega, by omega, by omega⟩, h2]
      · show mo_ms _ _ 0 = _
        rw [mo_ms_lo ⟨by omega, by omega, by omega⟩, h3]
    · exact ⟨mo_Iv_mono h1 (by omega), h2, h3, h4, by omega⟩
theorem mo_hw_b {g : Nat → Int} {B : Int} (h : mo_Iv g B) : ∀ k, k ≤ mo_nk g → mo_Iv (mo_hw g k) (B + k) ∧ mo_hw g k 7 = g 7 ∧ mo_hw g k 0 = g 0
  | 0, _ => ⟨by simpa [mo_hw] using h, rfl, rfl⟩
  | k + 1, hk => by
    obtain ⟨h1, h2, h3⟩ := mo_hw_b h k (by omega)
    have hn : ((mo_nk g : Nat) : Int) = g 7 := by
      have := h.2.2.2.2.2.2.2.1
      unfold mo_nk; omega
    have hk7 : (k : Int) < mo_hw g k 7 := by rw [h2]; omega
    rw [mo_hw]
    split
    · refine ⟨mo_Iv_mono (mo_Iv_hd h1 hk7) (by omega), ?_, ?_⟩
      · rw [mo_hd_lo ⟨by omega, by omega, by omega, by omega⟩, h2]
      · rw [mo_hd_lo ⟨by omega, by omega, by omega, by omega⟩, h3]
    · exact ⟨mo_Iv_mono h1 (by omega), h2, h3⟩
theorem mo_Iv_nw {g : Nat → Int} {B : Int} (h : mo_Iv g B) (h0 : g 0 < 19) : mo_Iv (mo_nw g) B := by
  obtain ⟨hI0, hI1, hI2, hI3, hI4, hI5, hI6, hI7, hIh, hIa, hIe, hIm, hIs, hIl, hIw, hIr, hIt, hIs2, hIs3, hIz⟩ := h
  have lo : ∀ j, j ≠ 0 → mo_nw g j = g j := fun j a => mo_up_n a
  refine ⟨?_, ?_, ?_, ?_, ?_, ?_, ?_, ?_, fun j hj => ?_, fun j hj => ?_, fun j hj => ?_, fun j hj => ?_, fun j hj => ?_, fun j hj => ?_, fun j hj => ?_, fun j hj => ?_, fun k hk2 => ?_, ?_, ?_, fun a b h1 h2 h3 => ?_⟩
  · unfold mo_nw; rw [mo_up_s]; omega
  · rw [lo 1 (by omega)]; exact hI1
  · rw [lo 2 (by omega)]; exact hI2
  · rw [lo 3 (by omega)]; exact hI3
  · rw [lo 4 (by omega)]; exact hI4
  · rw [lo 5 (by omega)]; exact hI5
  · rw [lo 6 (by omega)]; exact hI6
  · rw [lo 7 (by omega)]; exact hI7
  · rw [lo _ (by omega)]; exact hIh j hj
  · rw [lo _ (by omega)]; exact hIa j hj
  · rw [lo _ (by omega)]; exact hIe j hj
  · rw [lo _ (by omega)]; exact hIm j hj
  · rw [lo _ (by omega)]; exact hIs j hj
  · rw [lo _ (by omega)]; exact hIl j hj
  · rw [lo _ (by omega)]; exact hIw j hj
  · rw [lo _ (by omega)]; exact hIr j hj
  · rw [lo 7 (by omega)] at hk2
    have h9 := hIt k hk2
    unfold mo_Mt mo_fld at h9 ⊢
    rw [lo 4 (by omega), lo 5 (by omega), lo 6 (by omega), lo _ (by omega), lo _ (by omega), lo _ (by omega), lo _ (by omega), lo _ (by omega), lo _ (by omega), lo _ (by omega)]
    exact h9
  · rw [lo 2 (by omega), ← hIs2]
    exact mo_sum_congr fun j hj => lo _ (by omega)
  · rw [lo 3 (by omega), ← hIs3]
    exact mo_sum_congr fun j hj => lo _ (by omega)
  · rw [lo 4 (by omega)] at h1
    rw [lo _ (by omega)]
    exact hIz a b h1 h2 h3
theorem mo_gn_b {B : Int} : ∀ (k : Nat) {g : Nat → Int}, mo_Iv g B → k ≤ mo_nk g → mo_Iv (mo_gn g k) B ∧ mo_gn g k 0 = g 0
  | 0, g, h, _ => ⟨h, rfl⟩
  | k + 1, g, h, hk => by
    have hn : ((mo_nk g : Nat) : Int) = g 7 := by
      have := h.2.2.2.2.2.2.2.1
      unfold mo_nk; omega
    rw [mo_gn]
    split
    · obtain ⟨h1, h2⟩ := mo_gn_b k (mo_Iv_to (p := k) h (by omega)) (by rw [mo_to_k _ _ (by omega)]; omega)
      exact ⟨h1, by rw [h2, mo_to_lo (by omega) (by omega)]⟩
    · exact mo_gn_b k h (by omega)
theorem mo_e_b {g : Nat → Int} {B : Int} (h : mo_Iv g B) (h0 : g 0 < 19) : mo_Iv (mo_eR g) (B + 60) ∧ mo_eR g 0 = g 0 + 1 ∧ 0 ≤ mo_eN g ∧ mo_eN g ≤ 60 := by
  have h7 := h.2.2.2.2.2.2.2.1
  have hn : ((mo_nk g : Nat) : Int) = g 7 := by unfold mo_nk; omega
  obtain ⟨h1, h2, h3, h4, h5⟩ := mo_mw_b h (mo_nk g) (Nat.le_refl _)
  have h6 := mo_Iv_nw (mo_Iv_mono h1 (show B + (mo_nk g : Nat) ≤ B + 60 by omega)) (by omega)
  have hk : mo_nk (mo_nw (mo_mw g (mo_nk g)).2) = mo_nk g := by
    show ((mo_nw (mo_mw g (mo_nk g)).2) 7).toNat = _
    unfold mo_nw
    rw [mo_up_n (by omega), h2]
    rfl
  obtain ⟨a1, a2⟩ := mo_gn_b (mo_nk g) h6 (by omega)
  refine ⟨a1, ?_, h4, ?_⟩
  · show mo_gn _ _ 0 = _
    rw [a2]
    unfold mo_nw
    rw [mo_up_s, h3]
  · unfold mo_eN
    omega
/-- the first week in which nothing is owed any more -/
def mo_set : Nat → (Nat → Int) → Int
  | 0, _ => -1
  | n + 1, g =>
    let g2 := mo_hw (mo_pl (g 0).toNat 61 g).2 (mo_nk (mo_pl (g 0).toNat 61 g).2)
    if mo_owa g2 (g 0).toNat = 0 then g 0 else if g 0 < 19 then mo_set n (mo_eR g2) else -1
