/-! THE PROPERTY: counts, sets of bits -/
theorem mo_cnt_s (p : Nat → Bool) (n : Nat) : mo_cnt p (n + 1) = mo_cnt p n + (if p n = true then 1 else 0) := rfl
theorem mo_cnt_im {p q : Nat → Bool} : ∀ {n : Nat}, (∀ j, j < n → p j = true → q j = true) → mo_cnt p n ≤ mo_cnt q n
  | 0, _ => Int.le_refl _
  | n + 1, h => by
    have h1 := mo_cnt_im (p := p) (q := q) (n := n) (fun j hj => h j (by omega))
    have h2 := h n (by omega)
    rw [mo_cnt_s, mo_cnt_s]
    by_cases c : p n = true
    · rw [if_pos c, if_pos (h2 c)]; omega
    · rw [if_neg c]; split <;> omega
theorem mo_cnt_0 {p : Nat → Bool} : ∀ {n : Nat}, (∀ j, j < n → p j = false) → mo_cnt p n = 0
  | 0, _ => rfl
  | n + 1, h => by
    have h1 := mo_cnt_0 (p := p) (n := n) (fun j hj => h j (by omega))
    rw [mo_cnt_s, h1, h n (by omega)]
    rfl
theorem mo_cnt_at {p q : Nat → Bool} {i : Nat} : ∀ {n : Nat}, (∀ j, j < n → j ≠ i → q j = p j) → mo_cnt q n = mo_cnt p n + (if i < n then (if q i = true then 1 else 0) - (if p i = true then 1 else 0) else 0)
  | 0, _ => by simp [mo_cnt]
  | n + 1, h => by
    have h1 := mo_cnt_at (p := p) (q := q) (i := i) (n := n) (fun j hj => h j (by omega))
    rw [mo_cnt_s, mo_cnt_s, h1]
    by_cases c : i = n
    · subst c
      rw [if_neg (Nat.lt_irrefl _), if_pos (Nat.lt_succ_self _)]
      omega
    · rw [h n (by omega) (fun e => c e.symm)]
      by_cases c2 : i < n
      · rw [if_pos c2, if_pos (show i < n + 1 by omega)]
        omega
      · rw [if_neg c2, if_neg (show ¬ i < n + 1 by omega)]
        omega
/-- the place, where the one at p has gone -/
def mo_sh (p k : Nat) : Nat := if k < p then k else k + 1
theorem mo_sh_lt {p k : Nat} (h : k < p) : mo_sh p k = k := by unfold mo_sh; rw [if_pos h]
theorem mo_sh_ge {p k : Nat} (h : p ≤ k) : mo_sh p k = k + 1 := by unfold mo_sh; rw [if_neg (by omega)]
theorem mo_sh_b (p k : Nat) : (mo_sh p k = k ∧ k < p) ∨ (mo_sh p k = k + 1 ∧ p ≤ k) := by
  by_cases h : k < p
  · exact Or.inl ⟨mo_sh_lt h, h⟩
  · exact Or.inr ⟨mo_sh_ge (by omega), by omega⟩
theorem mo_cnt_sh (q : Nat → Bool) (p : Nat) : ∀ n, p ≤ n → mo_cnt (fun k => q (mo_sh p k)) n = mo_cnt q (n + 1) - (if q p = true then 1 else 0)
  | 0, h => by
    obtain rfl : p = 0 := by omega
    rw [mo_cnt_s]
    simp [mo_cnt]
  | n + 1, h => by
    by_cases c : p = n + 1
    · subst c
      have e : mo_cnt (fun k => q (mo_sh (n + 1) k)) (n + 1) = mo_cnt q (n + 1) := mo_cnt_congr fun j hj => by
        show q (mo_sh (n + 1) j) = q j
        rw [mo_sh_lt hj]
      rw [mo_cnt_s q (n + 1), e]
      omega
    · have h1 := mo_cnt_sh q p n (by omega)
      have e : mo_cnt (fun k => q (mo_sh p k)) (n + 1) = mo_cnt (fun k => q (mo_sh p k)) n + (if q (mo_sh p n) = true then 1 else 0) := rfl
      rw [e, h1, mo_cnt_s q (n + 1), mo_sh_ge (show p ≤ n by omega)]
      omega
/-- the same as a number of places -/
def mo_cn (p : Nat → Bool) : Nat → Nat
  | 0 => 0
  | n + 1 => mo_cn p n + (if p n = true then 1 else 0)
theorem mo_cn_le (p : Nat → Bool) : ∀ n, mo_cn p n ≤ n
  | 0 => Nat.le_refl _
  | n + 1 => by
    have h := mo_cn_le p n
    rw [mo_cn]
    split <;> omega
theorem mo_cn_mono (p : Nat → Bool) {i n : Nat} (h : i ≤ n) : mo_cn p i ≤ mo_cn p n := by
  induction n with
  | zero =>
    obtain rfl : i = 0 := by omega
    exact Nat.le_refl _
  | succ n ih =>
    by_cases c : i = n + 1
    · rw [c]; exact Nat.le_refl _
    · have h1 := ih (by omega)
      rw [mo_cn]
      omega
theorem mo_cn_lt (p : Nat → Bool) {i n : Nat} (h : i < n) (hp : p i = true) : mo_cn p i < mo_cn p n := by
  have h1 := mo_cn_mono p (show i + 1 ≤ n from h)
  rw [mo_cn, if_pos hp] at h1
  omega
theorem mo_cn_congr {p q : Nat → Bool} : ∀ {n : Nat}, (∀ j, j < n → p j = q j) → mo_cn p n = mo_cn q n
  | 0, _ => rfl
  | n + 1, h => by rw [mo_cn, mo_cn, mo_cn_congr (fun j hj => h j (by omega)), h n (by omega)]
theorem mo_cn_sur (p : Nat → Bool) : ∀ {n q : Nat}, q < mo_cn p n → ∃ i, i < n ∧ p i = true ∧ mo_cn p i = q
  | 0, q, h => absurd h (Nat.not_lt_zero _)
  | n + 1, q, h => by
    rw [mo_cn] at h
    by_cases c : q < mo_cn p n
    · obtain ⟨i, h1, h2, h3⟩ := mo_cn_sur p c
      exact ⟨i, by omega, h2, h3⟩
    · by_cases d : p n = true
      · rw [if_pos d] at h
        exact ⟨n, by omega, d, by omega⟩
      · rw [if_neg d] at h
        omega
theorem mo_cn_ne (u : Nat) : ∀ n, (n ≤ u → mo_cn (fun k => decide (k ≠ u)) n = n) ∧ (u < n → mo_cn (fun k => decide (k ≠ u)) n + 1 = n)
  | 0 => ⟨fun _ => rfl, fun h => absurd h (Nat.not_lt_zero _)⟩
  | n + 1 => by
    obtain ⟨h1, h2⟩ := mo_cn_ne u n
    rw [mo_cn]
    refine ⟨fun h => ?_, fun h => ?_⟩
    · rw [h1 (by omega), if_pos (by simp; omega)]
    · by_cases c : n = u
      · rw [if_neg (by simp; exact c), h1 (by omega)]
      · rw [if_pos (by simpa using c)]
        have := h2 (by omega)
        omega
theorem mo_hb_0 {k : Nat} (hk : k < 32) : mo_hb 0 k = false := by
  rw [mo_hb_bit 0 hk]
  show (Int32.ofInt 0).toBitVec.getLsbD k = false
  rw [show (Int32.ofInt 0).toBitVec = 0#32 from rfl]
  simp
theorem mo_hb_shl : ∀ (f i : Fin 28), mo_hb (mo_shl 1 ((f : Nat) : Int)) ((i : Nat) : Int) = decide ((f : Nat) = (i : Nat)) := by decide +kernel
theorem mo_hb_msk {p : Nat → Bool} {f : Nat → Int} {i : Nat} (hi : i < 28) : ∀ {n : Nat}, (∀ k, k < n → 0 ≤ f k ∧ f k ≤ 27) → (mo_hb (mo_msk p (fun k => mo_shl 1 (f k)) n) i = true ↔ ∃ k, k < n ∧ p k = true ∧ f k = i)
  | 0, _ => by
    show mo_hb 0 i = true ↔ _
    rw [mo_hb_0 (by omega)]
    constructor
    · intro h; cases h
    · rintro ⟨k, hk, -⟩; exact absurd hk (Nat.not_lt_zero _)
  | n + 1, h => by
    have ih := mo_hb_msk (p := p) (f := f) hi (n := n) (fun k hk => h k (by omega))
    rw [mo_msk]
    by_cases c : p n = true
    · rw [if_pos c, mo_hb_or _ _ (by omega), Bool.or_eq_true, ih]
      have hf := h n (by omega)
      have h2 : mo_hb (mo_shl 1 (f n)) i = true ↔ f n = i := by
        have h3 := mo_hb_shl ⟨(f n).toNat, by omega⟩ ⟨i, hi⟩
        simp only at h3
        rw [show (((f n).toNat : Nat) : Int) = f n by omega] at h3
        rw [h3, decide_eq_true_eq]
        omega
      rw [h2]
      constructor
      · rintro (⟨k, h3, h4, h5⟩ | h3)
        · exact ⟨k, by omega, h4, h5⟩
        · exact ⟨n, by omega, c, h3⟩
      · rintro ⟨k, h3, h4, h5⟩
        by_cases e : k = n
        · subst e; exact Or.inr h5
        · exact Or.inl ⟨k, by omega, h4, h5⟩
    · rw [if_neg c, ih]
      constructor
      · rintro ⟨k, h3, h4, h5⟩; exact ⟨k, by omega, h4, h5⟩
      · rintro ⟨k, h3, h4, h5⟩
        by_cases e : k = n
        · subst e; exact absurd h4 c
        · exact ⟨k, by omega, h4, h5⟩
