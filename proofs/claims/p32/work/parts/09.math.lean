/-! THE MEANING: what the numbers of a calendar say (the row "all" of the reference is the state) -/
def mo_cnt (p : Nat → Bool) : Nat → Int
  | 0 => 0
  | n + 1 => mo_cnt p n + (if p n = true then 1 else 0)
/-- the first place below n that p names; -1 if none -/
def mo_ff (p : Nat → Bool) : Nat → Int
  | 0 => -1
  | n + 1 => if mo_ff p n = -1 then (if p n = true then (n : Int) else -1) else mo_ff p n
theorem mo_ff_none {p : Nat → Bool} : ∀ {n : Nat}, (∀ j, j < n → p j = false) → mo_ff p n = -1
  | 0, _ => rfl
  | n + 1, h => by
    have h1 := mo_ff_none (p := p) (n := n) (fun j hj => h j (by omega))
    simp [mo_ff, h1, h n (by omega)]
theorem mo_ff_at {p : Nat → Bool} : ∀ {n i : Nat}, i < n → (∀ j, j < i → p j = false) → p i = true → mo_ff p n = (i : Int)
  | 0, i, hi, _, _ => absurd hi (by omega)
  | n + 1, i, hi, h, hp => by
    by_cases hin : i = n
    · subst hin
      have h1 := mo_ff_none (p := p) (n := i) h
      simp [mo_ff, h1, hp]
    · have h1 := mo_ff_at (p := p) (n := n) (i := i) (by omega) h hp
      simp only [mo_ff, h1]
      rw [if_neg (by omega)]
theorem mo_ff_cases (p : Nat → Bool) : ∀ n, (mo_ff p n = -1 ∧ ∀ j, j < n → p j = false) ∨ ∃ i : Nat, i < n ∧ mo_ff p n = (i : Int) ∧ p i = true ∧ ∀ j, j < i → p j = false
  | 0 => Or.inl ⟨rfl, fun j hj => absurd hj (by omega)⟩
  | n + 1 => by
    rcases mo_ff_cases p n with ⟨h1, h2⟩ | ⟨i, h1, h2, h3, h4⟩
    · cases hp : p n with
      | true => exact Or.inr ⟨n, by omega, mo_ff_at (by omega) h2 hp, hp, h2⟩
      | false =>
        refine Or.inl ⟨mo_ff_none ?_, ?_⟩ <;>
        · intro j hj
          by_cases hjn : j = n
          · rw [hjn]; exact hp
          · exact h2 j (by omega)
    · exact Or.inr ⟨i, by omega, mo_ff_at (by omega) h4 h3, h3, h4⟩
theorem mo_ff_congr {p q : Nat → Bool} {n : Nat} (h : ∀ j, j < n → p j = q j) : mo_ff p n = mo_ff q n := by
  rcases mo_ff_cases p n with ⟨h1, h2⟩ | ⟨i, h1, h2, h3, h4⟩
  · rw [h1, mo_ff_none (fun j hj => by rw [← h j hj]; exact h2 j hj)]
  · rw [h2, mo_ff_at h1 (fun j hj => by rw [← h j (by omega)]; exact h4 j hj) (by rw [← h i h1]; exact h3)]
theorem mo_cnt_congr {p q : Nat → Bool} : ∀ {n : Nat}, (∀ j, j < n → p j = q j) → mo_cnt p n = mo_cnt q n
  | 0, _ => rfl
  | n + 1, h => by rw [mo_cnt, mo_cnt, mo_cnt_congr (fun j hj => h j (by omega)), h n (by omega)]
theorem mo_cnt_le (p : Nat → Bool) : ∀ n, 0 ≤ mo_cnt p n ∧ mo_cnt p n ≤ n
  | 0 => by simp [mo_cnt]
  | n + 1 => by
    have h := mo_cnt_le p n
    rw [mo_cnt]
    split <;> omega
theorem mo_sum_congr {f g : Nat → Int} : ∀ {n : Nat}, (∀ j, j < n → f j = g j) → mo_sum f n = mo_sum g n
  | 0, _ => rfl
  | n + 1, h => by rw [mo_sum, mo_sum, mo_sum_congr (fun j hj => h j (by omega)), h n (by omega)]
theorem mo_sum_le {f : Nat → Int} {c : Int} : ∀ {n : Nat}, (∀ j, j < n → 0 ≤ f j ∧ f j ≤ c) → 0 ≤ mo_sum f n ∧ mo_sum f n ≤ n * c
  | 0, _ => by simp [mo_sum]
  | n + 1, h => by
    have h1 := mo_sum_le (f := f) (c := c) (n := n) (fun j hj => h j (by omega))
    have h2 := h n (by omega)
    rw [mo_sum]
    have h3 : ((n + 1 : Nat) : Int) * c = n * c + c := by
      rw [show ((n + 1 : Nat) : Int) = (n : Int) + 1 from rfl, Int.add_mul, Int.one_mul]
    omega
theorem mo_sum_up (f : Nat → Int) (i : Nat) (v : Int) : ∀ n, mo_sum (va_up f i v) n = mo_sum f n + (if i < n then v - f i else 0)
  | 0 => by simp [mo_sum]
  | n + 1 => by
    rw [mo_sum, mo_sum, mo_sum_up f i v n]
    by_cases h : n = i
    · subst h
      rw [mo_up_s, if_neg (by omega), if_pos (by omega)]
      omega
    · rw [mo_up_n h]
      by_cases h2 : i < n
      · rw [if_pos h2, if_pos (by omega)]
        omega
      · rw [if_neg h2, if_neg (by omega)]
        omega
/-- a set of bits gathered -/
def mo_msk (p : Nat → Bool) (b : Nat → Int) : Nat → Int
  | 0 => 0
  | n + 1 => if p n = true then mo_or (mo_msk p b n) (b n) else mo_msk p b n
theorem mo_msk_congr {p q : Nat → Bool} {b c : Nat → Int} : ∀ {n : Nat}, (∀ j, j < n → p j = q j ∧ b j = c j) → mo_msk p b n = mo_msk q c n
  | 0, _ => rfl
  | n + 1, h => by rw [mo_msk, mo_msk, mo_msk_congr (fun j hj => h j (by omega)), (h n (by omega)).1, (h n (by omega)).2]
def mo_hb (s k : Int) : Bool := decide (mo_and (mo_shr s k) 1 = 1)
def mo_fld (g : Nat → Int) (k j : Nat) : Int := g (215 + 7 * k + j)
def mo_nk (g : Nat → Int) : Nat := (g 7).toNat
def mo_hsum (g : Nat → Int) (o n : Nat) : Int := mo_sum (fun i => g (8 + 20 * o + i)) n
def mo_plb (g : Nat → Int) (o : Nat) (w : Int) (k : Nat) : Bool := decide (mo_fld g k 1 = (o : Int) ∧ mo_fld g k 6 = 0 ∧ mo_fld g k 2 ≤ w)
def mo_ow (g : Nat → Int) (o w : Nat) : Int := if -g (176 + o) + mo_hsum g o (w + 1) - mo_cnt (mo_plb g o w) (mo_nk g) < 0 then 0 else -g (176 + o) + mo_hsum g o (w + 1) - mo_cnt (mo_plb g o w) (mo_nk g)
def mo_owa (g : Nat → Int) (w : Nat) : Int := mo_sum (fun o => mo_ow g o w) (g 4).toNat
/-- what a meeting's numbers may be -/
def mo_Mt (g : Nat → Int) (k : Nat) (B : Int) : Prop := (0 ≤ mo_fld g k 0 ∧ mo_fld g k 0 ≤ B) ∧ (0 ≤ mo_fld g k 1 ∧ mo_fld g k 1 < g 4) ∧ (0 ≤ mo_fld g k 2 ∧ mo_fld g k 2 ≤ 19) ∧ (0 ≤ mo_fld g k 3 ∧ mo_fld g k 3 ≤ 27) ∧ (0 ≤ mo_fld g k 4 ∧ mo_fld g k 4 < g 5) ∧ (0 ≤ mo_fld g k 5 ∧ mo_fld g k 5 < g 6) ∧ (0 ≤ mo_fld g k 6 ∧ mo_fld g k 6 ≤ 2)
/-- what holds of every state; B: how far the counters may have come -/
def mo_Iv (g : Nat → Int) (B : Int) : Prop := (0 ≤ g 0 ∧ g 0 ≤ 19) ∧ (0 ≤ g 1 ∧ g 1 ≤ B) ∧ (0 ≤ g 2 ∧ g 2 ≤ B) ∧ (0 ≤ g 3 ∧ g 3 ≤ B) ∧ (0 ≤ g 4 ∧ g 4 ≤ 8) ∧ (0 ≤ g 5 ∧ g 5 ≤ 6) ∧ (0 ≤ g 6 ∧ g 6 ≤ 5) ∧ (0 ≤ g 7 ∧ g 7 ≤ 60) ∧ (∀ j, j < 160 → 0 ≤ g (8 + j) ∧ g (8 + j) ≤ 7) ∧ (∀ j, j < 8 → 0 ≤ g (168 + j) ∧ g (168 + j) < 32) ∧ (∀ j, j < 8 → 0 ≤ g (176 + j) ∧ g (176 + j) ≤ B) ∧ (∀ j, j < 8 → 0 ≤ g (184 + j) ∧ g (184 + j) ≤ B) ∧ (∀ j, j < 6 → 0 ≤ g (192 + j) ∧ g (192 + j) < 268435456) ∧ (∀ j, j < 6 → 0 ≤ g (198 + j) ∧ g (198 + j) ≤ 20) ∧ (∀ j, j < 6 → 0 ≤ g (204 + j) ∧ g (204 + j) ≤ B) ∧ (∀ j, j < 5 → 0 ≤ g (210 + j) ∧ g (210 + j) ≤ 4) ∧ (∀ k : Nat, (k : Int) < g 7 → mo_Mt g k B) ∧ mo_sum (fun j => g (176 + j)) 8 = g 2 ∧ mo_sum (fun j => g (184 + j)) 8 = g 3 ∧ (∀ o w : Nat, g 4 ≤ (o : Int) → o < 8 → w < 20 → g (8 + 20 * o + w) = 0)
/-- the week's meetings that are not missed -/
def mo_std (g : Nat → Int) (w : Int) (k : Nat) : Bool := decide (mo_fld g k 2 = w ∧ mo_fld g k 6 ≠ 2)
def mo_tkn (g : Nat → Int) (w : Int) (n : Nat) (j : Nat) : Int := mo_cnt (fun k => mo_std g w k && decide (28 * mo_fld g k 5 + mo_fld g k 3 = (j : Int))) n
def mo_fre (g : Nat → Int) (w : Int) (n : Nat) (j : Nat) : Int := g (210 + j / 28) - mo_tkn g w n j
def mo_mny (g : Nat → Int) (w : Int) (n : Nat) (e : Nat) : Int := mo_cnt (fun k => mo_std g w k && decide (mo_fld g k 4 = (e : Int))) n
def mo_bsy (g : Nat → Int) (w : Int) (n : Nat) (e : Nat) : Int := mo_msk (fun k => mo_std g w k && decide (mo_fld g k 4 = (e : Int))) (fun k => mo_shl 1 (mo_fld g k 3)) n
def mo_dys (g : Nat → Int) (w : Int) (n : Nat) (o : Nat) : Int := mo_msk (fun k => mo_std g w k && decide (mo_fld g k 1 = (o : Int))) (fun k => mo_shl 1 (mo_fld g k 3 / 4)) n
