/-! a week ends -/
theorem mo_Iv_n {g : Nat → Int} {B : Int} (hI : mo_Iv g B) : ((mo_nk g : Nat) : Int) = g 7 := by
  have := hI.2.2.2.2.2.2.2.1
  unfold mo_nk; omega
theorem mo_Iv_m {g : Nat → Int} {B : Int} (hI : mo_Iv g B) {k : Nat} (hk : k < mo_nk g) : mo_Mt g k B := hI.2.2.2.2.2.2.2.2.2.2.2.2.2.2.2.2.1 k (by have := mo_Iv_n hI; omega)
theorem mo_mw_J {g : Nat → Int} {B : Int} (hI : mo_Iv g B) (hJ : mo_Ja g) : ∀ k, k ≤ mo_nk g → mo_Ja (mo_mw g k).2 ∧ (mo_mw g k).2 1 = g 1 ∧ (mo_mw g k).2 3 = g 3 + (mo_mw g k).1 ∧ ∀ i j, j < 7 → mo_fld (mo_mw g k).2 i j = if j = 6 ∧ i < k ∧ mo_op g i = true then 2 else mo_fld g i j := by
  intro k
  induction k with
  | zero => exact fun _ => ⟨hJ, rfl, (Int.add_zero _).symm, fun i j _ => by rw [if_neg (by omega)]; rfl⟩
  | succ k ih =>
    intro hk
    obtain ⟨h1, h2, h3, h4⟩ := ih (by omega)
    obtain ⟨b1, b2, b3, b4, b5⟩ := mo_mw_b hI k (by omega)
    have hn := mo_Iv_n hI
    have hnk : mo_nk (mo_mw g k).2 = mo_nk g := by
      show ((mo_mw g k).2 7).toNat = _
      rw [b2]; rfl
    have hop : mo_op (mo_mw g k).2 k = mo_op g k := by
      unfold mo_op
      rw [h4 k 2 (by omega), h4 k 6 (by omega), b3, if_neg (by omega), if_neg (by omega)]
    rw [mo_mw]
    split
    · rename_i c
      have c0 := c
      rw [hop] at c
      have c6 : mo_fld (mo_mw g k).2 k 6 = 0 := by
        unfold mo_op at c0
        rw [decide_eq_true_eq] at c0
        exact c0.2
      have hmt := mo_Iv_m b1 (k := k) (by omega)
      have c4 := h1.1.1
      refine ⟨mo_Ja_ms b1 (by omega) c6 h1, ?_, ?_, fun i j hj => ?_⟩
      · show mo_ms _ _ 1 = _
        unfold mo_Mt at hmt
        rw [mo_ms_lo ⟨by omega, by omega, by omega⟩, h2]
      · show mo_ms _ _ 3 = _
        rw [mo_ms_3, h3]
        simp only
        omega
      · show mo_fld (mo_ms _ _) i j = _
        rw [mo_ms_f hmt (by omega), h4 i j hj]
        by_cases d : 215 + 7 * i + j = 215 + 7 * k + 6
        · rw [if_pos d]
          obtain rfl : i = k := by omega
          rw [if_pos ⟨by omega, by omega, c⟩]
        · rw [if_neg d]
          by_cases e : j = 6 ∧ i < k ∧ mo_op g i = true
          · rw [if_pos e, if_pos ⟨e.1, by omega, e.2.2⟩]
          · rw [if_neg e, if_neg]
            intro q
            by_cases f : i = k
            · subst f; omega
            · exact e ⟨q.1, by omega, q.2.2⟩
    · rename_i c
      rw [hop] at c
      refine ⟨h1, h2, h3, fun i j hj => ?_⟩
      rw [h4 i j hj]
      by_cases e : j = 6 ∧ i < k ∧ mo_op g i = true
      · rw [if_pos e, if_pos ⟨e.1, by omega, e.2.2⟩]
      · rw [if_neg e, if_neg]
        intro q
        by_cases f : i = k
        · subst f; exact c q.2.2
        · exact e ⟨q.1, by omega, q.2.2⟩
/-- what is kept -/
def mo_kx (h : Nat → Int) (i : Nat) : Bool := decide (h 0 - 4 ≤ mo_fld h i 2)
theorem mo_gn_J : ∀ (k : Nat) {h : Nat → Int} {B : Int}, mo_Iv h B → mo_Ja h → k ≤ mo_nk h → mo_Ja (mo_gn h k) ∧ mo_nk (mo_gn h k) + k = mo_nk h + mo_cn (mo_kx h) k ∧ (∀ i j, i < k → j < 7 → mo_kx h i = true → mo_fld (mo_gn h k) (mo_cn (mo_kx h) i) j = mo_fld h i j) ∧ (∀ i j, k ≤ i → i < mo_nk h → j < 7 → mo_fld (mo_gn h k) (i + mo_cn (mo_kx h) k - k) j = mo_fld h i j) ∧ ∀ j, j < 215 → j ≠ 7 → mo_gn h k j = h j
  | 0, h, B, hI, hJ, _ => ⟨hJ, rfl, fun i j hi => absurd hi (Nat.not_lt_zero _), fun i j _ _ _ => rfl, fun _ _ _ => rfl⟩
  | k + 1, h, B, hI, hJ, hk => by
    have hn := mo_Iv_n hI
    rw [mo_gn]
    split
    · rename_i c
      have hkp : mo_kx h k = false := by
        unfold mo_kx
        rw [decide_eq_false_iff_not]
        omega
      have n2 : mo_nk (mo_to h k) = mo_nk h - 1 := mo_to_k _ _ (by omega)
      have z2 : mo_to h k 0 = h 0 := mo_to_lo (by omega) (by omega)
      have F : ∀ i j, i + 1 < mo_nk h → j < 7 → mo_fld (mo_to h k) i j = if i < k then mo_fld h i j else mo_fld h (i + 1) j := fun i j hi hj => mo_to_f hj hi
      have K : ∀ i, i < k → mo_kx (mo_to h k) i = mo_kx h i := fun i hi => by
        unfold mo_kx
        rw [F i 2 (by omega) (by omega), if_pos hi, z2]
      obtain ⟨a1, a2, a3, a4, a5⟩ := mo_gn_J k (mo_Iv_to hI (p := k) (by omega)) (mo_Ja_to hI (p := k) (by omega) hJ) (by omega)
      have e1 : mo_cn (mo_kx (mo_to h k)) k = mo_cn (mo_kx h) k := mo_cn_congr K
      have e2 : mo_cn (mo_kx h) (k + 1) = mo_cn (mo_kx h) k := by
        rw [mo_cn, hkp]
        rfl
      rw [e1] at a2 a4
      rw [e2]
      refine ⟨a1, by omega, fun i j hi hj hp => ?_, fun i j hi hi2 hj => ?_, fun j h1 h2 => by rw [a5 j h1 h2, mo_to_lo h2 h1]⟩
      · by_cases d : i = k
        · subst d
          rw [hkp] at hp
          cases hp
        · have h9 := a3 i j (by omega) hj (by rw [K i (by omega)]; exact hp)
          rw [mo_cn_congr (q := mo_kx h) (fun q hq => K q (by omega)), F i j (by omega) hj, if_pos (by omega)] at h9
          exact h9
      · have h9 := a4 (i - 1) j (by omega) (by omega) hj
        rw [F (i - 1) j (by omega) hj, if_neg (by omega), show i - 1 + 1 = i by omega] at h9
        rw [show i + mo_cn (mo_kx h) k - (k + 1) = i - 1 + mo_cn (mo_kx h) k - k by omega]
        exact h9
    · rename_i c
      have hkp : mo_kx h k = true := by
        unfold mo_kx
        rw [decide_eq_true_eq]
        omega
      obtain ⟨a1, a2, a3, a4, a5⟩ := mo_gn_J k hI hJ (by omega)
      have e2 : mo_cn (mo_kx h) (k + 1) = mo_cn (mo_kx h) k + 1 := by
        rw [mo_cn, hkp]
        rfl
      rw [e2]
      refine ⟨a1, by omega, fun i j hi hj hp => ?_, fun i j hi hi2 hj => ?_, a5⟩
      · by_cases d : i = k
        · subst d
          have h9 := a4 i j (Nat.le_refl _) (by omega) hj
          rw [show i + mo_cn (mo_kx h) i - i = mo_cn (mo_kx h) i by omega] at h9
          exact h9
        · exact a3 i j (by omega) hj hp
      · have h9 := a4 i j (by omega) hi2 hj
        rw [show i + (mo_cn (mo_kx h) k + 1) - (k + 1) = i + mo_cn (mo_kx h) k - k by omega]
        exact h9
/-- which meetings the end of the week keeps -/
def mo_ke (g : Nat → Int) (i : Nat) : Bool := decide (g 0 + 1 - 4 ≤ mo_fld g i 2)
theorem mo_J_eR {g : Nat → Int} {B : Int} (hI : mo_Iv g B) (h0 : g 0 < 19) (hJ : mo_J g) : mo_J (mo_eR g) ∧ mo_eR g 0 = g 0 + 1 ∧ mo_eR g 1 = g 1 ∧ mo_eR g 3 = g 3 + mo_eN g ∧ mo_nk (mo_eR g) = mo_cn (mo_ke g) (mo_nk g) ∧ ∀ i, i < mo_nk g → mo_ke g i = true → mo_fld (mo_eR g) (mo_cn (mo_ke g) i) 0 = mo_fld g i 0 := by
  obtain ⟨ja, jw, jk⟩ := hJ
  have hn := mo_Iv_n hI
  obtain ⟨a1, a2, a3, a4⟩ := mo_mw_J hI ja (mo_nk g) (Nat.le_refl _)
  obtain ⟨b1, b2, b3, b4, b5⟩ := mo_mw_b hI (mo_nk g) (Nat.le_refl _)
  obtain ⟨h, hh⟩ : ∃ h, h = mo_nw (mo_mw g (mo_nk g)).2 := ⟨_, rfl⟩
  have hE : mo_eR g = mo_gn h (mo_nk g) := by rw [hh]; rfl
  have lo : ∀ j, j ≠ 0 → h j = (mo_mw g (mo_nk g)).2 j := fun j hj => by rw [hh]; exact mo_up_n hj
  have hz : h 0 = g 0 + 1 := by
    rw [hh]
    unfold mo_nw
    rw [mo_up_s, b3]
  have hnk : mo_nk h = mo_nk g := by
    unfold mo_nk
    rw [lo 7 (by omega), b2]
  have F : ∀ i j, j < 7 → mo_fld h i j = if j = 6 ∧ i < mo_nk g ∧ mo_op g i = true then 2 else mo_fld g i j := fun i j hj => by
    rw [← a4 i j hj]
    unfold mo_fld
    exact lo _ (by omega)
  have hI2 : mo_Iv h (B + (mo_nk g : Nat)) := by
    rw [hh]
    exact mo_Iv_nw b1 (by omega)
  have ja2 : mo_Ja h := mo_Ja_cg (fun j hj => lo j (by omega)) a1
  have K : ∀ i, mo_kx h i = mo_ke g i := fun i => by
    unfold mo_kx mo_ke
    rw [hz, F i 2 (by omega), if_neg (by omega)]
  obtain ⟨c1, c2, c3, -, c5⟩ := mo_gn_J (mo_nk g) hI2 ja2 (by omega)
  rw [← hE] at c1 c2 c3 c5
  have ec : ∀ n, mo_cn (mo_kx h) n = mo_cn (mo_ke g) n := fun n => mo_cn_congr fun i _ => K i
  have hN : mo_nk (mo_eR g) = mo_cn (mo_ke g) (mo_nk g) := by
    rw [← ec]
    omega
  have G : ∀ i j, i < mo_nk g → j < 7 → mo_ke g i = true → mo_fld (mo_eR g) (mo_cn (mo_ke g) i) j = mo_fld h i j := fun i j hi hj hp => by
    rw [← ec]
    exact c3 i j hi hj (by rw [K]; exact hp)
  have e0 : mo_eR g 0 = g 0 + 1 := by rw [c5 0 (by omega) (by omega), hz]
  refine ⟨⟨c1, fun q hq => ?_, fun q hq => ?_⟩, e0, by rw [c5 1 (by omega) (by omega), lo 1 (by omega), a2], by rw [c5 3 (by omega) (by omega), lo 3 (by omega), a3]; rfl, hN, fun i hi hp => by rw [G i 0 hi (by omega) hp, F i 0 (by omega), if_neg (by omega)]⟩
  · rw [hN] at hq
    obtain ⟨i, hi, hp, rfl⟩ := mo_cn_sur _ hq
    rw [G i 6 hi (by omega) hp, G i 2 hi (by omega) hp, F i 2 (by omega), if_neg (by omega), F i 6 (by omega), e0]
    have h9 := jw i hi
    by_cases c : mo_op g i = true
    · rw [if_pos ⟨rfl, hi, c⟩]
      unfold mo_op at c
      rw [decide_eq_true_eq] at c
      exact ⟨fun q => absurd q (by omega), fun _ => by omega⟩
    · rw [if_neg (fun q => c q.2.2)]
      unfold mo_op at c
      rw [decide_eq_true_eq] at c
      refine ⟨fun q => ?_, fun q => ?_⟩
      · have := h9.1 q
        have : mo_fld g i 2 ≠ g 0 := fun r => c ⟨r, q⟩
        omega
      · have := h9.2 q
        omega
  · rw [hN] at hq
    obtain ⟨i, hi, hp, rfl⟩ := mo_cn_sur _ hq
    rw [G i 2 hi (by omega) hp, F i 2 (by omega), if_neg (by omega), e0]
    unfold mo_ke at hp
    rw [decide_eq_true_eq] at hp
    omega
/-- the place of a number -/
theorem mo_pl_k {g : Nat → Int} (hJ : mo_Ja g) {k : Nat} (hk : k < mo_nk g) : mo_ff (fun q => decide (mo_fld g q 0 = mo_fld g k 0)) (mo_nk g) = (k : Int) := by
  refine mo_ff_at hk (fun j hj => ?_) (by simp)
  have h9 := hJ.2.2.1 j k hj hk
  simp only [decide_eq_false_iff_not]
  omega
