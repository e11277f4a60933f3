/-! held, missed, taken out -/
theorem mo_hd_176 {g : Nat → Int} {p i : Nat} (hi : i < 8) : mo_hd g p (176 + i) = g (176 + i) + (if (mo_fld g p 1).toNat = i then 1 else 0) := by
  unfold mo_hd
  rw [if_neg (by omega)]
  by_cases c : (mo_fld g p 1).toNat = i
  · rw [if_pos (by omega), if_pos c]
  · rw [if_neg (by omega), if_neg (by omega), if_neg (by omega), if_neg c]; omega
theorem mo_hd_204 {g : Nat → Int} {p i : Nat} (h1 : (mo_fld g p 1).toNat < 8) (hi : i < 6) : mo_hd g p (204 + i) = g (204 + i) + (if (mo_fld g p 4).toNat = i then 1 else 0) := by
  unfold mo_hd
  by_cases c : (mo_fld g p 4).toNat = i
  · rw [if_pos (by omega), if_pos c]
  · rw [if_neg (by omega), if_neg (by omega), if_neg (by omega), if_neg (by omega), if_neg c]; omega
theorem mo_hd_2 (g : Nat → Int) (p : Nat) : mo_hd g p 2 = g 2 + 1 := by
  unfold mo_hd
  rw [if_neg (by omega), if_neg (by omega), if_pos rfl]
theorem mo_ms_184 {g : Nat → Int} {p i : Nat} (hi : i < 8) : mo_ms g p (184 + i) = g (184 + i) + (if (mo_fld g p 1).toNat = i then 1 else 0) := by
  unfold mo_ms
  by_cases c : (mo_fld g p 1).toNat = i
  · rw [if_pos (by omega), if_pos c]
  · rw [if_neg (by omega), if_neg (by omega), if_neg (by omega), if_neg c]; omega
theorem mo_ms_3 (g : Nat → Int) (p : Nat) : mo_ms g p 3 = g 3 + 1 := by
  unfold mo_ms
  rw [if_neg (by omega), if_pos rfl]
/-- the six numbers of a meeting but its state stay -/
theorem mo_Ja_st {g g' : Nat → Int} {p : Nat} {z : Int} (hp : p < mo_nk g) (h0 : mo_fld g p 6 = 0) (hz : z = 1 ∨ z = 2) (hJ : mo_Ja g) (h7 : g' 7 = g 7) (h1 : g' 1 = g 1) (h4 : g' 4 = g 4) (h5 : g' 5 = g 5) (h6 : g' 6 = g 6) (hl : ∀ e, e < 2 → g' (198 + e) = g (198 + e)) (F : ∀ k j, mo_fld g' k j = if 215 + 7 * k + j = 215 + 7 * p + 6 then z else mo_fld g k j) (hs : g' 176 + g' 177 + g' 178 = g' 2 ∧ g' 204 + g' 205 = g' 2 ∧ g' 184 + g' 185 + g' 186 = g' 3) (hc : g' 2 = g 2 + (if z = 1 then 1 else 0)) : mo_Ja g' := by
  obtain ⟨⟨c4, c5, c6⟩, j2, j3, j4, -, j6, j7⟩ := hJ
  have hn : mo_nk g' = mo_nk g := by unfold mo_nk; rw [h7]
  have F0 : ∀ k j, j < 6 → mo_fld g' k j = mo_fld g k j := fun k j hj => by rw [F, if_neg (by omega)]
  have F6 : ∀ k, k ≠ p → mo_fld g' k 6 = mo_fld g k 6 := fun k hk => by rw [F, if_neg (by omega)]
  have Fp : mo_fld g' p 6 = z := by rw [F, if_pos rfl]
  have N2 : ∀ k, mo_fld g' k 6 ≠ 2 → mo_fld g k 6 ≠ 2 := fun k h => by
    by_cases c : k = p
    · rw [c, h0]; omega
    · rw [← F6 k c]; exact h
  refine ⟨⟨by rw [h4]; exact c4, by rw [h5]; exact c5, by rw [h6]; exact c6⟩, fun k hk => ?_, fun j k hjk hk => ?_, fun j k hjk hk q1 q2 q3 => ?_, hs, fun w e he => ?_, ?_⟩
  · rw [F0 k 0 (by omega), h1]; exact j2 k (by omega)
  · rw [F0 k 0 (by omega), F0 j 0 (by omega)]; exact j3 j k hjk (by omega)
  · rw [F0 j 2 (by omega), F0 k 2 (by omega)] at q3
    rw [F0 j 3 (by omega), F0 k 3 (by omega), F0 j 4 (by omega), F0 k 4 (by omega), F0 j 1 (by omega), F0 k 1 (by omega)]
    exact j4 j k hjk (by omega) (N2 j q1) (N2 k q2) q3
  · rw [hn, hl e he]
    refine Int.le_trans (mo_cnt_im fun k hk hq => ?_) (j6 w e he)
    simp only [Bool.and_eq_true, decide_eq_true_eq] at hq ⊢
    rw [mo_std_i] at hq ⊢
    rw [F0 k 2 (by omega), F0 k 4 (by omega)] at hq
    exact ⟨⟨hq.1.1, N2 k hq.1.2⟩, hq.2⟩
  · have e := mo_cnt_at (p := fun k => decide (mo_fld g k 6 = 1)) (q := fun k => decide (mo_fld g' k 6 = 1)) (i := p) (n := mo_nk g) (fun j _ hj => by rw [F6 j hj])
    rw [hn, e, if_pos hp, hc]
    simp only [Fp, h0]
    rcases hz with rfl | rfl
    · simp; exact j7
    · simp; exact j7
theorem mo_Ja_hd {g : Nat → Int} {B : Int} {p : Nat} (hI : mo_Iv g B) (hp : p < mo_nk g) (h0 : mo_fld g p 6 = 0) (hJ : mo_Ja g) : mo_Ja (mo_hd g p) := by
  obtain ⟨⟨c4, c5, c6⟩, -, -, -, ⟨k1, k2, k3⟩, -, -⟩ := id hJ
  have hn : ((mo_nk g : Nat) : Int) = g 7 := by
    have := hI.2.2.2.2.2.2.2.1
    unfold mo_nk; omega
  have hmt := hI.2.2.2.2.2.2.2.2.2.2.2.2.2.2.2.2.1 p (by omega)
  have F : ∀ k j, mo_fld (mo_hd g p) k j = if 215 + 7 * k + j = 215 + 7 * p + 6 then 1 else mo_fld g k j := fun k j => mo_hd_f hmt (by omega) (by omega)
  unfold mo_Mt at hmt
  have lo : ∀ j, j < 176 → j ≠ 2 → mo_hd g p j = g j := fun j h1 h2 => mo_hd_lo ⟨by omega, by omega, h2, by omega⟩
  have lo2 : ∀ j, 184 ≤ j → j < 204 → mo_hd g p j = g j := fun j h1 h2 => mo_hd_lo ⟨by omega, by omega, by omega, by omega⟩
  have a0 : mo_hd g p 176 = _ := mo_hd_176 (i := 0) (by omega)
  have a1 : mo_hd g p 177 = _ := mo_hd_176 (i := 1) (by omega)
  have a2 : mo_hd g p 178 = _ := mo_hd_176 (i := 2) (by omega)
  have b0 : mo_hd g p 204 = _ := mo_hd_204 (i := 0) (by omega) (by omega)
  have b1 : mo_hd g p 205 = _ := mo_hd_204 (i := 1) (by omega) (by omega)
  have hw : (mo_fld g p 1).toNat = 0 ∨ (mo_fld g p 1).toNat = 1 ∨ (mo_fld g p 1).toNat = 2 := by omega
  have he : (mo_fld g p 4).toNat = 0 ∨ (mo_fld g p 4).toNat = 1 := by omega
  refine mo_Ja_st (z := 1) hp h0 (Or.inl rfl) hJ (lo 7 (by omega) (by omega)) (lo 1 (by omega) (by omega)) (lo 4 (by omega) (by omega)) (lo 5 (by omega) (by omega)) (lo 6 (by omega) (by omega)) (fun e h => lo2 _ (by omega) (by omega)) F ⟨?_, ?_, ?_⟩ (by rw [mo_hd_2]; rfl)
  · rw [a0, a1, a2, mo_hd_2, ← k1]
    rcases hw with h | h | h <;> rw [h] <;> simp <;> omega
  · rw [b0, b1, mo_hd_2, ← k2]
    rcases he with h | h <;> rw [h] <;> simp <;> omega
  · rw [lo2 184 (by omega) (by omega), lo2 185 (by omega) (by omega), lo2 186 (by omega) (by omega), lo 3 (by omega) (by omega)]; exact k3
theorem mo_Ja_ms {g : Nat → Int} {B : Int} {p : Nat} (hI : mo_Iv g B) (hp : p < mo_nk g) (h0 : mo_fld g p 6 = 0) (hJ : mo_Ja g) : mo_Ja (mo_ms g p) := by
  obtain ⟨⟨c4, c5, c6⟩, -, -, -, ⟨k1, k2, k3⟩, -, -⟩ := id hJ
  have hn : ((mo_nk g : Nat) : Int) = g 7 := by
    have := hI.2.2.2.2.2.2.2.1
    unfold mo_nk; omega
  have hmt := hI.2.2.2.2.2.2.2.2.2.2.2.2.2.2.2.2.1 p (by omega)
  have F : ∀ k j, mo_fld (mo_ms g p) k j = if 215 + 7 * k + j = 215 + 7 * p + 6 then 2 else mo_fld g k j := fun k j => mo_ms_f hmt (by omega)
  unfold mo_Mt at hmt
  have lo : ∀ j, j < 184 → j ≠ 3 → mo_ms g p j = g j := fun j h1 h2 => mo_ms_lo ⟨by omega, h2, by omega⟩
  have lo2 : ∀ j, 192 ≤ j → j < 215 → mo_ms g p j = g j := fun j h1 h2 => mo_ms_lo ⟨by omega, by omega, by omega⟩
  have a0 : mo_ms g p 184 = _ := mo_ms_184 (i := 0) (by omega)
  have a1 : mo_ms g p 185 = _ := mo_ms_184 (i := 1) (by omega)
  have a2 : mo_ms g p 186 = _ := mo_ms_184 (i := 2) (by omega)
  have hw : (mo_fld g p 1).toNat = 0 ∨ (mo_fld g p 1).toNat = 1 ∨ (mo_fld g p 1).toNat = 2 := by omega
  refine mo_Ja_st (z := 2) hp h0 (Or.inr rfl) hJ (lo 7 (by omega) (by omega)) (lo 1 (by omega) (by omega)) (lo 4 (by omega) (by omega)) (lo 5 (by omega) (by omega)) (lo 6 (by omega) (by omega)) (fun e h => lo2 _ (by omega) (by omega)) F ⟨?_, ?_, ?_⟩ (by rw [lo 2 (by omega) (by omega)]; simp)
  · rw [lo 176 (by omega) (by omega), lo 177 (by omega) (by omega), lo 178 (by omega) (by omega), lo 2 (by omega) (by omega)]; exact k1
  · rw [lo2 204 (by omega) (by omega), lo2 205 (by omega) (by omega), lo 2 (by omega) (by omega)]; exact k2
  · rw [a0, a1, a2, mo_ms_3, ← k3]
    rcases hw with h | h | h <;> rw [h] <;> simp <;> omega
/-- a told one, of the present week -/
theorem mo_J_tell {g : Nat → Int} {B : Int} {p : Nat} {v : Int} (hI : mo_Iv g B) (hp : p < mo_nk g) (h0 : mo_op g p = true) (hJ : mo_J g) : mo_J (if v = 0 then mo_ms g p else mo_hd g p) ∧ (if v = 0 then mo_ms g p else mo_hd g p) 7 = g 7 ∧ (if v = 0 then mo_ms g p else mo_hd g p) 1 = g 1 ∧ (if v = 0 then mo_ms g p else mo_hd g p) 0 = g 0 ∧ ∀ k j, mo_fld (if v = 0 then mo_ms g p else mo_hd g p) k j = if 215 + 7 * k + j = 215 + 7 * p + 6 then (if v = 0 then 2 else 1) else mo_fld g k j := by
  unfold mo_op at h0
  rw [decide_eq_true_eq] at h0
  obtain ⟨ha, hw, hk⟩ := hJ
  have hn : ((mo_nk g : Nat) : Int) = g 7 := by
    have := hI.2.2.2.2.2.2.2.1
    unfold mo_nk; omega
  have hmt := hI.2.2.2.2.2.2.2.2.2.2.2.2.2.2.2.2.1 p (by omega)
  have c4 := ha.1.1
  have c5 := ha.1.2.1
  have fin : ∀ (g' : Nat → Int) (z : Int), mo_Ja g' → g' 7 = g 7 → g' 0 = g 0 → z ≠ 0 → (∀ k j, mo_fld g' k j = if 215 + 7 * k + j = 215 + 7 * p + 6 then z else mo_fld g k j) → mo_J g' := fun g' z ja e7 e0 hz F => by
    have hn2 : mo_nk g' = mo_nk g := by unfold mo_nk; rw [e7]
    have F0 : ∀ k j, j < 6 → mo_fld g' k j = mo_fld g k j := fun k j hj => by rw [F, if_neg (by omega)]
    refine ⟨ja, fun k hk2 => ?_, fun k hk2 => ?_⟩
    · rw [F0 k 2 (by omega), e0]
      by_cases c : k = p
      · subst c
        rw [F, if_pos rfl]
        exact ⟨fun q => absurd q hz, fun _ => by omega⟩
      · rw [F, if_neg (by omega)]
        exact hw k (by omega)
    · rw [F0 k 2 (by omega), e0]
      exact hk k (by omega)
  by_cases c : v = 0
  · simp only [if_pos c]
    have F : ∀ k j, mo_fld (mo_ms g p) k j = if 215 + 7 * k + j = 215 + 7 * p + 6 then 2 else mo_fld g k j := fun k j => mo_ms_f hmt (by omega)
    have ja := mo_Ja_ms hI hp h0.2 ha
    unfold mo_Mt at hmt
    have lo : ∀ j, j < 184 → j ≠ 3 → mo_ms g p j = g j := fun j h1 h2 => mo_ms_lo ⟨by omega, h2, by omega⟩
    exact ⟨fin _ 2 ja (lo 7 (by omega) (by omega)) (lo 0 (by omega) (by omega)) (by omega) F, lo 7 (by omega) (by omega), lo 1 (by omega) (by omega), lo 0 (by omega) (by omega), F⟩
  · simp only [if_neg c]
    have F : ∀ k j, mo_fld (mo_hd g p) k j = if 215 + 7 * k + j = 215 + 7 * p + 6 then 1 else mo_fld g k j := fun k j => mo_hd_f hmt (by omega) (by omega)
    have ja := mo_Ja_hd hI hp h0.2 ha
    unfold mo_Mt at hmt
    have lo : ∀ j, j < 176 → j ≠ 2 → mo_hd g p j = g j := fun j h1 h2 => mo_hd_lo ⟨by omega, by omega, h2, by omega⟩
    exact ⟨fin _ 1 ja (lo 7 (by omega) (by omega)) (lo 0 (by omega) (by omega)) (by omega) F, lo 7 (by omega) (by omega), lo 1 (by omega) (by omega), lo 0 (by omega) (by omega), F⟩
theorem mo_to_sh {g : Nat → Int} {p k j : Nat} (hj : j < 7) (hk : k + 1 < mo_nk g) : mo_fld (mo_to g p) k j = mo_fld g (mo_sh p k) j := by
  rw [mo_to_f hj hk]
  unfold mo_sh
  split <;> rfl
/-- one is not kept any more -/
theorem mo_Ja_to {g : Nat → Int} {B : Int} {p : Nat} (hI : mo_Iv g B) (hp : p < mo_nk g) (hJ : mo_Ja g) : mo_Ja (mo_to g p) := by
  obtain ⟨⟨c4, c5, c6⟩, j2, j3, j4, ⟨k1, k2, k3⟩, j6, j7⟩ := hJ
  have h7 := hI.2.2.2.2.2.2.2.1
  have hn : mo_nk (mo_to g p) = mo_nk g - 1 := mo_to_k _ _ h7.1
  obtain ⟨n, hnn⟩ : ∃ n, mo_nk g = n + 1 := ⟨mo_nk g - 1, by omega⟩
  have lo : ∀ j, j < 215 → j ≠ 7 → mo_to g p j = g j := fun j a b => mo_to_lo b a
  have F : ∀ k j, k < n → j < 7 → mo_fld (mo_to g p) k j = mo_fld g (mo_sh p k) j := fun k j hk hj => mo_to_sh hj (by omega)
  have S : ∀ k, k < n → mo_sh p k < n + 1 := fun k hk => by have := mo_sh_b p k; omega
  have S2 : ∀ j k, j < k → mo_sh p j < mo_sh p k := fun j k h => by have := mo_sh_b p k; have := mo_sh_b p j; omega
  rw [hnn] at j2 j3 j4 j6 j7
  unfold mo_Ja
  rw [hn, hnn, Nat.add_sub_cancel]
  refine ⟨⟨by rw [lo 4 (by omega) (by omega)]; exact c4, by rw [lo 5 (by omega) (by omega)]; exact c5, by rw [lo 6 (by omega) (by omega)]; exact c6⟩, fun k hk => ?_, fun j k hjk hk => ?_, fun j k hjk hk => ?_, ⟨?_, ?_, ?_⟩, fun w e he => ?_, ?_⟩
  · rw [F k 0 hk (by omega), lo 1 (by omega) (by omega)]; exact j2 _ (S k hk)
  · rw [F k 0 hk (by omega), F j 0 (by omega) (by omega)]; exact j3 _ _ (S2 j k hjk) (S k hk)
  · rw [F k 1 hk (by omega), F j 1 (by omega) (by omega), F k 2 hk (by omega), F j 2 (by omega) (by omega), F k 3 hk (by omega), F j 3 (by omega) (by omega), F k 4 hk (by omega), F j 4 (by omega) (by omega), F k 6 hk (by omega), F j 6 (by omega) (by omega)]
    exact j4 _ _ (S2 j k hjk) (S k hk)
  · rw [lo 176 (by omega) (by omega), lo 177 (by omega) (by omega), lo 178 (by omega) (by omega), lo 2 (by omega) (by omega)]; exact k1
  · rw [lo 204 (by omega) (by omega), lo 205 (by omega) (by omega), lo 2 (by omega) (by omega)]; exact k2
  · rw [lo 184 (by omega) (by omega), lo 185 (by omega) (by omega), lo 186 (by omega) (by omega), lo 3 (by omega) (by omega)]; exact k3
  · rw [lo (198 + e) (by omega) (by omega)]
    refine Int.le_trans ?_ (j6 w e he)
    have e1 : mo_mny (mo_to g p) w n e = mo_cnt (fun k => (fun i => mo_std g w i && decide (mo_fld g i 4 = (e : Int))) (mo_sh p k)) n := mo_cnt_congr fun k hk => by
      show (mo_std (mo_to g p) w k && decide (mo_fld (mo_to g p) k 4 = (e : Int))) = (mo_std g w (mo_sh p k) && decide (mo_fld g (mo_sh p k) 4 = (e : Int)))
      rw [F k 4 hk (by omega)]
      congr 1
      unfold mo_std
      rw [F k 2 hk (by omega), F k 6 hk (by omega)]
    have e3 := e1.trans (mo_cnt_sh (fun i => mo_std g w i && decide (mo_fld g i 4 = (e : Int))) p n (by omega))
    rw [e3]
    unfold mo_mny
    split <;> omega
  · rw [lo 2 (by omega) (by omega)]
    refine Int.le_trans ?_ j7
    have e1 : mo_cnt (fun k => decide (mo_fld (mo_to g p) k 6 = 1)) n = mo_cnt (fun k => (fun i => decide (mo_fld g i 6 = 1)) (mo_sh p k)) n := mo_cnt_congr fun k hk => by
      show decide (mo_fld (mo_to g p) k 6 = 1) = decide (mo_fld g (mo_sh p k) 6 = 1)
      rw [F k 6 hk (by omega)]
    have e3 := e1.trans (mo_cnt_sh (fun i => decide (mo_fld g i 6 = 1)) p n (by omega))
    rw [e3]
    split <;> omega
theorem mo_J_to {g : Nat → Int} {B : Int} {p : Nat} (hI : mo_Iv g B) (hp : p < mo_nk g) (hJ : mo_J g) : mo_J (mo_to g p) := by
  obtain ⟨ha, hw, hk⟩ := hJ
  have h7 := hI.2.2.2.2.2.2.2.1
  have hn : mo_nk (mo_to g p) = mo_nk g - 1 := mo_to_k _ _ h7.1
  have e0 : mo_to g p 0 = g 0 := mo_to_lo (by omega) (by omega)
  have S : ∀ k, k < mo_nk g - 1 → mo_sh p k < mo_nk g := fun k hk => by have := mo_sh_b p k; omega
  refine ⟨mo_Ja_to hI hp ha, fun k hk2 => ?_, fun k hk2 => ?_⟩
  · rw [mo_to_sh (by omega) (by omega), mo_to_sh (by omega) (by omega), e0]
    exact hw _ (S k (by omega))
  · rw [mo_to_sh (by omega) (by omega), e0]
    exact hk _ (S k (by omega))
/-- hours change, slots change -/
theorem mo_J_CH {g : Nat → Int} {o w : Nat} {h : Int} (ho : o < 8) (hJ : mo_J g) : mo_J (mo_gCH g o w h) ∧ ∀ j, j < 8 ∨ 168 ≤ j → mo_gCH g o w h j = g j := by
  have e : ∀ j, j < 8 ∨ 168 ≤ j → mo_gCH g o w h j = g j := fun j hj => by
    unfold mo_gCH
    rw [if_neg (by omega)]
  exact ⟨mo_J_cg (fun j hj => e j (by omega)) hJ, e⟩
theorem mo_J_u192 {g : Nat → Int} {e : Nat} {v : Int} (he : e < 6) (hJ : mo_J g) : mo_J (va_up g (192 + e) v) ∧ ∀ j, j < 8 ∨ 198 ≤ j → va_up g (192 + e) v j = g j := by
  have q : ∀ j, j < 192 ∨ 198 ≤ j → va_up g (192 + e) v j = g j := fun j hj => mo_up_n (by omega)
  exact ⟨mo_J_cg (fun j hj => q j (by omega)) hJ, fun j hj => q j (by omega)⟩
