/-! what the law needs of a calendar -/
def mo_Ja (g : Nat → Int) : Prop :=
  (g 4 = 3 ∧ g 5 = 2 ∧ g 6 = 2) ∧
  (∀ k, k < mo_nk g → mo_fld g k 0 < g 1) ∧
  (∀ j k, j < k → k < mo_nk g → mo_fld g j 0 < mo_fld g k 0) ∧
  (∀ j k, j < k → k < mo_nk g → mo_fld g j 6 ≠ 2 → mo_fld g k 6 ≠ 2 → mo_fld g j 2 = mo_fld g k 2 → ¬ (mo_fld g j 3 = mo_fld g k 3 ∧ mo_fld g j 4 = mo_fld g k 4) ∧ ¬ (mo_fld g j 3 / 4 = mo_fld g k 3 / 4 ∧ mo_fld g j 1 = mo_fld g k 1)) ∧
  (g 176 + g 177 + g 178 = g 2 ∧ g 204 + g 205 = g 2 ∧ g 184 + g 185 + g 186 = g 3) ∧
  (∀ (w : Int) (e : Nat), e < 2 → mo_mny g w (mo_nk g) e ≤ g (198 + e)) ∧
  mo_cnt (fun k => decide (mo_fld g k 6 = 1)) (mo_nk g) ≤ g 2
/-- planned ones are of the week c or later, told ones of c or before -/
def mo_Jw (g : Nat → Int) (c : Int) : Prop := ∀ k, k < mo_nk g → (mo_fld g k 6 = 0 → c ≤ mo_fld g k 2) ∧ (mo_fld g k 6 ≠ 0 → mo_fld g k 2 ≤ c)
def mo_Jk (g : Nat → Int) : Prop := ∀ k, k < mo_nk g → g 0 ≤ mo_fld g k 2 + 4
def mo_J (g : Nat → Int) : Prop := mo_Ja g ∧ mo_Jw g (g 0) ∧ mo_Jk g
theorem mo_std_cg {g g' : Nat → Int} {k : Nat} (h2 : mo_fld g' k 2 = mo_fld g k 2) (h6 : mo_fld g' k 6 = mo_fld g k 6) (w : Int) : mo_std g' w k = mo_std g w k := by
  unfold mo_std
  rw [h2, h6]
theorem mo_mny_cg {g g' : Nat → Int} {n : Nat} (h : ∀ k j, k < n → j < 7 → mo_fld g' k j = mo_fld g k j) (w : Int) (e : Nat) : mo_mny g' w n e = mo_mny g w n e := by
  unfold mo_mny
  refine mo_cnt_congr fun k hk => ?_
  rw [mo_std_cg (h k 2 hk (by omega)) (h k 6 hk (by omega)), h k 4 hk (by omega)]
/-- hours, venues, slots and the week may change -/
theorem mo_Ja_cg {g g' : Nat → Int} (h : ∀ j, (0 < j ∧ j < 8) ∨ (176 ≤ j ∧ j < 192) ∨ 198 ≤ j → g' j = g j) (hJ : mo_Ja g) : mo_Ja g' := by
  obtain ⟨⟨c4, c5, c6⟩, j2, j3, j4, ⟨k1, k2, k3⟩, j6, j7⟩ := hJ
  have hn : mo_nk g' = mo_nk g := by unfold mo_nk; rw [h 7 (by omega)]
  have F : ∀ k j, mo_fld g' k j = mo_fld g k j := fun k j => by unfold mo_fld; exact h _ (by omega)
  refine ⟨⟨by rw [h 4 (by omega)]; exact c4, by rw [h 5 (by omega)]; exact c5, by rw [h 6 (by omega)]; exact c6⟩, fun k hk => ?_, fun j k hjk hk => ?_, fun j k hjk hk => ?_, ⟨?_, ?_, ?_⟩, fun w e he => ?_, ?_⟩
  · rw [F, h 1 (by omega)]; exact j2 k (by omega)
  · rw [F, F]; exact j3 j k hjk (by omega)
  · rw [F, F, F, F, F, F, F, F, F, F]; exact j4 j k hjk (by omega)
  · rw [h 176 (by omega), h 177 (by omega), h 178 (by omega), h 2 (by omega)]; exact k1
  · rw [h 204 (by omega), h 205 (by omega), h 2 (by omega)]; exact k2
  · rw [h 184 (by omega), h 185 (by omega), h 186 (by omega), h 3 (by omega)]; exact k3
  · rw [hn, mo_mny_cg (fun k j _ _ => F k j), h (198 + e) (by omega)]; exact j6 w e he
  · rw [hn, h 2 (by omega)]
    rw [mo_cnt_congr (q := fun k => decide (mo_fld g k 6 = 1)) (fun k hk => by rw [F])]
    exact j7
theorem mo_J_cg {g g' : Nat → Int} (h : ∀ j, j < 8 ∨ (176 ≤ j ∧ j < 192) ∨ 198 ≤ j → g' j = g j) (hJ : mo_J g) : mo_J g' := by
  obtain ⟨h1, h2, h3⟩ := hJ
  have hn : mo_nk g' = mo_nk g := by unfold mo_nk; rw [h 7 (by omega)]
  have F : ∀ k j, mo_fld g' k j = mo_fld g k j := fun k j => by unfold mo_fld; exact h _ (by omega)
  refine ⟨mo_Ja_cg (fun j hj => h j (by omega)) h1, fun k hk => ?_, fun k hk => ?_⟩
  · rw [F, F, h 0 (by omega)]; exact h2 k (by omega)
  · rw [F, h 0 (by omega)]; exact h3 k (by omega)
/-- a day of an order, a slot of an escort: free where no one stands there -/
theorem mo_dys_f {g : Nat → Int} {B : Int} (hI : mo_Iv g B) {w : Int} {o t : Nat} (ht : t < 28) (h : mo_hb (mo_dys g w (mo_nk g) o) ((t / 4 : Nat) : Int) = false) : ∀ k, k < mo_nk g → mo_std g w k = true → mo_fld g k 1 = (o : Int) → mo_fld g k 3 / 4 = (t : Int) / 4 → False := by
  intro k hk hs ho hd
  have hn : ((mo_nk g : Nat) : Int) = g 7 := by
    have := hI.2.2.2.2.2.2.2.1
    unfold mo_nk; omega
  have hb : ∀ k, k < mo_nk g → 0 ≤ mo_fld g k 3 / 4 ∧ mo_fld g k 3 / 4 ≤ 27 := fun k hk => by
    have h9 := hI.2.2.2.2.2.2.2.2.2.2.2.2.2.2.2.2.1 k (by omega)
    unfold mo_Mt at h9
    omega
  have h1 := (mo_hb_msk (p := fun k => mo_std g w k && decide (mo_fld g k 1 = (o : Int))) (f := fun k => mo_fld g k 3 / 4) (i := t / 4) (by omega) (n := mo_nk g) hb).mpr ⟨k, hk, by simp only [Bool.and_eq_true, decide_eq_true_eq]; exact ⟨hs, ho⟩, by show mo_fld g k 3 / 4 = ((t / 4 : Nat) : Int); omega⟩
  unfold mo_dys at h
  rw [h] at h1
  cases h1
theorem mo_dys_t {g : Nat → Int} {B : Int} (hI : mo_Iv g B) {w : Int} {o t k : Nat} (ht : t < 28) (hk : k < mo_nk g) (hs : mo_std g w k = true) (ho : mo_fld g k 1 = (o : Int)) (hd : mo_fld g k 3 / 4 = (t : Int) / 4) : mo_hb (mo_dys g w (mo_nk g) o) ((t / 4 : Nat) : Int) = true := by
  cases h : mo_hb (mo_dys g w (mo_nk g) o) ((t / 4 : Nat) : Int) with
  | true => rfl
  | false => exact (mo_dys_f hI ht h k hk hs ho hd).elim
theorem mo_bsy_f {g : Nat → Int} {B : Int} (hI : mo_Iv g B) {w : Int} {e t : Nat} (ht : t < 28) (h : mo_hb (mo_bsy g w (mo_nk g) e) (t : Int) = false) : ∀ k, k < mo_nk g → mo_std g w k = true → mo_fld g k 4 = (e : Int) → mo_fld g k 3 = (t : Int) → False := by
  intro k hk hs ho hd
  have hn : ((mo_nk g : Nat) : Int) = g 7 := by
    have := hI.2.2.2.2.2.2.2.1
    unfold mo_nk; omega
  have hb : ∀ k, k < mo_nk g → 0 ≤ mo_fld g k 3 ∧ mo_fld g k 3 ≤ 27 := fun k hk => by
    have h9 := hI.2.2.2.2.2.2.2.2.2.2.2.2.2.2.2.2.1 k (by omega)
    unfold mo_Mt at h9
    omega
  have h1 := (mo_hb_msk (p := fun k => mo_std g w k && decide (mo_fld g k 4 = (e : Int))) (f := fun k => mo_fld g k 3) (i := t) ht (n := mo_nk g) hb).mpr ⟨k, hk, by simp only [Bool.and_eq_true, decide_eq_true_eq]; exact ⟨hs, ho⟩, hd⟩
  unfold mo_bsy at h
  rw [h] at h1
  cases h1
theorem mo_std_i {g : Nat → Int} {w : Int} {k : Nat} : mo_std g w k = true ↔ mo_fld g k 2 = w ∧ mo_fld g k 6 ≠ 2 := by
  unfold mo_std
  rw [decide_eq_true_eq]
/-- a meeting is planned -/
theorem mo_J_ly {g : Nat → Int} {B : Int} {o w t e v : Nat} (hI : mo_Iv g B) (h : mo_J g) (ht : t < 28) (hw : g 0 ≤ (w : Int)) (hd : mo_hb (mo_dys g w (mo_nk g) o) ((t / 4 : Nat) : Int) = false) (he0 : mo_we g w e t = 0) : mo_J (mo_ly g o w t e v) := by
  obtain ⟨⟨⟨c4, c5, c6⟩, j2, j3, j4, ⟨k1, k2, k3⟩, j6, j7⟩, jw, jk⟩ := h
  have h7 := hI.2.2.2.2.2.2.2.1
  have hn : mo_nk (mo_ly g o w t e v) = mo_nk g + 1 := mo_ly_k _ _ _ _ _ h7.1
  have lo : ∀ j, j < 215 → j ≠ 1 → j ≠ 7 → mo_ly g o w t e v j = g j := fun j h1 h2 h3 => mo_ly_o h2 h3 (by omega)
  have F : ∀ k j, k < mo_nk g → j < 7 → mo_fld (mo_ly g o w t e v) k j = mo_fld g k j := fun k j hk hj => mo_ly_f hk hj
  obtain ⟨a0, a1, a2, a3, a4, a5, a6⟩ := mo_ly_n g o w t e v
  obtain ⟨w1, w2, w3⟩ := mo_we_0.mp he0
  have df := mo_dys_f hI ht hd
  have bf := mo_bsy_f hI ht w2
  have cs : ∀ k, k < mo_nk g + 1 → k < mo_nk g ∨ k = mo_nk g := fun k hk => by omega
  unfold mo_J mo_Ja mo_Jw mo_Jk
  rw [hn]
  refine ⟨⟨⟨by rw [lo 4 (by omega) (by omega) (by omega)]; exact c4, by rw [lo 5 (by omega) (by omega) (by omega)]; exact c5, by rw [lo 6 (by omega) (by omega) (by omega)]; exact c6⟩, fun k hk => ?_, fun j k hjk hk => ?_, fun j k hjk hk q1 q2 q3 => ?_, ⟨?_, ?_, ?_⟩, fun w' e' he => ?_, ?_⟩, fun k hk => ?_, fun k hk => ?_⟩
  · rw [mo_ly_1]
    rcases cs k hk with c | c
    · rw [F k 0 c (by omega)]
      have := j2 k c
      omega
    · rw [c, a0]; omega
  · rcases cs k hk with c | c
    · rw [F k 0 c (by omega), F j 0 (by omega) (by omega)]
      exact j3 j k hjk c
    · subst c
      rw [a0, F j 0 hjk (by omega)]
      exact j2 j hjk
  · rcases cs k hk with c | c
    · rw [F j 6 (by omega) (by omega)] at q1
      rw [F k 6 c (by omega)] at q2
      rw [F k 2 c (by omega), F j 2 (by omega) (by omega)] at q3
      rw [F k 3 c (by omega), F k 4 c (by omega), F k 1 c (by omega), F j 3 (by omega) (by omega), F j 4 (by omega) (by omega), F j 1 (by omega) (by omega)]
      exact j4 j k hjk c q1 q2 q3
    · subst c
      rw [F j 6 hjk (by omega)] at q1
      rw [a2, F j 2 hjk (by omega)] at q3
      rw [a3, a4, a1, F j 3 hjk (by omega), F j 4 hjk (by omega), F j 1 hjk (by omega)]
      have hs : mo_std g w j = true := mo_std_i.mpr ⟨q3, q1⟩
      exact ⟨fun q => bf j hjk hs q.2 q.1, fun q => df j hjk hs q.2 q.1⟩
  · rw [lo 176 (by omega) (by omega) (by omega), lo 177 (by omega) (by omega) (by omega), lo 178 (by omega) (by omega) (by omega), lo 2 (by omega) (by omega) (by omega)]; exact k1
  · rw [lo 204 (by omega) (by omega) (by omega), lo 205 (by omega) (by omega) (by omega), lo 2 (by omega) (by omega) (by omega)]; exact k2
  · rw [lo 184 (by omega) (by omega) (by omega), lo 185 (by omega) (by omega) (by omega), lo 186 (by omega) (by omega) (by omega), lo 3 (by omega) (by omega) (by omega)]; exact k3
  · rw [mo_mny_s, mo_mny_cg F, lo (198 + e') (by omega) (by omega) (by omega), a4]
    have h1 := j6 w' e' he
    by_cases c : mo_std (mo_ly g o w t e v) w' (mo_nk g) = true ∧ (e : Int) = (e' : Int)
    · rw [if_pos c]
      have c1 := (mo_std_i.mp c.1).1
      rw [a2] at c1
      have c2 : e = e' := by omega
      subst c2
      rw [← c1]
      omega
    · rw [if_neg c]; omega
  · rw [mo_cnt_s, lo 2 (by omega) (by omega) (by omega), mo_cnt_congr (q := fun k => decide (mo_fld g k 6 = 1)) (fun k hk => by rw [F k 6 hk (by omega)]), a6]
    simpa using j7
  · rw [lo 0 (by omega) (by omega) (by omega)]
    rcases cs k hk with c | c
    · rw [F k 6 c (by omega), F k 2 c (by omega)]
      exact jw k c
    · rw [c, a6, a2]
      exact ⟨fun _ => hw, fun q => absurd rfl q⟩
  · rw [lo 0 (by omega) (by omega) (by omega)]
    rcases cs k hk with c | c
    · rw [F k 2 c (by omega)]
      exact jk k c
    · rw [c, a2]
      omega
