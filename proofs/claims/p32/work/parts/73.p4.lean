/-! planning: one, a week; the first slot; why not again -/
theorem mo_ef_we {g : Nat → Int} {w : Int} {t : Nat} : ∀ {n : Nat}, mo_ef g w t n ≠ -1 → mo_we g w (mo_ef g w t n).toNat t = 0
  | 0, h => absurd rfl h
  | n + 1, h => by
    rw [mo_ef] at h ⊢
    split
    · rename_i c
      simpa using c.1
    · rename_i c
      rw [if_neg c] at h
      exact mo_ef_we h
theorem mo_ef_ne {g : Nat → Int} {w : Int} {t : Nat} : ∀ {n e : Nat}, e < n → mo_we g w e t = 0 → mo_ef g w t n ≠ -1
  | 0, e, h, _ => absurd h (Nat.not_lt_zero _)
  | n + 1, e, h, he => by
    rw [mo_ef]
    split
    · omega
    · rename_i c
      by_cases d : e = n
      · subst d
        intro q
        exact c ⟨he, Or.inl q⟩
      · exact mo_ef_ne (by omega) he
theorem mo_ow_lx {g : Nat → Int} {B : Int} (hI : mo_Iv g B) (o w t e v : Int) {o' w' : Nat} (ho : o' < 8) (hw : w' < 20) : mo_ow (mo_ly g o w t e v) o' w' ≤ mo_ow g o' w' := by
  have h7 := hI.2.2.2.2.2.2.2.1
  have hn : mo_nk (mo_ly g o w t e v) = mo_nk g + 1 := mo_ly_k _ _ _ _ _ h7.1
  have lo : ∀ j, j < 215 → j ≠ 1 → j ≠ 7 → mo_ly g o w t e v j = g j := fun j h1 h2 h3 => mo_ly_o h2 h3 (by omega)
  have e1 : mo_hsum (mo_ly g o w t e v) o' (w' + 1) = mo_hsum g o' (w' + 1) := mo_sum_congr fun j hj => lo _ (by omega) (by omega) (by omega)
  have e2 : mo_cnt (mo_plb (mo_ly g o w t e v) o' w') (mo_nk g) = mo_cnt (mo_plb g o' w') (mo_nk g) := mo_cnt_congr fun k hk => by
    unfold mo_plb
    rw [mo_ly_f hk (by omega), mo_ly_f hk (by omega), mo_ly_f hk (by omega)]
  unfold mo_ow
  rw [hn, mo_cnt_s, e1, e2, lo (176 + o') (by omega) (by omega) (by omega)]
  generalize hx : (if mo_plb (mo_ly g o w t e v) o' w' (mo_nk g) = true then (1 : Int) else 0) = x
  have hx0 : 0 ≤ x := by rw [← hx]; split <;> omega
  split <;> split <;> omega
theorem mo_l1_ly {g : Nat → Int} {B : Int} {w : Nat} (hI : mo_Iv g B) (hw : w < 20) (hb : mo_bo g w ≠ -1) : ∃ o t e v : Nat, mo_l1 g w = mo_ly g o w t e v ∧ t < 28 ∧ g 0 ≤ (w : Int) ∧ mo_hb (mo_dys g w (mo_nk g) o) ((t / 4 : Nat) : Int) = false ∧ mo_we g w e t = 0 := by
  obtain ⟨p1, p2, p3, p4, p5⟩ := mo_p1 hI hw hb
  have h6 := hI.2.2.2.2.2.2.1
  obtain ⟨c1, c2, c3, c4, c5, c6⟩ := mo_ch p5 h6.1
  refine ⟨(mo_bo g w).toNat, (mo_sf g w (mo_bo g w).toNat).toNat, (mo_ef g w (mo_sf g w (mo_bo g w).toNat).toNat (mo_en5 g)).toNat, (mo_vf g w (mo_bo g w).toNat (mo_sf g w (mo_bo g w).toNat).toNat).toNat, ?_, by omega, c2, c6, mo_ef_we (by omega)⟩
  unfold mo_l1
  rw [Int.toNat_of_nonneg p4.1, Int.toNat_of_nonneg c1.1, Int.toNat_of_nonneg c4.1, Int.toNat_of_nonneg c5.1]
theorem mo_J_l1 {g : Nat → Int} {B : Int} {w : Nat} (hI : mo_Iv g B) (hJ : mo_J g) (hw : w < 20) (hb : mo_bo g w ≠ -1) : mo_J (mo_l1 g w) ∧ mo_nk (mo_l1 g w) = mo_nk g + 1 ∧ (∀ k j, k < mo_nk g → j < 7 → mo_fld (mo_l1 g w) k j = mo_fld g k j) ∧ mo_fld (mo_l1 g w) (mo_nk g) 0 = g 1 ∧ mo_l1 g w 7 = g 7 + 1 ∧ mo_l1 g w 1 = g 1 + 1 ∧ (∀ j, j < 215 → j ≠ 1 → j ≠ 7 → mo_l1 g w j = g j) ∧ ∀ o' w', o' < 8 → w' < 20 → mo_ow (mo_l1 g w) o' w' ≤ mo_ow g o' w' := by
  obtain ⟨o, t, e, v, h1, h2, h3, h4, h5⟩ := mo_l1_ly hI hw hb
  have h7 := hI.2.2.2.2.2.2.2.1
  rw [h1]
  exact ⟨mo_J_ly hI hJ h2 h3 h4 h5, mo_ly_k _ _ _ _ _ h7.1, fun k j hk hj => mo_ly_f hk hj, (mo_ly_n g o w t e v).1, mo_ly_7 _ _ _ _ _ _, mo_ly_1 _ _ _ _ _ _, fun j a b c => mo_ly_o b c (by omega), fun o' w' a b => mo_ow_lx hI _ _ _ _ _ a b⟩
theorem mo_J_pl {w : Nat} (hw : w < 20) : ∀ (n : Nat) {g : Nat → Int} {B : Int}, mo_Iv g B → mo_J g → mo_J (mo_pl w n g).2 ∧ (mo_pl w n g).2 7 = g 7 + (mo_pl w n g).1 ∧ (mo_pl w n g).2 1 = g 1 + (mo_pl w n g).1 ∧ 0 ≤ (mo_pl w n g).1 ∧ (∀ k j, k < mo_nk g → j < 7 → mo_fld (mo_pl w n g).2 k j = mo_fld g k j) ∧ (∀ i : Nat, (i : Int) < (mo_pl w n g).1 → mo_fld (mo_pl w n g).2 (mo_nk g + i) 0 = g 1 + i) ∧ (∀ j, j < 215 → j ≠ 1 → j ≠ 7 → (mo_pl w n g).2 j = g j) ∧ ∀ o' w', o' < 8 → w' < 20 → mo_ow (mo_pl w n g).2 o' w' ≤ mo_ow g o' w'
  | 0, g, B, hI, hJ => ⟨hJ, (Int.add_zero _).symm, (Int.add_zero _).symm, Int.le_refl _, fun _ _ _ _ => rfl, fun i hi => by have hi : (i : Int) < 0 := hi; omega, fun _ _ _ _ => rfl, fun _ _ _ _ => Int.le_refl _⟩
  | n + 1, g, B, hI, hJ => by
    rw [mo_pl]
    split
    · exact ⟨hJ, (Int.add_zero _).symm, (Int.add_zero _).symm, Int.le_refl _, fun _ _ _ _ => rfl, fun i hi => by have hi : (i : Int) < 0 := hi; omega, fun _ _ _ _ => rfl, fun _ _ _ _ => Int.le_refl _⟩
    · rename_i hb
      obtain ⟨p1, -⟩ := mo_p1 hI hw hb
      obtain ⟨a1, a2, a3, a4, a5, a6, a7, a8⟩ := mo_J_l1 hI hJ hw hb
      obtain ⟨b1, b2, b3, b4, b5, b6, b7, b8⟩ := mo_J_pl hw n p1 a1
      refine ⟨b1, ?_, ?_, ?_, fun k j hk hj => ?_, fun i hi => ?_, fun j h1 h2 h3 => ?_, fun o' w' h1 h2 => ?_⟩
      · simp only; omega
      · simp only; omega
      · simp only; omega
      · simp only; rw [b5 k j (by omega) hj, a3 k j hk hj]
      · simp only at hi ⊢
        match i, hi with
        | 0, hi => rw [Nat.add_zero, b5 _ 0 (by omega) (by omega), a4]; omega
        | i + 1, hi =>
          have h9 := b6 i (by omega)
          rw [a2, a6] at h9
          rw [show mo_nk g + (i + 1) = mo_nk g + 1 + i by omega, h9]
          omega
      · simp only; rw [b7 j h1 h2 h3, a7 j h1 h2 h3]
      · simp only; exact Int.le_trans (b8 o' w' h1 h2) (a8 o' w' h1 h2)
/-- behind planning a week nothing more can be planned in it -/
theorem mo_pl_fx {w : Nat} (hw : w < 20) : ∀ (n : Nat) {g : Nat → Int} {B : Int}, mo_Iv g B → 60 - g 7 < (n : Int) → mo_bo (mo_pl w n g).2 w = -1
  | 0, g, B, hI, h => by
    have h7 := hI.2.2.2.2.2.2.2.1
    exfalso
    omega
  | n + 1, g, B, hI, h => by
    rw [mo_pl]
    split
    · rename_i hb; exact hb
    · rename_i hb
      obtain ⟨p1, p2, p3, -⟩ := mo_p1 hI hw hb
      exact mo_pl_fx hw n p1 (by omega)
theorem mo_pl_2 {w : Nat} (hw : w < 20) {g : Nat → Int} {B : Int} (hI : mo_Iv g B) : mo_pl w 61 (mo_pl w 61 g).2 = (0, (mo_pl w 61 g).2) := by
  have h7 := hI.2.2.2.2.2.2.2.1
  have h := mo_pl_fx hw 61 hI (by omega)
  generalize (mo_pl w 61 g).2 = r at h
  show mo_pl w (60 + 1) r = _
  rw [mo_pl, if_pos h]
theorem mo_sum_mono {f g : Nat → Int} : ∀ {n : Nat}, (∀ j, j < n → f j ≤ g j) → mo_sum f n ≤ mo_sum g n
  | 0, _ => Int.le_refl _
  | n + 1, h => by
    have h1 := mo_sum_mono (f := f) (g := g) (n := n) (fun j hj => h j (by omega))
    have h2 := h n (by omega)
    rw [mo_sum, mo_sum]
    omega
theorem mo_owa_pl {w : Nat} (hw : w < 20) {g : Nat → Int} {B : Int} (hI : mo_Iv g B) (hJ : mo_J g) : mo_owa (mo_pl w 61 g).2 w ≤ mo_owa g w := by
  have h4 := hI.2.2.2.2.1
  obtain ⟨-, -, -, -, -, -, b7, b8⟩ := mo_J_pl hw 61 hI hJ
  unfold mo_owa
  rw [b7 4 (by omega) (by omega) (by omega)]
  exact mo_sum_mono fun o ho => b8 o w (by omega) hw
/-- the first slot is not behind one that can be planned -/
theorem mo_sf_rs {g : Nat → Int} {B : Int} {o w t e v : Nat} (hI : mo_Iv g B) (ht : t < 28) (he : (e : Int) < g 5) (hv : (v : Int) < g 6) (h : mo_rs g o w t e v = 0) : 0 ≤ mo_sf g w o ∧ mo_sf g w o ≤ (t : Int) := by
  obtain ⟨h1, h2, h3, h4, h5, h6⟩ := mo_rs_0 h
  have hsp : mo_sp g w o t = true := by
    unfold mo_sp
    rw [h3]
    simp only [Bool.not_false, Bool.true_and, Bool.and_eq_true, decide_eq_true_eq]
    refine ⟨?_, mo_ef_ne (e := e) (by unfold mo_en5; omega) h4⟩
    intro q
    unfold mo_vf at q
    rcases mo_ff_cases (mo_vp g w o t) (g 6).toNat with ⟨e1, e2⟩ | ⟨i, e1, e2, -⟩
    · have h9 := e2 v (by omega)
      unfold mo_vp at h9
      rw [h2] at h9
      simp only [Bool.true_and, decide_eq_false_iff_not] at h9
      omega
    · omega
  have h0 : ¬ ((w : Int) < g 0 ∨ g 7 = 60) := by omega
  unfold mo_sf
  rw [if_neg h0]
  rcases mo_ff_cases (mo_sp g w o) 28 with ⟨e1, e2⟩ | ⟨i, e1, e2, e3, e4⟩
  · have h9 := e2 t ht
    rw [hsp] at h9
    cases h9
  · rw [e2]
    refine ⟨by omega, ?_⟩
    by_cases c : t < i
    · have h9 := e4 t c
      rw [hsp] at h9
      cases h9
    · omega
/-- planned, it can't be planned again on this day -/
theorem mo_rs_3 {g : Nat → Int} {B : Int} {o w t e v : Nat} (hI2 : mo_Iv (mo_ly g o w t e v) B) (h7 : 0 ≤ g 7) (ho : o < 8) (ht : t < 28) (h : mo_rs g o w t e v = 0) : mo_rs (mo_ly g o w t e v) o w t e v = 3 := by
  obtain ⟨h1, h2, h3, h4, h5, h6⟩ := mo_rs_0 h
  have hn : mo_nk (mo_ly g o w t e v) = mo_nk g + 1 := mo_ly_k _ _ _ _ _ h7
  have lo : ∀ j, j < 215 → j ≠ 1 → j ≠ 7 → mo_ly g o w t e v j = g j := fun j h1 h2 h3 => mo_ly_o h2 h3 (by omega)
  obtain ⟨a0, a1, a2, a3, a4, a5, a6⟩ := mo_ly_n g o w t e v
  have hd := mo_dys_t hI2 (w := (w : Int)) (o := o) (t := t) (k := mo_nk g) ht (by omega) (mo_std_i.mpr ⟨a2, by rw [a6]; omega⟩) a1 (by rw [a3])
  unfold mo_rs
  rw [lo 0 (by omega) (by omega) (by omega), lo (168 + o) (by omega) (by omega) (by omega), if_neg (by omega), if_neg (by rw [h2]; simp), if_pos hd]
