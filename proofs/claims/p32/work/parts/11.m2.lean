/-! a week that is looked at, the choice of a meeting, the planner -/
theorem mo_tkn_s (g : Nat → Int) (w : Int) (n j : Nat) : mo_tkn g w (n + 1) j = mo_tkn g w n j + (if mo_std g w n = true ∧ 28 * mo_fld g n 5 + mo_fld g n 3 = (j : Int) then 1 else 0) := by
  unfold mo_tkn
  rw [mo_cnt]
  simp only [Bool.and_eq_true, decide_eq_true_eq]
theorem mo_mny_s (g : Nat → Int) (w : Int) (n e : Nat) : mo_mny g w (n + 1) e = mo_mny g w n e + (if mo_std g w n = true ∧ mo_fld g n 4 = (e : Int) then 1 else 0) := by
  unfold mo_mny
  rw [mo_cnt]
  simp only [Bool.and_eq_true, decide_eq_true_eq]
theorem mo_bsy_s (g : Nat → Int) (w : Int) (n e : Nat) : mo_bsy g w (n + 1) e = if mo_std g w n = true ∧ mo_fld g n 4 = (e : Int) then mo_or (mo_bsy g w n e) (mo_shl 1 (mo_fld g n 3)) else mo_bsy g w n e := by
  unfold mo_bsy
  rw [mo_msk]
  simp only [Bool.and_eq_true, decide_eq_true_eq]
theorem mo_dys_s (g : Nat → Int) (w : Int) (n o : Nat) : mo_dys g w (n + 1) o = if mo_std g w n = true ∧ mo_fld g n 1 = (o : Int) then mo_or (mo_dys g w n o) (mo_shl 1 (mo_fld g n 3 / 4)) else mo_dys g w n o := by
  unfold mo_dys
  rw [mo_msk]
  simp only [Bool.and_eq_true, decide_eq_true_eq]
theorem mo_tkn_le (g : Nat → Int) (w : Int) (n j : Nat) : 0 ≤ mo_tkn g w n j ∧ mo_tkn g w n j ≤ n := mo_cnt_le _ _
theorem mo_mny_le (g : Nat → Int) (w : Int) (n e : Nat) : 0 ≤ mo_mny g w n e ∧ mo_mny g w n e ≤ n := mo_cnt_le _ _
def mo_we (g : Nat → Int) (w : Int) (e t : Nat) : Int := if mo_hb (g (192 + e)) t = false then 4 else if mo_hb (mo_bsy g w (mo_nk g) e) t = true then 5 else if g (198 + e) ≤ mo_mny g w (mo_nk g) e then 6 else 0
def mo_vp (g : Nat → Int) (w : Int) (o t v : Nat) : Bool := mo_hb (g (168 + o)) v && decide (0 < mo_fre g w (mo_nk g) (28 * v + t))
def mo_vf (g : Nat → Int) (w : Int) (o t : Nat) : Int := mo_ff (mo_vp g w o t) (g 6).toNat
def mo_ef (g : Nat → Int) (w : Int) (t : Nat) : Nat → Int
  | 0 => -1
  | e + 1 => if mo_we g w e t = 0 ∧ (mo_ef g w t e = -1 ∨ mo_mny g w (mo_nk g) e < mo_mny g w (mo_nk g) (mo_ef g w t e).toNat) then (e : Int) else mo_ef g w t e
def mo_en5 (g : Nat → Int) : Nat := (g 5).toNat
def mo_sp (g : Nat → Int) (w : Int) (o t : Nat) : Bool := !mo_hb (mo_dys g w (mo_nk g) o) ((t / 4 : Nat) : Int) && (decide (mo_vf g w o t ≠ -1) && decide (mo_ef g w t (mo_en5 g) ≠ -1))
def mo_sf (g : Nat → Int) (w : Int) (o : Nat) : Int := if w < g 0 ∨ g 7 = 60 then -1 else mo_ff (mo_sp g w o) 28
def mo_rs (g : Nat → Int) (o : Nat) (w : Int) (t e v : Nat) : Int := if w < g 0 then 1 else if mo_hb (g (168 + o)) v = false then 2 else if mo_hb (mo_dys g w (mo_nk g) o) ((t / 4 : Nat) : Int) = true then 3 else if mo_we g w e t ≠ 0 then mo_we g w e t else if mo_fre g w (mo_nk g) (28 * v + t) < 1 then 7 else if g 7 = 60 then 8 else 0
def mo_ly (g : Nat → Int) (o w t e v : Int) : Nat → Int := fun j => if j = 1 then g 1 + 1 else if j = 7 then g 7 + 1 else if j = 215 + 7 * mo_nk g + 6 then 0 else if j = 215 + 7 * mo_nk g + 5 then v else if j = 215 + 7 * mo_nk g + 4 then e else if j = 215 + 7 * mo_nk g + 3 then t else if j = 215 + 7 * mo_nk g + 2 then w else if j = 215 + 7 * mo_nk g + 1 then o else if j = 215 + 7 * mo_nk g then g 1 else g j
theorem mo_ly_o {g : Nat → Int} {o w t e v : Int} {j : Nat} (h1 : j ≠ 1) (h7 : j ≠ 7) (hk : j < 215 + 7 * mo_nk g ∨ 215 + 7 * mo_nk g + 7 ≤ j) : mo_ly g o w t e v j = g j := by
  unfold mo_ly
  rw [if_neg h1, if_neg h7, if_neg (by omega), if_neg (by omega), if_neg (by omega), if_neg (by omega), if_neg (by omega), if_neg (by omega), if_neg (by omega)]
theorem mo_ly_1 (g : Nat → Int) (o w t e v : Int) : mo_ly g o w t e v 1 = g 1 + 1 := rfl
theorem mo_ly_7 (g : Nat → Int) (o w t e v : Int) : mo_ly g o w t e v 7 = g 7 + 1 := rfl
theorem mo_ly_f {g : Nat → Int} {o w t e v : Int} {k j : Nat} (hk : k < mo_nk g) (hj : j < 7) : mo_fld (mo_ly g o w t e v) k j = mo_fld g k j := by
  unfold mo_fld
  exact mo_ly_o (by omega) (by omega) (by omega)
theorem mo_ly_n (g : Nat → Int) (o w t e v : Int) : mo_fld (mo_ly g o w t e v) (mo_nk g) 0 = g 1 ∧ mo_fld (mo_ly g o w t e v) (mo_nk g) 1 = o ∧ mo_fld (mo_ly g o w t e v) (mo_nk g) 2 = w ∧ mo_fld (mo_ly g o w t e v) (mo_nk g) 3 = t ∧ mo_fld (mo_ly g o w t e v) (mo_nk g) 4 = e ∧ mo_fld (mo_ly g o w t e v) (mo_nk g) 5 = v ∧ mo_fld (mo_ly g o w t e v) (mo_nk g) 6 = 0 := by
  unfold mo_fld mo_ly
  refine ⟨?_, ?_, ?_, ?_, ?_, ?_, ?_⟩
  · rw [if_neg (by omega), if_neg (by omega), if_neg (by omega), if_neg (by omega), if_neg (by omega), if_neg (by omega), if_neg (by omega), if_neg (by omega), if_pos (by omega)]
  · rw [if_neg (by omega), if_neg (by omega), if_neg (by omega), if_neg (by omega), if_neg (by omega), if_neg (by omega), if_neg (by omega), if_pos rfl]
  · rw [if_neg (by omega), if_neg (by omega), if_neg (by omega), if_neg (by omega), if_neg (by omega), if_neg (by omega), if_pos rfl]
  · rw [if_neg (by omega), if_neg (by omega), if_neg (by omega), if_neg (by omega), if_neg (by omega), if_pos rfl]
  · rw [if_neg (by omega), if_neg (by omega), if_neg (by omega), if_neg (by omega), if_pos rfl]
  · rw [if_neg (by omega), if_neg (by omega), if_neg (by omega), if_pos rfl]
  · rw [if_neg (by omega), if_neg (by omega), if_pos rfl]
theorem mo_ly_k {g : Nat → Int} (o w t e v : Int) (h : 0 ≤ g 7) : mo_nk (mo_ly g o w t e v) = mo_nk g + 1 := by
  unfold mo_nk
  rw [mo_ly_7]
  omega
theorem mo_Iv_mono {g : Nat → Int} {B C : Int} (h : mo_Iv g B) (hBC : B ≤ C) : mo_Iv g C := by
  obtain ⟨hI0, hI1, hI2, hI3, hI4, hI5, hI6, hI7, hIh, hIa, hIe, hIm, hIs, hIl, hIw, hIr, hIt, hIs2, hIs3, hIz⟩ := h
  refine ⟨hI0, by omega, by omega, by omega, hI4, hI5, hI6, hI7, hIh, hIa, fun j hj => ?_, fun j hj => ?_, hIs, hIl, fun j hj => ?_, hIr, fun k hk => ?_, hIs2, hIs3, hIz⟩
  · have := hIe j hj; omega
  · have := hIm j hj; omega
  · have := hIw j hj; omega
  · have h9 := hIt k hk
    unfold mo_Mt at h9 ⊢
    omega
theorem mo_Iv_ly {g : Nat → Int} {B : Int} {o w t e v : Int} (h : mo_Iv g B) (ho : 0 ≤ o ∧ o < g 4) (hw : 0 ≤ w ∧ w ≤ 19) (ht : 0 ≤ t ∧ t ≤ 27) (he : 0 ≤ e ∧ e < g 5) (hv : 0 ≤ v ∧ v < g 6) (hk : g 7 < 60) : mo_Iv (mo_ly g o w t e v) (B + 1) := by
  obtain ⟨hI0, hI1, hI2, hI3, hI4, hI5, hI6, hI7, hIh, hIa, hIe, hIm, hIs, hIl, hIw, hIr, hIt, hIs2, hIs3, hIz⟩ := h
  have hn : ((mo_nk g : Nat) : Int) = g 7 := by unfold mo_nk; omega
  have lo : ∀ j, j < 215 → j ≠ 1 → j ≠ 7 → mo_ly g o w t e v j = g j := fun j h1 h2 h3 => mo_ly_o h2 h3 (by omega)
  refine ⟨?_, ?_, ?_, ?_, ?_, ?_, ?_, ?_, fun j hj => ?_, fun j hj => ?_, fun j hj => ?_, fun j hj => ?_, fun j hj => ?_, fun j hj => ?_, fun j hj => ?_, fun j hj => ?_, fun k hk2 => ?_, ?_, ?_, fun a b h1 h2 h3 => ?_⟩
  · rw [lo 0 (by omega) (by omega) (by omega)]; exact hI0
  · rw [mo_ly_1]; omega
  · rw [lo 2 (by omega) (by omega) (by omega)]; omega
  · rw [lo 3 (by omega) (by omega) (by omega)]; omega
  · rw [lo 4 (by omega) (by omega) (by omega)]; exact hI4
  · rw [lo 5 (by omega) (by omega) (by omega)]; exact hI5
  · rw [lo 6 (by omega) (by omega) (by omega)]; exact hI6
  · rw [mo_ly_7]; omega
  · rw [lo _ (by omega) (by omega) (by omega)]; exact hIh j hj
  · rw [lo _ (by omega) (by omega) (by omega)]; exact hIa j hj
  · rw [lo _ (by omega) (by omega) (by omega)]; have := hIe j hj; omega
  · rw [lo _ (by omega) (by omega) (by omega)]; have := hIm j hj; omega
  · rw [lo _ (by omega) (by omega) (by omega)]; exact hIs j hj
  · rw [lo _ (by omega) (by omega) (by omega)]; exact hIl j hj
  · rw [lo _ (by omega) (by omega) (by omega)]; have := hIw j hj; omega
  · rw [lo _ (by omega) (by omega) (by omega)]; exact hIr j hj
  · rw [mo_ly_7] at hk2
    unfold mo_Mt
    rw [lo 4 (by omega) (by omega) (by omega), lo 5 (by omega) (by omega) (by omega), lo 6 (by omega) (by omega) (by omega)]
    by_cases hkn : k = mo_nk g
    · subst hkn
      obtain ⟨a0, a1, a2, a3, a4, a5, a6⟩ := mo_ly_n g o w t e v
      rw [a0, a1, a2, a3, a4, a5, a6]
      omega
    · have h9 := hIt k (by omega)
      unfold mo_Mt at h9
      rw [mo_ly_f (by omega) (by omega), mo_ly_f (by omega) (by omega), mo_ly_f (by omega) (by omega), mo_ly_f (by omega) (by omega), mo_ly_f (by omega) (by omega), mo_ly_f (by omega) (by omega), mo_ly_f (by omega) (by omega)]
      omega
  · rw [lo 2 (by omega) (by omega) (by omega), ← hIs2]
    exact mo_sum_congr fun j hj => lo _ (by omega) (by omega) (by omega)
  · rw [lo 3 (by omega) (by omega) (by omega), ← hIs3]
    exact mo_sum_congr fun j hj => lo _ (by omega) (by omega) (by omega)
  · rw [lo 4 (by omega) (by omega) (by omega)] at h1
    rw [lo _ (by omega) (by omega) (by omega)]
    exact hIz a b h1 h2 h3
/-- the order that is served next, and what it is owed -/
def mo_bst (g : Nat → Int) (w : Nat) : Nat → Int × Int
  | 0 => (-1, 0)
  | o + 1 => if (mo_bst g w o).2 < mo_ow g o w ∧ mo_sf g w o ≠ -1 then ((o : Int), mo_ow g o w) else mo_bst g w o
def mo_bo (g : Nat → Int) (w : Nat) : Int := (mo_bst g w (g 4).toNat).1
def mo_l1 (g : Nat → Int) (w : Nat) : Nat → Int := mo_ly g (mo_bo g w) w (mo_sf g w (mo_bo g w).toNat) (mo_ef g w (mo_sf g w (mo_bo g w).toNat).toNat (mo_en5 g)) (mo_vf g w (mo_bo g w).toNat (mo_sf g w (mo_bo g w).toNat).toNat)
def mo_pl (w : Nat) : Nat → (Nat → Int) → Int × (Nat → Int)
  | 0, g => (0, g)
  | n + 1, g => if mo_bo g w = -1 then (0, g) else ((mo_pl w n (mo_l1 g w)).1 + 1, (mo_pl w n (mo_l1 g w)).2)
theorem mo_ef_b (g : Nat → Int) (w : Int) (t : Nat) : ∀ n, -1 ≤ mo_ef g w t n ∧ mo_ef g w t n < n
  | 0 => by simp [mo_ef]
  | n + 1 => by
    have h := mo_ef_b g w t n
    rw [mo_ef]
    split <;> omega
theorem mo_ff_b (p : Nat → Bool) (n : Nat) : -1 ≤ mo_ff p n ∧ mo_ff p n < n ∨ (n = 0 ∧ mo_ff p n = -1) := by
  rcases mo_ff_cases p n with ⟨h1, h2⟩ | ⟨i, h1, h2, h3, h4⟩
  · rw [h1]; omega
  · rw [h2]; omega
theorem mo_bst_b (g : Nat → Int) (w : Nat) : ∀ n, ((mo_bst g w n).1 = -1 ∧ (mo_bst g w n).2 = 0) ∨ (0 ≤ (mo_bst g w n).1 ∧ (mo_bst g w n).1 < n ∧ mo_sf g w (mo_bst g w n).1.toNat ≠ -1 ∧ (mo_bst g w n).2 = mo_ow g (mo_bst g w n).1.toNat w)
  | 0 => by simp [mo_bst]
  | n + 1 => by
    have h := mo_bst_b g w n
    rw [mo_bst]
    split
    · rename_i hc
      refine Or.inr ⟨by simp, by simp only; omega, by simpa using hc.2, by simp⟩
    · rcases h with h | h
      · exact Or.inl h
      · exact Or.inr ⟨h.1, by have := h.2.1; omega, h.2.2.1, h.2.2.2⟩
/-- what a choice says of itself -/
theorem mo_ch {g : Nat → Int} {w : Int} {o : Nat} (h : mo_sf g w o ≠ -1) (h6 : 0 ≤ g 6) : (0 ≤ mo_sf g w o ∧ mo_sf g w o ≤ 27) ∧ g 0 ≤ w ∧ g 7 ≠ 60 ∧ (0 ≤ mo_ef g w (mo_sf g w o).toNat (mo_en5 g) ∧ mo_ef g w (mo_sf g w o).toNat (mo_en5 g) < (mo_en5 g : Nat)) ∧ (0 ≤ mo_vf g w o (mo_sf g w o).toNat ∧ mo_vf g w o (mo_sf g w o).toNat < g 6) ∧ mo_hb (mo_dys g w (mo_nk g) o) (((mo_sf g w o).toNat / 4 : Nat) : Int) = false := by
  have h1 : ¬ (w < g 0 ∨ g 7 = 60) := fun q => h (by unfold mo_sf; rw [if_pos q])
  have h2 : mo_sf g w o = mo_ff (mo_sp g w o) 28 := by unfold mo_sf; rw [if_neg h1]
  rcases mo_ff_cases (mo_sp g w o) 28 with ⟨e1, e2⟩ | ⟨i, e1, e2, e3, e4⟩
  · exact absurd (h2.trans e1) h
  · rw [h2, e2]
    unfold mo_sp at e3
    simp only [Bool.and_eq_true, decide_eq_true_eq, Bool.not_eq_true', ne_eq] at e3
    have b1 := mo_ef_b g w i (mo_en5 g)
    have b2 := mo_ff_b (mo_vp g w o i) (g 6).toNat
    rw [show mo_ff (mo_vp g w o i) (g 6).toNat = mo_vf g w o i from rfl] at b2
    rw [show ((i : Nat) : Int).toNat = i by omega]
    refine ⟨by omega, by omega, by omega, by omega, by omega, e3.1⟩
theorem mo_p1 {g : Nat → Int} {B : Int} {w : Nat} (hI : mo_Iv g B) (hw : w < 20) (h : mo_bo g w ≠ -1) : mo_Iv (mo_l1 g w) (B + 1) ∧ g 7 < 60 ∧ (mo_l1 g w) 7 = g 7 + 1 ∧ (0 ≤ mo_bo g w ∧ mo_bo g w < g 4) ∧ mo_sf g w (mo_bo g w).toNat ≠ -1 := by
  obtain ⟨hI0, hI1, hI2, hI3, hI4, hI5, hI6, hI7, -⟩ := id hI
  rcases mo_bst_b g w (g 4).toNat with h1 | h1
  · exact absurd h1.1 h
  · rw [show (mo_bst g w (g 4).toNat).1 = mo_bo g w from rfl] at h1
    obtain ⟨c1, c2, c3, c4, c5, c6⟩ := mo_ch h1.2.2.1 hI6.1
    have hE : ((mo_en5 g : Nat) : Int) = g 5 := by unfold mo_en5; omega
    refine ⟨mo_Iv_ly hI (by omega) (by omega) c1 (by omega) c5 (by omega), by omega, rfl, by omega, h1.2.2.1⟩
theorem mo_pl_Iv {w : Nat} (hw : w < 20) : ∀ (n : Nat) {g : Nat → Int} {B : Int}, mo_Iv g B → mo_Iv (mo_pl w n g).2 (B + n) ∧ 0 ≤ (mo_pl w n g).1 ∧ (mo_pl w n g).1 ≤ n
  | 0, g, B, h => ⟨by simpa [mo_pl] using h, by simp [mo_pl]⟩
  | n + 1, g, B, h => by
    rw [mo_pl]
    split
    · exact ⟨mo_Iv_mono h (by omega), by simp; omega⟩
    · rename_i hb
      obtain ⟨p1, -⟩ := mo_p1 h hw hb
      obtain ⟨q1, q2⟩ := mo_pl_Iv hw n p1
      exact ⟨mo_Iv_mono q1 (by omega), by simp only; omega⟩
