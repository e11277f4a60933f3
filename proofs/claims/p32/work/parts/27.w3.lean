theorem mo_gdt_b (D : Nat → Int) : ∀ n, ((mo_gdt D n).1 = -1 ∧ (mo_gdt D n).2 = 0 ∧ ∀ j, j < n → D j ≤ 0) ∨ ∃ o : Nat, o < n ∧ (mo_gdt D n).1 = o ∧ (mo_gdt D n).2 = D o ∧ 0 < D o ∧ (∀ j, j < o → D j < D o) ∧ ∀ j, j < n → D j ≤ D o
  | 0 => Or.inl ⟨rfl, rfl, fun j hj => absurd hj (by omega)⟩
  | n + 1 => by
    have es : mo_gdt D (n + 1) = if (mo_gdt D n).2 < D n then ((n : Int), D n) else mo_gdt D n := rfl
    rcases mo_gdt_b D n with ⟨h1, h2, h3⟩ | ⟨o, h1, h2, h3, h4, h5, h6⟩
    · rw [es]
      by_cases c : (mo_gdt D n).2 < D n
      · rw [if_pos c]
        refine Or.inr ⟨n, by omega, rfl, rfl, by omega, fun j hj => ?_, fun j hj => ?_⟩
        · have := h3 j hj; omega
        · by_cases q : j = n
          · rw [q]; omega
          · have := h3 j (by omega); omega
      · rw [if_neg c]
        refine Or.inl ⟨h1, h2, fun j hj => ?_⟩
        by_cases q : j = n
        · rw [q]; omega
        · exact h3 j (by omega)
    · rw [es]
      by_cases c : (mo_gdt D n).2 < D n
      · rw [if_pos c]
        refine Or.inr ⟨n, by omega, rfl, rfl, by omega, fun j hj => ?_, fun j hj => ?_⟩
        · have := h6 j hj; omega
        · by_cases q : j = n
          · rw [q]; omega
          · have := h6 j (by omega); omega
      · rw [if_neg c]
        refine Or.inr ⟨o, by omega, h2, h3, h4, h5, fun j hj => ?_⟩
        by_cases q : j = n
        · rw [q]; omega
        · exact h6 j (by omega)
theorem mo_bst_gd (g : Nat → Int) (w : Nat) : ∀ n, mo_bst g w n = mo_gdt (fun o => if mo_sf g w o ≠ -1 then mo_ow g o w else 0) n
  | 0 => rfl
  | n + 1 => by
    rw [mo_bst, mo_gdt, mo_bst_gd g w n]
    by_cases c : mo_sf g w n ≠ -1
    · simp only [if_pos c]
      by_cases e : (mo_gdt (fun o => if mo_sf g w o ≠ -1 then mo_ow g o w else 0) n).2 < mo_ow g n w
      · rw [if_pos ⟨e, c⟩, if_pos e]
      · rw [if_neg (fun q => e q.1), if_neg e]
    · simp only [if_neg c]
      rw [if_neg (fun q => c q.2)]
      rcases mo_gdt_b (fun o => if mo_sf g w o ≠ -1 then mo_ow g o w else 0) n with ⟨h1, h2, h3⟩ | ⟨o, h1, h2, h3, h4, h5, h6⟩
      · rw [if_neg (by omega)]
      · rw [if_neg (by omega)]
theorem mo_bo_at {g : Nat → Int} {w o : Nat} (h4 : (o : Int) < g 4) (hs : mo_sf g w o ≠ -1) (hp : 0 < mo_ow g o w) (h1 : ∀ j, j < o → mo_sf g w j ≠ -1 → mo_ow g j w < mo_ow g o w) (h2 : ∀ j : Nat, (j : Int) < g 4 → mo_sf g w j ≠ -1 → mo_ow g j w ≤ mo_ow g o w) : mo_bo g w = o := by
  unfold mo_bo
  rw [mo_bst_gd]
  rcases mo_gdt_b (fun o => if mo_sf g w o ≠ -1 then mo_ow g o w else 0) (g 4).toNat with ⟨a1, a2, a3⟩ | ⟨q, a1, a2, a3, a4, a5, a6⟩
  · have := a3 o (by omega)
    simp only [if_pos hs] at this
    omega
  · rw [a2]
    have b1 := a6 o (by omega)
    simp only [if_pos hs] at b1
    by_cases c : mo_sf g w q ≠ -1
    · simp only [if_pos c] at a4 b1
      have b2 := h2 q (by omega) c
      by_cases d1 : q < o
      · have := h1 q d1 c; omega
      · by_cases d2 : o < q
        · have := a5 o d2
          simp only [if_pos hs, if_pos c] at this
          omega
        · omega
    · simp only [if_neg c] at a4
      omega
theorem mo_bo_none {g : Nat → Int} {w : Nat} (h : ∀ j : Nat, (j : Int) < g 4 → mo_sf g w j ≠ -1 → mo_ow g j w ≤ 0) : mo_bo g w = -1 := by
  unfold mo_bo
  rw [mo_bst_gd]
  rcases mo_gdt_b (fun o => if mo_sf g w o ≠ -1 then mo_ow g o w else 0) (g 4).toNat with ⟨a1, a2, a3⟩ | ⟨q, a1, a2, a3, a4, a5, a6⟩
  · exact a1
  · by_cases c : mo_sf g w q ≠ -1
    · simp only [if_pos c] at a4
      have := h q (by omega) c
      omega
    · simp only [if_neg c] at a4
      omega
theorem mo_pl_st {g : Nat → Int} {w : Nat} (h : mo_bo g w = -1) : ∀ n, mo_pl w n g = (0, g)
  | 0 => rfl
  | n + 1 => by rw [mo_pl, if_pos h]
/-- one more meeting in the week frees nothing -/
theorem mo_sf_up {g : Nat → Int} {w : Nat} {o1 s e v : Int} {o : Nat} (h7 : 0 ≤ g 7) (h6 : g 6 ≤ 5) (h5 : g 5 ≤ 6) (ho : o < 8) (hw : g 0 ≤ (w : Int)) (hf : g 7 < 60) (h : mo_sf g w o = -1) : mo_sf (mo_ly g o1 w s e v) w o = -1 := by
  have hn : ((mo_nk g : Nat) : Int) = g 7 := by unfold mo_nk; omega
  have hk : mo_nk (mo_ly g o1 w s e v) = mo_nk g + 1 := by show ((mo_ly g o1 w s e v) 7).toNat = _; rw [mo_ly_7]; omega
  have lo : ∀ j, j ≠ 1 → j ≠ 7 → j < 215 → mo_ly g o1 w s e v j = g j := fun j a b c => mo_ly_o a b (by omega)
  have fl : ∀ k j, k < mo_nk g → j < 7 → mo_fld (mo_ly g o1 w s e v) k j = mo_fld g k j := fun k j a b => mo_ly_f a b
  have st : ∀ k, k < mo_nk g → mo_std (mo_ly g o1 w s e v) w k = mo_std g w k := fun k a => by unfold mo_std; rw [fl k 2 a (by omega), fl k 6 a (by omega)]
  have dy : ∀ (a k : Nat), k < 32 → mo_hb (mo_dys (mo_ly g o1 w s e v) w (mo_nk g + 1) a) k = false → mo_hb (mo_dys g w (mo_nk g) a) k = false := fun a k hk q => by
    have e1 : mo_dys (mo_ly g o1 w s e v) w (mo_nk g) a = mo_dys g w (mo_nk g) a := mo_msk_congr fun j hj => ⟨by rw [st j hj, fl j 1 hj (by omega)], by rw [fl j 3 hj (by omega)]⟩
    rw [← e1]
    unfold mo_dys at q ⊢
    rw [mo_msk] at q
    split at q
    · rw [mo_hb_or _ _ hk, Bool.or_eq_false_iff] at q
      exact q.1
    · exact q
  have bs : ∀ (a k : Nat), k < 32 → mo_hb (mo_bsy (mo_ly g o1 w s e v) w (mo_nk g + 1) a) k = false → mo_hb (mo_bsy g w (mo_nk g) a) k = false := fun a k hk q => by
    have e1 : mo_bsy (mo_ly g o1 w s e v) w (mo_nk g) a = mo_bsy g w (mo_nk g) a := mo_msk_congr fun j hj => ⟨by rw [st j hj, fl j 4 hj (by omega)], by rw [fl j 3 hj (by omega)]⟩
    rw [← e1]
    unfold mo_bsy at q ⊢
    rw [mo_msk] at q
    split at q
    · rw [mo_hb_or _ _ hk, Bool.or_eq_false_iff] at q
      exact q.1
    · exact q
  have mn : ∀ a : Nat, mo_mny g w (mo_nk g) a ≤ mo_mny (mo_ly g o1 w s e v) w (mo_nk g + 1) a := fun a => by
    have e1 : mo_mny (mo_ly g o1 w s e v) w (mo_nk g) a = mo_mny g w (mo_nk g) a := mo_cnt_congr fun j hj => by rw [st j hj, fl j 4 hj (by omega)]
    rw [← e1]
    unfold mo_mny
    rw [mo_cnt]
    split <;> omega
  have tk : ∀ a : Nat, mo_tkn g w (mo_nk g) a ≤ mo_tkn (mo_ly g o1 w s e v) w (mo_nk g + 1) a := fun a => by
    have e1 : mo_tkn (mo_ly g o1 w s e v) w (mo_nk g) a = mo_tkn g w (mo_nk g) a := mo_cnt_congr fun j hj => by rw [st j hj, fl j 5 hj (by omega), fl j 3 hj (by omega)]
    rw [← e1]
    unfold mo_tkn
    rw [mo_cnt]
    split <;> omega
  have vp : ∀ t a : Nat, a < 5 → t < 28 → mo_vp (mo_ly g o1 w s e v) w o t a = true → mo_vp g w o t a = true := fun t a ha ht q => by
    unfold mo_vp at q ⊢
    rw [Bool.and_eq_true, decide_eq_true_eq] at q ⊢
    rw [hk, lo _ (by omega) (by omega) (by omega)] at q
    refine ⟨q.1, ?_⟩
    have q2 := q.2
    have t2 := tk (28 * a + t)
    unfold mo_fre at q2 ⊢
    rw [lo _ (by omega) (by omega) (by omega)] at q2
    omega
  have we : ∀ t a : Nat, a < 6 → t < 28 → mo_we (mo_ly g o1 w s e v) w a t = 0 → mo_we g w a t = 0 := fun t a ha ht q => by
    rw [mo_we_0] at q ⊢
    rw [hk, lo _ (by omega) (by omega) (by omega), lo _ (by omega) (by omega) (by omega)] at q
    have := mn a
    exact ⟨q.1, bs a t (by omega) q.2.1, by omega⟩
  have ef0 : ∀ (G : Nat → Int) (t n : Nat), mo_ef G w t n = -1 ↔ ∀ a, a < n → mo_we G w a t ≠ 0 := fun G t n => by
    induction n with
    | zero => exact ⟨fun _ a ha => absurd ha (by omega), fun _ => rfl⟩
    | succ n ih =>
      rw [mo_ef]
      constructor
      · intro q a ha
        split at q
        · omega
        · rename_i c
          by_cases z : a = n
          · intro z2
            rw [z] at z2
            exact c ⟨z2, Or.inl q⟩
          · exact ih.mp q a (by omega)
      · intro q
        rw [if_neg (fun c => q n (by omega) c.1)]
        exact ih.mpr fun a ha => q a (by omega)
  have vf0 : ∀ (G : Nat → Int) (t : Nat), mo_vf G w o t = -1 ↔ ∀ a, a < (G 6).toNat → mo_vp G w o t a = false := fun G t => by
    unfold mo_vf
    rcases mo_ff_cases (mo_vp G w o t) (G 6).toNat with ⟨e1, e2⟩ | ⟨i, e1, e2, e3, e4⟩
    · exact ⟨fun _ => e2, fun _ => e1⟩
    · constructor
      · intro q; rw [e2] at q; omega
      · intro q; rw [q i e1] at e3; exact absurd e3 (by decide)
  unfold mo_sf at h ⊢
  rw [if_neg (by omega)] at h
  split
  · rfl
  · refine mo_ff_none fun t ht => ?_
    have h1 : mo_sp g w o t = false := by
      rcases mo_ff_cases (mo_sp g w o) 28 with ⟨e1, e2⟩ | ⟨i, e1, e2, e3, e4⟩
      · exact e2 t ht
      · rw [e2] at h; omega
    refine Bool.eq_false_iff.mpr fun q => ?_
    unfold mo_sp at h1 q
    simp only [Bool.and_eq_true, decide_eq_true_eq, Bool.not_eq_true', ne_eq] at q
    obtain ⟨q1, q2, q3⟩ := q
    rw [hk] at q1
    have r1 := dy o (t / 4) (by omega) q1
    have r2 : mo_vf g w o t ≠ -1 := fun z => q2 ((vf0 _ _).mpr fun a ha => by
      rw [lo 6 (by omega) (by omega) (by omega)] at ha
      exact Bool.eq_false_iff.mpr fun y => by
        have := (vf0 _ _).mp z a ha
        rw [vp t a (by omega) ht y] at this
        exact absurd this (by decide))
    have r3 : mo_ef g w t (mo_en5 g) ≠ -1 := fun z => q3 ((ef0 _ _ _).mpr fun a ha y => by
      unfold mo_en5 at ha
      rw [lo 5 (by omega) (by omega) (by omega)] at ha
      exact (ef0 _ _ _).mp z a ha (we t a (by omega) ht y))
    rw [r1, decide_eq_true r2, decide_eq_true r3] at h1
    exact absurd h1 (by decide)
theorem mo_ow_ly {g : Nat → Int} {w o : Nat} {o1 s e v : Int} (h7 : 0 ≤ g 7) (ho : o < 8) (hw : w < 20) (hp : 0 < mo_ow g o w ∨ (o : Int) ≠ o1) : mo_ow (mo_ly g o1 w s e v) o w = mo_ow g o w - (if (o : Int) = o1 then 1 else 0) := by
  have hk : mo_nk (mo_ly g o1 w s e v) = mo_nk g + 1 := by show ((mo_ly g o1 w s e v) 7).toNat = _; rw [mo_ly_7]; unfold mo_nk; omega
  have lo : ∀ j, j ≠ 1 → j ≠ 7 → j < 215 → mo_ly g o1 w s e v j = g j := fun j a b c => mo_ly_o a b (by omega)
  obtain ⟨l0, l1, l2, l3, l4, l5, l6⟩ := mo_ly_n g o1 w s e v
  have hh : mo_hsum (mo_ly g o1 w s e v) o (w + 1) = mo_hsum g o (w + 1) := mo_sum_congr fun j hj => lo _ (by omega) (by omega) (by omega)
  have hc : mo_cnt (mo_plb (mo_ly g o1 w s e v) o w) (mo_nk g) = mo_cnt (mo_plb g o w) (mo_nk g) := mo_cnt_congr fun k hk => by unfold mo_plb; rw [mo_ly_f hk (by omega), mo_ly_f hk (by omega), mo_ly_f hk (by omega)]
  have hl : (if mo_plb (mo_ly g o1 w s e v) o w (mo_nk g) = true then (1 : Int) else 0) = if (o : Int) = o1 then 1 else 0 := by
    have e : (mo_plb (mo_ly g o1 w s e v) o w (mo_nk g) = true) ↔ (o : Int) = o1 := by
      unfold mo_plb
      rw [decide_eq_true_eq, l1, l6, l2]
      exact ⟨fun q => q.1.symm, fun q => ⟨q.symm, rfl, Int.le_refl _⟩⟩
    by_cases c : (o : Int) = o1
    · rw [if_pos c, if_pos (e.mpr c)]
    · rw [if_neg c, if_neg (fun q => c (e.mp q))]
  unfold mo_ow at hp ⊢
  rw [hk, mo_cnt, hc, hh, lo _ (by omega) (by omega) (by omega), hl]
  generalize mo_cnt (mo_plb g o w) (mo_nk g) = C at hp ⊢
  generalize mo_hsum g o (w + 1) = H at hp ⊢
  by_cases c : (o : Int) = o1
  · have hp2 := hp.resolve_right (fun q => q c)
    simp only [if_pos c]
    split at hp2
    · omega
    · rename_i z
      rw [if_neg z]
      split <;> omega
  · simp only [if_neg c]
    rw [Int.add_zero, Int.sub_zero]
