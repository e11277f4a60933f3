/-! the class's state: how its cells hold what the numbers say -/
def mo_SR (M : mo_M) (h : Nat) (g : Nat → Int) : Prop := M h 0 = g 4 ∧ M h 1 = g 5 ∧ M h 2 = g 6 ∧ M h 3 = g 7 ∧ M h 4 = g 0 ∧ M h 5 = g 1 ∧ (∀ j, j < 160 → M (h + 2) j = g (8 + j)) ∧ (∀ j, j < 8 → M (h + 4) j = g (168 + j)) ∧ (∀ j, j < 8 → M (h + 6) j = g (176 + j)) ∧ (∀ j, j < 8 → M (h + 8) j = g (184 + j)) ∧ (∀ j, j < 6 → M (h + 10) j = g (192 + j)) ∧ (∀ j, j < 6 → M (h + 12) j = g (198 + j)) ∧ (∀ j, j < 6 → M (h + 14) j = g (204 + j)) ∧ (∀ j, j < 5 → M (h + 16) j = g (210 + j)) ∧ (∀ k j : Nat, (k : Int) < g 7 → j < 7 → M (h + 18) (7 * k + j) = mo_fld g k ((j + 1) % 7))
abbrev mo_out (h a : Nat) : Prop := a < h ∨ h + 18 < a
theorem mo_SR_fr {M M' : mo_M} {h : Nat} {g : Nat → Int} (hS : mo_SR M h g) (hf : ∀ a, h ≤ a → a ≤ h + 18 → M' a = M a) : mo_SR M' h g := by
  unfold mo_SR
  rw [hf h (by omega) (by omega), hf (h + 2) (by omega) (by omega), hf (h + 4) (by omega) (by omega), hf (h + 6) (by omega) (by omega), hf (h + 8) (by omega) (by omega), hf (h + 10) (by omega) (by omega), hf (h + 12) (by omega) (by omega), hf (h + 14) (by omega) (by omega), hf (h + 16) (by omega) (by omega), hf (h + 18) (by omega) (by omega)]
  exact hS
theorem mo_Iv_ag {g g' : Nat → Int} {B : Int} (h : mo_Iv g B) (ha : mo_ag g' g) : mo_Iv g' B := by
  obtain ⟨hI0, hI1, hI2, hI3, hI4, hI5, hI6, hI7, hIh, hIa, hIe, hIm, hIs, hIl, hIw, hIr, hIt, hIs2, hIs3, hIz⟩ := h
  have lo : ∀ j, j < 640 → g' j = g j := ha
  refine ⟨?_, ?_, ?_, ?_, ?_, ?_, ?_, ?_, fun j hj => ?_, fun j hj => ?_, fun j hj => ?_, fun j hj => ?_, fun j hj => ?_, fun j hj => ?_, fun j hj => ?_, fun j hj => ?_, fun k hk2 => ?_, ?_, ?_, fun a b h1 h2 h3 => ?_⟩
  · rw [lo 0 (by omega)]; exact hI0
  · rw [lo 1 (by omega)]; exact hI1
  · rw [lo 2 (by omega)]; exact hI2
  · rw [lo 3 (by omega)]; exact hI3
  · rw [lo 4 (by omega)]; exact hI4
  · rw [lo 5 (by omega)]; exact hI5
  · rw [lo 6 (by omega)]; exact hI6
  · rw [lo 7 (by omega)]; exact hI7
  · rw [lo _ (by omega)]; exact hIh j hj
  · rw [lo _ (by omega)]; exact hIa j hj
  · rw [lo _ (by omega)]; exact hIe j hj
  · rw [lo _ (by omega)]; exact hIm j hj
  · rw [lo _ (by omega)]; exact hIs j hj
  · rw [lo _ (by omega)]; exact hIl j hj
  · rw [lo _ (by omega)]; exact hIw j hj
  · rw [lo _ (by omega)]; exact hIr j hj
  · rw [lo 7 (by omega)] at hk2
    have h9 := hIt k hk2
    unfold mo_Mt mo_fld at h9 ⊢
    rw [lo 4 (by omega), lo 5 (by omega), lo 6 (by omega), lo _ (by omega), lo _ (by omega), lo _ (by omega), lo _ (by omega), lo _ (by omega), lo _ (by omega), lo _ (by omega)]
    exact h9
  · rw [lo 2 (by omega), ← hIs2]
    exact mo_sum_congr fun j hj => lo _ (by omega)
  · rw [lo 3 (by omega), ← hIs3]
    exact mo_sum_congr fun j hj => lo _ (by omega)
  · rw [lo 4 (by omega)] at h1
    rw [lo _ (by omega)]
    exact hIz a b h1 h2 h3
set_option maxHeartbeats 4000000 in
set_option maxRecDepth 100000 in
theorem ct2_hasOrder {lf : Launch} {ρf : mo_E} {G : mo_G} {M : mo_M} {t : Nat} {h : Nat} (hs : mo_St G h) {a : Int} (ha : mo_In a) (hf : mo_In (M h 0)) : mo_Ct lf ρf yX2_hasOrder cX2_hasOrder 2 (some .boolean) 0 0 0 [.ref h, mo_iv a] G M t (mo_pi G t (fun x M' => ((x = 1 ∧ (0 ≤ a ∧ a < M h 0)) ∨ (x = 0 ∧ ¬ (0 ≤ a ∧ a < M h 0))) ∧ M = M')) := by
  refine mo_ofW (ls0 := [some (.ref h), some (mo_iv a)]) (by decide) rfl (Nat.le_of_ble_eq_true rfl) ?_
  intro κ X Y
  have X : mo_Cx κ lf ρf cX2_hasOrder 2 RX2 (some .boolean) 0 := X
  refine mo_il1 (pc := 0) X dX2_hasOrder_0 ?_
  refine mo_if_lt (pc := 1) (tgt := 16) X dX2_hasOrder_1 (by decide) ?_ (fun c_1 => ?_) (fun c_1 => ?_)
  · omega
  · skip
    refine mo_iconst (pc := 16) X dX2_hasOrder_16 ?_
    refine mo_zret (pc := 17) X Y rfl ?_ dX2_hasOrder_17 ⟨rfl, rfl, _, rfl, ?_⟩
    · omega
    refine ⟨?_, rfl⟩
    omega
  · skip
    refine mo_il1 (pc := 4) X dX2_hasOrder_4 ?_
    refine mo_al0 (pc := 5) X dX2_hasOrder_5 ?_
    refine mo_f_X2_44 (pc := 6) X dX2_hasOrder_6 (mo_St_o hs) ?_
    refine mo_ic_ge (pc := 9) (tgt := 16) X dX2_hasOrder_9 (by decide) ?_ ?_ (fun c_9 => ?_) (fun c_9 => ?_)
    · omega
    · omega
    · skip
      refine mo_iconst (pc := 16) X dX2_hasOrder_16 ?_
      refine mo_zret (pc := 17) X Y rfl ?_ dX2_hasOrder_17 ⟨rfl, rfl, _, rfl, ?_⟩
      · omega
      refine ⟨?_, rfl⟩
      omega
    · skip
      refine mo_iconst (pc := 12) X dX2_hasOrder_12 ?_
      refine mo_goto (pc := 13) (tgt := 17) X dX2_hasOrder_13 (by decide) ?_
      refine mo_zret (pc := 17) X Y rfl ?_ dX2_hasOrder_17 ⟨rfl, rfl, _, rfl, ?_⟩
      · omega
      refine ⟨?_, rfl⟩
      omega
set_option maxHeartbeats 4000000 in
set_option maxRecDepth 100000 in
theorem ct2_hasEscort {lf : Launch} {ρf : mo_E} {G : mo_G} {M : mo_M} {t : Nat} {h : Nat} (hs : mo_St G h) {a : Int} (ha : mo_In a) (hf : mo_In (M h 1)) : mo_Ct lf ρf yX2_hasEscort cX2_hasEscort 2 (some .boolean) 0 0 0 [.ref h, mo_iv a] G M t (mo_pi G t (fun x M' => ((x = 1 ∧ (0 ≤ a ∧ a < M h 1)) ∨ (x = 0 ∧ ¬ (0 ≤ a ∧ a < M h 1))) ∧ M = M')) := by
  refine mo_ofW (ls0 := [some (.ref h), some (mo_iv a)]) (by decide) rfl (Nat.le_of_ble_eq_true rfl) ?_
  intro κ X Y
  have X : mo_Cx κ lf ρf cX2_hasEscort 2 RX2 (some .boolean) 0 := X
  refine mo_il1 (pc := 0) X dX2_hasEscort_0 ?_
  refine mo_if_lt (pc := 1) (tgt := 16) X dX2_hasEscort_1 (by decide) ?_ (fun c_1 => ?_) (fun c_1 => ?_)
  · omega
  · skip
    refine mo_iconst (pc := 16) X dX2_hasEscort_16 ?_
    refine mo_zret (pc := 17) X Y rfl ?_ dX2_hasEscort_17 ⟨rfl, rfl, _, rfl, ?_⟩
    · omega
    refine ⟨?_, rfl⟩
    omega
  · skip
    refine mo_il1 (pc := 4) X dX2_hasEscort_4 ?_
    refine mo_al0 (pc := 5) X dX2_hasEscort_5 ?_
    refine mo_f_X2_48 (pc := 6) X dX2_hasEscort_6 (mo_St_o hs) ?_
    refine mo_ic_ge (pc := 9) (tgt := 16) X dX2_hasEscort_9 (by decide) ?_ ?_ (fun c_9 => ?_) (fun c_9 => ?_)
    · omega
    · omega
    · skip
      refine mo_iconst (pc := 16) X dX2_hasEscort_16 ?_
      refine mo_zret (pc := 17) X Y rfl ?_ dX2_hasEscort_17 ⟨rfl, rfl, _, rfl, ?_⟩
      · omega
      refine ⟨?_, rfl⟩
      omega
    · skip
      refine mo_iconst (pc := 12) X dX2_hasEscort_12 ?_
      refine mo_goto (pc := 13) (tgt := 17) X dX2_hasEscort_13 (by decide) ?_
      refine mo_zret (pc := 17) X Y rfl ?_ dX2_hasEscort_17 ⟨rfl, rfl, _, rfl, ?_⟩
      · omega
      refine ⟨?_, rfl⟩
      omega
set_option maxHeartbeats 4000000 in
set_option maxRecDepth 100000 in
theorem ct2_hasVenue {lf : Launch} {ρf : mo_E} {G : mo_G} {M : mo_M} {t : Nat} {h : Nat} (hs : mo_St G h) {a : Int} (ha : mo_In a) (hf : mo_In (M h 2)) : mo_Ct lf ρf yX2_hasVenue cX2_hasVenue 2 (some .boolean) 0 0 0 [.ref h, mo_iv a] G M t (mo_pi G t (fun x M' => ((x = 1 ∧ (0 ≤ a ∧ a < M h 2)) ∨ (x = 0 ∧ ¬ (0 ≤ a ∧ a < M h 2))) ∧ M = M')) := by
  refine mo_ofW (ls0 := [some (.ref h), some (mo_iv a)]) (by decide) rfl (Nat.le_of_ble_eq_true rfl) ?_
  intro κ X Y
  have X : mo_Cx κ lf ρf cX2_hasVenue 2 RX2 (some .boolean) 0 := X
  refine mo_il1 (pc := 0) X dX2_hasVenue_0 ?_
  refine mo_if_lt (pc := 1) (tgt := 16) X dX2_hasVenue_1 (by decide) ?_ (fun c_1 => ?_) (fun c_1 => ?_)
  · omega
  · skip
    refine mo_iconst (pc := 16) X dX2_hasVenue_16 ?_
    refine mo_zret (pc := 17) X Y rfl ?_ dX2_hasVenue_17 ⟨rfl, rfl, _, rfl, ?_⟩
    · omega
    refine ⟨?_, rfl⟩
    omega
  · skip
    refine mo_il1 (pc := 4) X dX2_hasVenue_4 ?_
    refine mo_al0 (pc := 5) X dX2_hasVenue_5 ?_
    refine mo_f_X2_51 (pc := 6) X dX2_hasVenue_6 (mo_St_o hs) ?_
    refine mo_ic_ge (pc := 9) (tgt := 16) X dX2_hasVenue_9 (by decide) ?_ ?_ (fun c_9 => ?_) (fun c_9 => ?_)
    · omega
    · omega
    · skip
      refine mo_iconst (pc := 16) X dX2_hasVenue_16 ?_
      refine mo_zret (pc := 17) X Y rfl ?_ dX2_hasVenue_17 ⟨rfl, rfl, _, rfl, ?_⟩
      · omega
      refine ⟨?_, rfl⟩
      omega
    · skip
      refine mo_iconst (pc := 12) X dX2_hasVenue_12 ?_
      refine mo_goto (pc := 13) (tgt := 17) X dX2_hasVenue_13 (by decide) ?_
      refine mo_zret (pc := 17) X Y rfl ?_ dX2_hasVenue_17 ⟨rfl, rfl, _, rfl, ?_⟩
      · omega
      refine ⟨?_, rfl⟩
      omega
set_option maxHeartbeats 4000000 in
set_option maxRecDepth 100000 in
theorem ct2_hasAllVenues {lf : Launch} {ρf : mo_E} {G : mo_G} {M : mo_M} {t : Nat} {h : Nat} (hs : mo_St G h) {a : Int} (ha : mo_In a) (hf : 0 ≤ M h 2 ∧ M h 2 ≤ 5) : mo_Ct lf ρf yX2_hasAllVenues cX2_hasAllVenues 2 (some .boolean) 0 0 0 [.ref h, mo_iv a] G M t (mo_pi G t (fun x M' => ((x = 1 ∧ (0 ≤ a ∧ a < 2 ^ (M h 2).toNat)) ∨ (x = 0 ∧ ¬ (0 ≤ a ∧ a < 2 ^ (M h 2).toNat))) ∧ M = M')) := by
  refine mo_ofW (ls0 := [some (.ref h), some (mo_iv a)]) (by decide) rfl (Nat.le_of_ble_eq_true rfl) ?_
  intro κ X Y
  have X : mo_Cx κ lf ρf cX2_hasAllVenues 2 RX2 (some .boolean) 0 := X
  have hp := (mo_pow5 (M h 2).toNat (by omega)).2
  rw [show (((M h 2).toNat : Nat) : Int) = M h 2 by omega] at hp
  refine mo_il1 (pc := 0) X dX2_hasAllVenues_0 ?_
  refine mo_if_lt (pc := 1) (tgt := 18) X dX2_hasAllVenues_1 (by decide) ?_ (fun c_1 => ?_) (fun c_1 => ?_)
  · omega
  · skip
    refine mo_iconst (pc := 18) X dX2_hasAllVenues_18 ?_
    refine mo_zret (pc := 19) X Y rfl ?_ dX2_hasAllVenues_19 ⟨rfl, rfl, _, rfl, ?_⟩
    · omega
    refine ⟨?_, rfl⟩
    rw [← hp]
    omega
  · skip
    refine mo_il1 (pc := 4) X dX2_hasAllVenues_4 ?_
    refine mo_iconst (pc := 5) X dX2_hasAllVenues_5 ?_
    refine mo_al0 (pc := 6) X dX2_hasAllVenues_6 ?_
    refine mo_f_X2_51 (pc := 7) X dX2_hasAllVenues_7 (mo_St_o hs) ?_
    refine mo_ishl (pc := 10) X dX2_hasAllVenues_10 ?_
    refine mo_ic_ge (pc := 11) (tgt := 18) X dX2_hasAllVenues_11 (by decide) ?_ ?_ (fun c_11 => ?_) (fun c_11 => ?_)
    · omega
    · exact mo_shlIn _ _
    · skip
      refine mo_iconst (pc := 18) X dX2_hasAllVenues_18 ?_
      refine mo_zret (pc := 19) X Y rfl ?_ dX2_hasAllVenues_19 ⟨rfl, rfl, _, rfl, ?_⟩
      · omega
      refine ⟨?_, rfl⟩
      rw [← hp]
      omega
    · skip
      refine mo_iconst (pc := 14) X dX2_hasAllVenues_14 ?_
      refine mo_goto (pc := 15) (tgt := 19) X dX2_hasAllVenues_15 (by decide) ?_
      refine mo_zret (pc := 19) X Y rfl ?_ dX2_hasAllVenues_19 ⟨rfl, rfl, _, rfl, ?_⟩
      · omega
      refine ⟨?_, rfl⟩
      rw [← hp]
      omega
set_option maxHeartbeats 4000000 in
set_option maxRecDepth 100000 in
theorem ct2_isOver {lf : Launch} {ρf : mo_E} {G : mo_G} {M : mo_M} {t : Nat} {h : Nat} (hs : mo_St G h) {a : Int} (ha : mo_In a) (hf : mo_In (M h 4)) : mo_Ct lf ρf yX2_isOver cX2_isOver 2 (some .boolean) 0 0 0 [.ref h, mo_iv a] G M t (mo_pi G t (fun x M' => ((x = 1 ∧ (a < M h 4)) ∨ (x = 0 ∧ ¬ (a < M h 4))) ∧ M = M')) := by
  refine mo_ofW (ls0 := [some (.ref h), some (mo_iv a)]) (by decide) rfl (Nat.le_of_ble_eq_true rfl) ?_
  intro κ X Y
  have X : mo_Cx κ lf ρf cX2_isOver 2 RX2 (some .boolean) 0 := X
  refine mo_il1 (pc := 0) X dX2_isOver_0 ?_
  refine mo_al0 (pc := 1) X dX2_isOver_1 ?_
  refine mo_f_X2_57 (pc := 2) X dX2_isOver_2 (mo_St_o hs) ?_
  refine mo_ic_ge (pc := 5) (tgt := 12) X dX2_isOver_5 (by decide) ?_ ?_ (fun c_5 => ?_) (fun c_5 => ?_)
  · omega
  · omega
  · skip
    refine mo_iconst (pc := 12) X dX2_isOver_12 ?_
    refine mo_zret (pc := 13) X Y rfl ?_ dX2_isOver_13 ⟨rfl, rfl, _, rfl, ?_⟩
    · omega
    refine ⟨?_, rfl⟩
    omega
  · skip
    refine mo_iconst (pc := 8) X dX2_isOver_8 ?_
    refine mo_goto (pc := 9) (tgt := 13) X dX2_isOver_9 (by decide) ?_
    refine mo_zret (pc := 13) X Y rfl ?_ dX2_isOver_13 ⟨rfl, rfl, _, rfl, ?_⟩
    · omega
    refine ⟨?_, rfl⟩
    omega
set_option maxHeartbeats 4000000 in
set_option maxRecDepth 100000 in
theorem ct2_isLastWeek {lf : Launch} {ρf : mo_E} {G : mo_G} {M : mo_M} {t : Nat} {h : Nat} (hs : mo_St G h) (hf : mo_In (M h 4)) : mo_Ct lf ρf yX2_isLastWeek cX2_isLastWeek 1 (some .boolean) 0 0 0 [.ref h] G M t (mo_pi G t (fun x M' => ((x = 1 ∧ (19 ≤ M h 4)) ∨ (x = 0 ∧ ¬ (19 ≤ M h 4))) ∧ M = M')) := by
  refine mo_ofW (ls0 := [some (.ref h)]) (by decide) rfl (Nat.le_of_ble_eq_true rfl) ?_
  intro κ X Y
  have X : mo_Cx κ lf ρf cX2_isLastWeek 1 RX2 (some .boolean) 0 := X
  refine mo_al0 (pc := 0) X dX2_isLastWeek_0 ?_
  refine mo_f_X2_57 (pc := 1) X dX2_isLastWeek_1 (mo_St_o hs) ?_
  refine mo_bipush (pc := 4) X dX2_isLastWeek_4 (by decide) ?_
  refine mo_ic_lt (pc := 6) (tgt := 13) X dX2_isLastWeek_6 (by decide) ?_ ?_ (fun c_6 => ?_) (fun c_6 => ?_)
  · omega
  · omega
  · skip
    refine mo_iconst (pc := 13) X dX2_isLastWeek_13 ?_
    refine mo_zret (pc := 14) X Y rfl ?_ dX2_isLastWeek_14 ⟨rfl, rfl, _, rfl, ?_⟩
    · omega
    refine ⟨?_, rfl⟩
    omega
  · skip
    refine mo_iconst (pc := 9) X dX2_isLastWeek_9 ?_
    refine mo_goto (pc := 10) (tgt := 14) X dX2_isLastWeek_10 (by decide) ?_
    refine mo_zret (pc := 14) X Y rfl ?_ dX2_isLastWeek_14 ⟨rfl, rfl, _, rfl, ?_⟩
    · omega
    refine ⟨?_, rfl⟩
    omega
set_option maxHeartbeats 4000000 in
set_option maxRecDepth 100000 in
theorem ct2_isFull {lf : Launch} {ρf : mo_E} {G : mo_G} {M : mo_M} {t : Nat} {h : Nat} (hs : mo_St G h) (hf : mo_In (M h 3)) : mo_Ct lf ρf yX2_isFull cX2_isFull 1 (some .boolean) 0 0 0 [.ref h] G M t (mo_pi G t (fun x M' => ((x = 1 ∧ (60 ≤ M h 3)) ∨ (x = 0 ∧ ¬ (60 ≤ M h 3))) ∧ M = M')) := by
  refine mo_ofW (ls0 := [some (.ref h)]) (by decide) rfl (Nat.le_of_ble_eq_true rfl) ?_
  intro κ X Y
  have X : mo_Cx κ lf ρf cX2_isFull 1 RX2 (some .boolean) 0 := X
  refine mo_al0 (pc := 0) X dX2_isFull_0 ?_
  refine mo_f_X2_54 (pc := 1) X dX2_isFull_1 (mo_St_o hs) ?_
  refine mo_bipush (pc := 4) X dX2_isFull_4 (by decide) ?_
  refine mo_ic_lt (pc := 6) (tgt := 13) X dX2_isFull_6 (by decide) ?_ ?_ (fun c_6 => ?_) (fun c_6 => ?_)
  · omega
  · omega
  · skip
    refine mo_iconst (pc := 13) X dX2_isFull_13 ?_
    refine mo_zret (pc := 14) X Y rfl ?_ dX2_isFull_14 ⟨rfl, rfl, _, rfl, ?_⟩
    · omega
    refine ⟨?_, rfl⟩
    omega
  · skip
    refine mo_iconst (pc := 9) X dX2_isFull_9 ?_
    refine mo_goto (pc := 10) (tgt := 14) X dX2_isFull_10 (by decide) ?_
    refine mo_zret (pc := 14) X Y rfl ?_ dX2_isFull_14 ⟨rfl, rfl, _, rfl, ?_⟩
    · omega
    refine ⟨?_, rfl⟩
    omega
set_option maxHeartbeats 4000000 in
set_option maxRecDepth 100000 in
theorem ct2_hoursIn {lf : Launch} {ρf : mo_E} {G : mo_G} {M : mo_M} {t : Nat} {h : Nat} (hs : mo_St G h) {o w : Nat} (ho : o < 8) (hw : w < 20) : mo_Ct lf ρf yX2_hoursIn cX2_hoursIn 3 (some .int) 1 0 0 [.ref h, mo_iv o, mo_iv w] G M t (mo_pi G t (fun x M' => x = M (h + 2) (20 * o + w) ∧ M = M')) := by
  refine mo_ofW (ls0 := [some (.ref h), some (mo_iv o), some (mo_iv w)]) (by decide) rfl (Nat.le_of_ble_eq_true rfl) ?_
  intro κ X Y
  have X : mo_Cx κ lf ρf cX2_hoursIn 3 RX2 (some .int) 1 := X
  refine mo_al0 (pc := 0) X dX2_hoursIn_0 ?_
  refine mo_f_X2_14 (pc := 1) X dX2_hoursIn_1 (mo_St_o hs) (mo_St_p6 hs) ?_
  refine mo_il1 (pc := 4) X dX2_hoursIn_4 ?_
  refine mo_bipush (pc := 5) X dX2_hoursIn_5 (by decide) ?_
  refine mo_imul (pc := 7) X dX2_hoursIn_7 ?_
  refine mo_il2 (pc := 8) X dX2_hoursIn_8 ?_
  refine mo_iadd (pc := 9) X dX2_hoursIn_9 ?_
  refine mo_cVI (pc := 10) (As := [_]) X mo_k_X2_75 mo_y_yX1_get rfl dX2_hoursIn_10 (ct_get (a := h + 2) (j := 20 * o + w) (mo_St_r6 hs) rfl (by omega) (by omega) (by omega) (by omega)) (mo_St_r6 hs).1 rfl (by decide) (by decide) (Nat.le_of_ble_eq_true rfl) ?_
  rintro r_10 _ ⟨h_10, rfl⟩
  refine mo_iret (pc := 13) X Y rfl dX2_hoursIn_13 ⟨rfl, rfl, _, rfl, ?_⟩
  exact ⟨h_10, rfl⟩
set_option maxHeartbeats 4000000 in
set_option maxRecDepth 100000 in
theorem ct2_fact {lf : Launch} {ρf : mo_E} {G : mo_G} {M : mo_M} {t : Nat} {h : Nat} (hs : mo_St G h) {k j : Nat} (hk : 7 * k + j < 420) : mo_Ct lf ρf yX2_fact cX2_fact 3 (some .int) 1 0 0 [.ref h, mo_iv k, mo_iv j] G M t (mo_pi G t (fun x M' => x = M (h + 18) (7 * k + j) ∧ M = M')) := by
  refine mo_ofW (ls0 := [some (.ref h), some (mo_iv k), some (mo_iv j)]) (by decide) rfl (Nat.le_of_ble_eq_true rfl) ?_
  intro κ X Y
  have X : mo_Cx κ lf ρf cX2_fact 3 RX2 (some .int) 1 := X
  refine mo_al0 (pc := 0) X dX2_fact_0 ?_
  refine mo_f_X2_41 (pc := 1) X dX2_fact_1 (mo_St_o hs) (mo_St_p14 hs) ?_
  refine mo_il1 (pc := 4) X dX2_fact_4 ?_
  refine mo_bipush (pc := 5) X dX2_fact_5 (by decide) ?_
  refine mo_imul (pc := 7) X dX2_fact_7 ?_
  refine mo_il2 (pc := 8) X dX2_fact_8 ?_
  refine mo_iadd (pc := 9) X dX2_fact_9 ?_
  refine mo_cVI (pc := 10) (As := [_]) X mo_k_X2_75 mo_y_yX1_get rfl dX2_fact_10 (ct_get (a := h + 18) (j := 7 * k + j) (mo_St_r14 hs) rfl (by omega) (by omega) (by omega) (by omega)) (mo_St_r14 hs).1 rfl (by decide) (by decide) (Nat.le_of_ble_eq_true rfl) ?_
  rintro r_10 _ ⟨h_10, rfl⟩
  refine mo_iret (pc := 13) X Y rfl dX2_fact_13 ⟨rfl, rfl, _, rfl, ?_⟩
  exact ⟨h_10, rfl⟩
theorem ct2_fld {lf : Launch} {ρf : mo_E} {G : mo_G} {M : mo_M} {t : Nat} {h : Nat} (hs : mo_St G h) {g : Nat → Int} (hS : mo_SR M h g) {k j q : Nat} (hk : (k : Int) < g 7) (h7 : g 7 ≤ 60) (hj : j < 7) (hq : (j + 1) % 7 = q) : mo_Ct lf ρf yX2_fact cX2_fact 3 (some .int) 1 0 0 [.ref h, mo_iv k, mo_iv j] G M t (mo_pi G t (fun x M' => x = mo_fld g k q ∧ M = M')) := by
  have h1 := ct2_fact (lf := lf) (ρf := ρf) (G := G) (M := M) (t := t) (k := k) (j := j) hs (by omega)
  rw [hS.2.2.2.2.2.2.2.2.2.2.2.2.2.2 k j hk hj, hq] at h1
  exact h1
set_option maxHeartbeats 4000000 in
set_option maxRecDepth 100000 in
theorem ct2_takesPlaceIn {lf : Launch} {ρf : mo_E} {G : mo_G} {M : mo_M} {t : Nat} {h : Nat} (hs : mo_St G h) {g : Nat → Int} {B : Int} (hS : mo_SR M h g) (hI : mo_Iv g B) (hB : B ≤ 1000000000) {w : Int} {k : Nat} (hk : (k : Int) < g 7) (hw : mo_In w) : mo_Ct lf ρf yX2_takesPlaceIn cX2_takesPlaceIn 3 (some .boolean) 2 0 0 [.ref h, mo_iv k, mo_iv w] G M t (mo_pi G t (fun x M' => ((x = 1 ∧ (mo_std g w k = true)) ∨ (x = 0 ∧ ¬ (mo_std g w k = true))) ∧ M = M')) := by
  refine mo_ofW (ls0 := [some (.ref h), some (mo_iv k), some (mo_iv w)]) (by decide) rfl (Nat.le_of_ble_eq_true rfl) ?_
  intro κ X Y
  have X : mo_Cx κ lf ρf cX2_takesPlaceIn 3 RX2 (some .boolean) 2 := X
  obtain ⟨hI0, hI1, hI2, hI3, hI4, hI5, hI6, hI7, hIh, hIa, hIe, hIm, hIs, hIl, hIw, hIr, hIt, hIs2, hIs3, hIz⟩ := id hI
  have hn : ((mo_nk g : Nat) : Int) = g 7 := by unfold mo_nk; omega
  have hmt := hIt k hk
  unfold mo_Mt at hmt
  refine mo_al0 (pc := 0) X dX2_takesPlaceIn_0 ?_
  refine mo_il1 (pc := 1) X dX2_takesPlaceIn_1 ?_
  refine mo_iconst (pc := 2) X dX2_takesPlaceIn_2 ?_
  refine mo_cVI (pc := 3) (As := [_, _]) X mo_k_X2_83 mo_y_yX2_fact rfl dX2_takesPlaceIn_3 (ct2_fld (g := g) (k := k) (j := 1) (q := 2) hs hS (by omega) (by omega) (by omega) rfl) (mo_St_o hs) rfl (by decide) (by decide) (Nat.le_of_ble_eq_true rfl) ?_
  rintro r_3 _ ⟨h_3, rfl⟩
  refine mo_il2 (pc := 6) X dX2_takesPlaceIn_6 ?_
  refine mo_ic_ne (pc := 7) (tgt := 24) X dX2_takesPlaceIn_7 (by decide) ?_ ?_ (fun c_7 => ?_) (fun c_7 => ?_)
  · omega
  · omega
  · skip
    refine mo_iconst (pc := 24) X dX2_takesPlaceIn_24 ?_
    refine mo_zret (pc := 25) X Y rfl ?_ dX2_takesPlaceIn_25 ⟨rfl, rfl, _, rfl, ?_⟩
    · omega
    refine ⟨?_, rfl⟩
    first
      | exact Or.inl ⟨rfl, by simp only [mo_std, decide_eq_true_eq]; omega⟩
      | exact Or.inr ⟨rfl, by simp only [mo_std, decide_eq_true_eq]; omega⟩
  · skip
    refine mo_al0 (pc := 10) X dX2_takesPlaceIn_10 ?_
    refine mo_il1 (pc := 11) X dX2_takesPlaceIn_11 ?_
    refine mo_iconst (pc := 12) X dX2_takesPlaceIn_12 ?_
    refine mo_cVI (pc := 13) (As := [_, _]) X mo_k_X2_83 mo_y_yX2_fact rfl dX2_takesPlaceIn_13 (ct2_fld (g := g) (k := k) (j := 5) (q := 6) hs hS (by omega) (by omega) (by omega) rfl) (mo_St_o hs) rfl (by decide) (by decide) (Nat.le_of_ble_eq_true rfl) ?_
    rintro r_13 _ ⟨h_13, rfl⟩
    refine mo_iconst (pc := 16) X dX2_takesPlaceIn_16 ?_
    refine mo_ic_eq (pc := 17) (tgt := 24) X dX2_takesPlaceIn_17 (by decide) ?_ ?_ (fun c_17 => ?_) (fun c_17 => ?_)
    · omega
    · omega
    · skip
      refine mo_iconst (pc := 24) X dX2_takesPlaceIn_24 ?_
      refine mo_zret (pc := 25) X Y rfl ?_ dX2_takesPlaceIn_25 ⟨rfl, rfl, _, rfl, ?_⟩
      · omega
      refine ⟨?_, rfl⟩
      first
        | exact Or.inl ⟨rfl, by simp only [mo_std, decide_eq_true_eq]; omega⟩
        | exact Or.inr ⟨rfl, by simp only [mo_std, decide_eq_true_eq]; omega⟩
    · skip
      refine mo_iconst (pc := 20) X dX2_takesPlaceIn_20 ?_
      refine mo_goto (pc := 21) (tgt := 25) X dX2_takesPlaceIn_21 (by decide) ?_
      refine mo_zret (pc := 25) X Y rfl ?_ dX2_takesPlaceIn_25 ⟨rfl, rfl, _, rfl, ?_⟩
      · omega
      refine ⟨?_, rfl⟩
      first
        | exact Or.inl ⟨rfl, by simp only [mo_std, decide_eq_true_eq]; omega⟩
        | exact Or.inr ⟨rfl, by simp only [mo_std, decide_eq_true_eq]; omega⟩
set_option maxHeartbeats 4000000 in
set_option maxRecDepth 100000 in
theorem ct2_isOpen {lf : Launch} {ρf : mo_E} {G : mo_G} {M : mo_M} {t : Nat} {h : Nat} (hs : mo_St G h) {g : Nat → Int} {B : Int} (hS : mo_SR M h g) (hI : mo_Iv g B) (hB : B ≤ 1000000000) {k : Nat} (hk : (k : Int) < g 7) : mo_Ct lf ρf yX2_isOpen cX2_isOpen 2 (some .boolean) 2 0 0 [.ref h, mo_iv k] G M t (mo_pi G t (fun x M' => ((x = 1 ∧ (mo_op g k = true)) ∨ (x = 0 ∧ ¬ (mo_op g k = true))) ∧ M = M')) := by
  refine mo_ofW (ls0 := [some (.ref h), some (mo_iv k)]) (by decide) rfl (Nat.le_of_ble_eq_true rfl) ?_
  intro κ X Y
  have X : mo_Cx κ lf ρf cX2_isOpen 2 RX2 (some .boolean) 2 := X
  obtain ⟨s0, s1, s2, s3, s4, s5, sH, sA, sE, sM, sS, sL, sW, sRo, sF⟩ := id hS
  obtain ⟨hI0, hI1, hI2, hI3, hI4, hI5, hI6, hI7, hIh, hIa, hIe, hIm, hIs, hIl, hIw, hIr, hIt, hIs2, hIs3, hIz⟩ := id hI
  have hn : ((mo_nk g : Nat) : Int) = g 7 := by unfold mo_nk; omega
  have hmt := hIt k hk
  unfold mo_Mt at hmt
  refine mo_al0 (pc := 0) X dX2_isOpen_0 ?_
  refine mo_il1 (pc := 1) X dX2_isOpen_1 ?_
  refine mo_iconst (pc := 2) X dX2_isOpen_2 ?_
  refine mo_cVI (pc := 3) (As := [_, _]) X mo_k_X2_83 mo_y_yX2_fact rfl dX2_isOpen_3 (ct2_fld (g := g) (k := k) (j := 5) (q := 6) hs hS (by omega) (by omega) (by omega) rfl) (mo_St_o hs) rfl (by decide) (by decide) (Nat.le_of_ble_eq_true rfl) ?_
  rintro r_3 _ ⟨h_3, rfl⟩
  refine mo_if_ne (pc := 6) (tgt := 26) X dX2_isOpen_6 (by decide) ?_ (fun c_6 => ?_) (fun c_6 => ?_)
  · omega
  · skip
    refine mo_iconst (pc := 26) X dX2_isOpen_26 ?_
    refine mo_zret (pc := 27) X Y rfl ?_ dX2_isOpen_27 ⟨rfl, rfl, _, rfl, ?_⟩
    · omega
    refine ⟨?_, rfl⟩
    first
      | exact Or.inl ⟨rfl, by simp only [mo_op, decide_eq_true_eq]; omega⟩
      | exact Or.inr ⟨rfl, by simp only [mo_op, decide_eq_true_eq]; omega⟩
  · skip
    refine mo_al0 (pc := 9) X dX2_isOpen_9 ?_
    refine mo_il1 (pc := 10) X dX2_isOpen_10 ?_
    refine mo_iconst (pc := 11) X dX2_isOpen_11 ?_
    refine mo_cVI (pc := 12) (As := [_, _]) X mo_k_X2_83 mo_y_yX2_fact rfl dX2_isOpen_12 (ct2_fld (g := g) (k := k) (j := 1) (q := 2) hs hS (by omega) (by omega) (by omega) rfl) (mo_St_o hs) rfl (by decide) (by decide) (Nat.le_of_ble_eq_true rfl) ?_
    rintro r_12 _ ⟨h_12, rfl⟩
    refine mo_al0 (pc := 15) X dX2_isOpen_15 ?_
    refine mo_f_X2_57 (pc := 16) X dX2_isOpen_16 (mo_St_o hs) ?_
    refine mo_ic_ne (pc := 19) (tgt := 26) X dX2_isOpen_19 (by decide) ?_ ?_ (fun c_19 => ?_) (fun c_19 => ?_)
    · omega
    · omega
    · skip
      refine mo_iconst (pc := 26) X dX2_isOpen_26 ?_
      refine mo_zret (pc := 27) X Y rfl ?_ dX2_isOpen_27 ⟨rfl, rfl, _, rfl, ?_⟩
      · omega
      refine ⟨?_, rfl⟩
      first
        | exact Or.inl ⟨rfl, by simp only [mo_op, decide_eq_true_eq]; omega⟩
        | exact Or.inr ⟨rfl, by simp only [mo_op, decide_eq_true_eq]; omega⟩
    · skip
      refine mo_iconst (pc := 22) X dX2_isOpen_22 ?_
      refine mo_goto (pc := 23) (tgt := 27) X dX2_isOpen_23 (by decide) ?_
      refine mo_zret (pc := 27) X Y rfl ?_ dX2_isOpen_27 ⟨rfl, rfl, _, rfl, ?_⟩
      · omega
      refine ⟨?_, rfl⟩
      first
        | exact Or.inl ⟨rfl, by simp only [mo_op, decide_eq_true_eq]; omega⟩
        | exact Or.inr ⟨rfl, by simp only [mo_op, decide_eq_true_eq]; omega⟩
set_option maxHeartbeats 4000000 in
set_option maxRecDepth 100000 in
theorem ct2_placeOf {lf : Launch} {ρf : mo_E} {G : mo_G} {M : mo_M} {t : Nat} {h : Nat} (hs : mo_St G h) {g : Nat → Int} {B : Int} (hS : mo_SR M h g) (hI : mo_Iv g B) (hB : B ≤ 1000000000) {p : Int} (hp : mo_In p) : mo_Ct lf ρf yX2_placeOf cX2_placeOf 3 (some .int) 2 0 0 [.ref h, mo_iv p] G M t (mo_pi G t (fun x M' => x = mo_ff (fun k => decide (mo_fld g k 0 = p)) (mo_nk g) ∧ M = M')) := by
  refine mo_ofW (ls0 := [some (.ref h), some (mo_iv p), none]) (by decide) rfl (Nat.le_of_ble_eq_true rfl) ?_
  intro κ X Y
  have X : mo_Cx κ lf ρf cX2_placeOf 3 RX2 (some .int) 2 := X
  obtain ⟨s0, s1, s2, s3, s4, s5, sH, sA, sE, sM, sS, sL, sW, sRo, sF⟩ := id hS
  obtain ⟨hI0, hI1, hI2, hI3, hI4, hI5, hI6, hI7, hIh, hIa, hIe, hIm, hIs, hIl, hIw, hIr, hIt, hIs2, hIs3, hIz⟩ := id hI
  have hn : ((mo_nk g : Nat) : Int) = g 7 := by unfold mo_nk; omega
  have loop : ∀ (z i : Nat) (x : Int), i + z = mo_nk g → x = i → (∀ j, j < i → mo_fld g j 0 ≠ p) → mo_V κ 0 0 2 [some (.ref h), some (mo_iv p), some (mo_iv x)] [] G M t := by
    intro z
    induction z with
    | zero =>
      intro i x hi hx hj
      subst hx
      refine mo_il2 (pc := 2) X dX2_placeOf_2 ?_
      refine mo_al0 (pc := 3) X dX2_placeOf_3 ?_
      refine mo_f_X2_54 (pc := 4) X dX2_placeOf_4 (mo_St_o hs) ?_
      refine mo_ic_ge (pc := 7) (tgt := 29) X dX2_placeOf_7 (by decide) ?_ ?_ (fun c_7 => ?_) (fun c_7 => ?_)
      · omega
      · omega
      · skip
        refine mo_iconst (pc := 29) X dX2_placeOf_29 ?_
        refine mo_iret (pc := 30) X Y rfl dX2_placeOf_30 ⟨rfl, rfl, _, rfl, ?_⟩
        refine ⟨?_, rfl⟩
        rw [mo_ff_none]
        intro j hj2
        have h9 := hj j (by omega)
        simpa using h9
      · exfalso
        omega
    | succ z ih =>
      intro i x hi hx hj
      subst hx
      have hmt := hIt i (by omega)
      unfold mo_Mt at hmt
      refine mo_il2 (pc := 2) X dX2_placeOf_2 ?_
      refine mo_al0 (pc := 3) X dX2_placeOf_3 ?_
      refine mo_f_X2_54 (pc := 4) X dX2_placeOf_4 (mo_St_o hs) ?_
      refine mo_ic_ge (pc := 7) (tgt := 29) X dX2_placeOf_7 (by decide) ?_ ?_ (fun c_7 => ?_) (fun c_7 => ?_)
      · omega
      · omega
      · exfalso
        omega
      · skip
        refine mo_al0 (pc := 10) X dX2_placeOf_10 ?_
        refine mo_il2 (pc := 11) X dX2_placeOf_11 ?_
        refine mo_bipush (pc := 12) X dX2_placeOf_12 (by decide) ?_
        refine mo_cVI (pc := 14) (As := [_, _]) X mo_k_X2_83 mo_y_yX2_fact rfl dX2_placeOf_14 (ct2_fld (g := g) (k := i) (j := 6) (q := 0) hs hS (by omega) (by omega) (by omega) rfl) (mo_St_o hs) rfl (by decide) (by decide) (Nat.le_of_ble_eq_true rfl) ?_
        rintro r_14 _ ⟨h_14, rfl⟩
        refine mo_il1 (pc := 17) X dX2_placeOf_17 ?_
        refine mo_ic_ne (pc := 18) (tgt := 23) X dX2_placeOf_18 (by decide) ?_ ?_ (fun c_18 => ?_) (fun c_18 => ?_)
        · omega
        · omega
        · skip
          refine mo_ii2 (pc := 23) X dX2_placeOf_23 rfl (by decide) ?_
          refine mo_goto (pc := 26) (tgt := 2) X dX2_placeOf_26 (by decide) ?_
          exact ih (i + 1) _ (by omega) (by omega) (fun j hj2 => by
            by_cases e : j = i
            · rw [e, ← h_14]; exact c_18
            · exact hj j (by omega))
        · skip
          refine mo_il2 (pc := 21) X dX2_placeOf_21 ?_
          refine mo_iret (pc := 22) X Y rfl dX2_placeOf_22 ⟨rfl, rfl, _, rfl, ?_⟩
          refine ⟨?_, rfl⟩
          rw [mo_ff_at (i := i) (by omega)]
          · intro j hj2
            simpa using hj j hj2
          · simpa [← h_14] using c_18
  refine mo_iconst (pc := 0) X dX2_placeOf_0 ?_
  refine mo_is2 (pc := 1) X dX2_placeOf_1 rfl (by decide) ?_
  exact loop _ 0 0 (Nat.zero_add _) rfl (fun j hj => absurd hj (by omega))
set_option maxHeartbeats 4000000 in
set_option maxRecDepth 100000 in
theorem ct2_hoursUpTo {lf : Launch} {ρf : mo_E} {G : mo_G} {M : mo_M} {t : Nat} {h : Nat} (hs : mo_St G h) {g : Nat → Int} {B : Int} (hS : mo_SR M h g) (hI : mo_Iv g B) (hB : B ≤ 1000000000) {o w : Nat} (ho : o < 8) (hw : w < 20) : mo_Ct lf ρf yX2_hoursUpTo cX2_hoursUpTo 5 (some .int) 2 0 0 [.ref h, mo_iv o, mo_iv w] G M t (mo_pi G t (fun x M' => x = mo_hsum g o (w + 1) ∧ M = M')) := by
  refine mo_ofW (ls0 := [some (.ref h), some (mo_iv o), some (mo_iv w), none, none]) (by decide) rfl (Nat.le_of_ble_eq_true rfl) ?_
  intro κ X Y
  have X : mo_Cx κ lf ρf cX2_hoursUpTo 5 RX2 (some .int) 2 := X
  obtain ⟨s0, s1, s2, s3, s4, s5, sH, sA, sE, sM, sS, sL, sW, sRo, sF⟩ := id hS
  have loop : ∀ (z i : Nat) (s x : Int), i + z = w + 1 → x = i → s = mo_hsum g o i → mo_V κ 0 0 5 [some (.ref h), some (mo_iv o), some (mo_iv w), some (mo_iv s), some (mo_iv x)] [] G M t := by
    intro z
    induction z with
    | zero =>
      intro i s x hi hx hs2
      subst hx
      refine mo_il4 (pc := 5) X dX2_hoursUpTo_5 ?_
      refine mo_il2 (pc := 7) X dX2_hoursUpTo_7 ?_
      refine mo_ic_gt (pc := 8) (tgt := 34) X dX2_hoursUpTo_8 (by decide) ?_ ?_ (fun c_8 => ?_) (fun c_8 => ?_)
      · omega
      · omega
      · skip
        refine mo_il3 (pc := 34) X dX2_hoursUpTo_34 ?_
        refine mo_iret (pc := 35) X Y rfl dX2_hoursUpTo_35 ⟨rfl, rfl, _, rfl, ?_⟩
        refine ⟨?_, rfl⟩
        rw [hs2, show w + 1 = i by omega]
      · exfalso
        omega
    | succ z ih =>
      intro i s x hi hx hs2
      subst hx
      refine mo_il4 (pc := 5) X dX2_hoursUpTo_5 ?_
      refine mo_il2 (pc := 7) X dX2_hoursUpTo_7 ?_
      refine mo_ic_gt (pc := 8) (tgt := 34) X dX2_hoursUpTo_8 (by decide) ?_ ?_ (fun c_8 => ?_) (fun c_8 => ?_)
      · omega
      · omega
      · exfalso
        omega
      · skip
        refine mo_il4 (pc := 11) X dX2_hoursUpTo_11 ?_
        refine mo_bipush (pc := 13) X dX2_hoursUpTo_13 (by decide) ?_
        refine mo_ic_ge (pc := 15) (tgt := 34) X dX2_hoursUpTo_15 (by decide) ?_ ?_ (fun c_15 => ?_) (fun c_15 => ?_)
        · omega
        · omega
        · exfalso
          omega
        · skip
          refine mo_il3 (pc := 18) X dX2_hoursUpTo_18 ?_
          refine mo_al0 (pc := 19) X dX2_hoursUpTo_19 ?_
          refine mo_il1 (pc := 20) X dX2_hoursUpTo_20 ?_
          refine mo_il4 (pc := 21) X dX2_hoursUpTo_21 ?_
          refine mo_cVI (pc := 23) (As := [_, _]) X mo_k_X2_79 mo_y_yX2_hoursIn rfl dX2_hoursUpTo_23 (ct2_hoursIn (o := o) (w := i) hs ho (by omega)) (mo_St_o hs) rfl (by decide) (by decide) (Nat.le_of_ble_eq_true rfl) ?_
          rintro r_23 _ ⟨h_23, rfl⟩
          refine mo_iadd (pc := 26) X dX2_hoursUpTo_26 ?_
          refine mo_is3 (pc := 27) X dX2_hoursUpTo_27 rfl (by decide) ?_
          refine mo_ii4 (pc := 28) X dX2_hoursUpTo_28 rfl (by decide) ?_
          refine mo_goto (pc := 31) (tgt := 5) X dX2_hoursUpTo_31 (by decide) ?_
          refine ih (i + 1) _ _ (by omega) (by omega) ?_
          rw [hs2, h_23, sH _ (by omega), show 8 + (20 * o + i) = 8 + 20 * o + i by omega]
          rfl
  refine mo_iconst (pc := 0) X dX2_hoursUpTo_0 ?_
  refine mo_is3 (pc := 1) X dX2_hoursUpTo_1 rfl (by decide) ?_
  refine mo_iconst (pc := 2) X dX2_hoursUpTo_2 ?_
  refine mo_is4 (pc := 3) X dX2_hoursUpTo_3 rfl (by decide) ?_
  exact loop _ 0 0 0 (Nat.zero_add _) rfl rfl
set_option maxHeartbeats 4000000 in
set_option maxRecDepth 100000 in
theorem ct2_plannedUpTo {lf : Launch} {ρf : mo_E} {G : mo_G} {M : mo_M} {t : Nat} {h : Nat} (hs : mo_St G h) {g : Nat → Int} {B : Int} (hS : mo_SR M h g) (hI : mo_Iv g B) (hB : B ≤ 1000000000) {o w : Nat} (ho : o < 8) (hw : w < 20) : mo_Ct lf ρf yX2_plannedUpTo cX2_plannedUpTo 5 (some .int) 2 0 0 [.ref h, mo_iv o, mo_iv w] G M t (mo_pi G t (fun x M' => x = mo_cnt (mo_plb g o w) (mo_nk g) ∧ M = M')) := by
  refine mo_ofW (ls0 := [some (.ref h), some (mo_iv o), some (mo_iv w), none, none]) (by decide) rfl (Nat.le_of_ble_eq_true rfl) ?_
  intro κ X Y
  have X : mo_Cx κ lf ρf cX2_plannedUpTo 5 RX2 (some .int) 2 := X
  obtain ⟨s0, s1, s2, s3, s4, s5, sH, sA, sE, sM, sS, sL, sW, sRo, sF⟩ := id hS
  obtain ⟨hI0, hI1, hI2, hI3, hI4, hI5, hI6, hI7, hIh, hIa, hIe, hIm, hIs, hIl, hIw, hIr, hIt, hIs2, hIs3, hIz⟩ := id hI
  have hn : ((mo_nk g : Nat) : Int) = g 7 := by unfold mo_nk; omega
  have loop : ∀ (z i : Nat) (s x : Int), i + z = mo_nk g → x = i → s = mo_cnt (mo_plb g o w) i → mo_V κ 0 0 5 [some (.ref h), some (mo_iv o), some (mo_iv w), some (mo_iv s), some (mo_iv x)] [] G M t := by
    intro z
    induction z with
    | zero =>
      intro i s x hi hx hs2
      subst hx
      refine mo_il4 (pc := 5) X dX2_plannedUpTo_5 ?_
      refine mo_al0 (pc := 7) X dX2_plannedUpTo_7 ?_
      refine mo_f_X2_54 (pc := 8) X dX2_plannedUpTo_8 (mo_St_o hs) ?_
      refine mo_ic_ge (pc := 11) (tgt := 55) X dX2_plannedUpTo_11 (by decide) ?_ ?_ (fun c_11 => ?_) (fun c_11 => ?_)
      · omega
      · omega
      · skip
        refine mo_il3 (pc := 55) X dX2_plannedUpTo_55 ?_
        refine mo_iret (pc := 56) X Y rfl dX2_plannedUpTo_56 ⟨rfl, rfl, _, rfl, ?_⟩
        refine ⟨?_, rfl⟩
        rw [hs2, show mo_nk g = i by omega]
      · exfalso
        omega
    | succ z ih =>
      intro i s x hi hx hs2
      subst hx
      have hmt := hIt i (by omega)
      unfold mo_Mt at hmt
      have hstep : mo_cnt (mo_plb g o w) (i + 1) = mo_cnt (mo_plb g o w) i + (if mo_fld g i 1 = (o : Int) ∧ mo_fld g i 6 = 0 ∧ mo_fld g i 2 ≤ (w : Int) then 1 else 0) := by
        rw [mo_cnt]
        simp only [mo_plb, decide_eq_true_eq]
      refine mo_il4 (pc := 5) X dX2_plannedUpTo_5 ?_
      refine mo_al0 (pc := 7) X dX2_plannedUpTo_7 ?_
      refine mo_f_X2_54 (pc := 8) X dX2_plannedUpTo_8 (mo_St_o hs) ?_
      refine mo_ic_ge (pc := 11) (tgt := 55) X dX2_plannedUpTo_11 (by decide) ?_ ?_ (fun c_11 => ?_) (fun c_11 => ?_)
      · omega
      · omega
      · exfalso
        omega
      · skip
        refine mo_al0 (pc := 14) X dX2_plannedUpTo_14 ?_
        refine mo_il4 (pc := 15) X dX2_plannedUpTo_15 ?_
        refine mo_iconst (pc := 17) X dX2_plannedUpTo_17 ?_
        refine mo_cVI (pc := 18) (As := [_, _]) X mo_k_X2_83 mo_y_yX2_fact rfl dX2_plannedUpTo_18 (ct2_fld (g := g) (k := i) (j := 0) (q := 1) hs hS (by omega) (by omega) (by omega) rfl) (mo_St_o hs) rfl (by decide) (by decide) (Nat.le_of_ble_eq_true rfl) ?_
        rintro r_18 _ ⟨h_18, rfl⟩
        refine mo_il1 (pc := 21) X dX2_plannedUpTo_21 ?_
        refine mo_ic_ne (pc := 22) (tgt := 49) X dX2_plannedUpTo_22 (by decide) ?_ ?_ (fun c_22 => ?_) (fun c_22 => ?_)
        · omega
        · omega
        · skip
          refine mo_ii4 (pc := 49) X dX2_plannedUpTo_49 rfl (by decide) ?_
          refine mo_goto (pc := 52) (tgt := 5) X dX2_plannedUpTo_52 (by decide) ?_
          refine ih (i + 1) _ _ (by omega) (by omega) ?_
          rw [hstep]
          split <;> omega
        · skip
          refine mo_al0 (pc := 25) X dX2_plannedUpTo_25 ?_
          refine mo_il4 (pc := 26) X dX2_plannedUpTo_26 ?_
          refine mo_iconst (pc := 28) X dX2_plannedUpTo_28 ?_
          refine mo_cVI (pc := 29) (As := [_, _]) X mo_k_X2_83 mo_y_yX2_fact rfl dX2_plannedUpTo_29 (ct2_fld (g := g) (k := i) (j := 5) (q := 6) hs hS (by omega) (by omega) (by omega) rfl) (mo_St_o hs) rfl (by decide) (by decide) (Nat.le_of_ble_eq_true rfl) ?_
          rintro r_29 _ ⟨h_29, rfl⟩
          refine mo_if_ne (pc := 32) (tgt := 49) X dX2_plannedUpTo_32 (by decide) ?_ (fun c_32 => ?_) (fun c_32 => ?_)
          · omega
          · skip
            refine mo_ii4 (pc := 49) X dX2_plannedUpTo_49 rfl (by decide) ?_
            refine mo_goto (pc := 52) (tgt := 5) X dX2_plannedUpTo_52 (by decide) ?_
            refine ih (i + 1) _ _ (by omega) (by omega) ?_
            rw [hstep]
            split <;> omega
          · skip
            refine mo_al0 (pc := 35) X dX2_plannedUpTo_35 ?_
            refine mo_il4 (pc := 36) X dX2_plannedUpTo_36 ?_
            refine mo_iconst (pc := 38) X dX2_plannedUpTo_38 ?_
            refine mo_cVI (pc := 39) (As := [_, _]) X mo_k_X2_83 mo_y_yX2_fact rfl dX2_plannedUpTo_39 (ct2_fld (g := g) (k := i) (j := 1) (q := 2) hs hS (by omega) (by omega) (by omega) rfl) (mo_St_o hs) rfl (by decide) (by decide) (Nat.le_of_ble_eq_true rfl) ?_
            rintro r_39 _ ⟨h_39, rfl⟩
            refine mo_il2 (pc := 42) X dX2_plannedUpTo_42 ?_
            refine mo_ic_gt (pc := 43) (tgt := 49) X dX2_plannedUpTo_43 (by decide) ?_ ?_ (fun c_43 => ?_) (fun c_43 => ?_)
            · omega
            · omega
            · skip
              refine mo_ii4 (pc := 49) X dX2_plannedUpTo_49 rfl (by decide) ?_
              refine mo_goto (pc := 52) (tgt := 5) X dX2_plannedUpTo_52 (by decide) ?_
              refine ih (i + 1) _ _ (by omega) (by omega) ?_
              rw [hstep]
              split <;> omega
            · skip
              refine mo_ii3 (pc := 46) X dX2_plannedUpTo_46 rfl (by decide) ?_
              refine mo_ii4 (pc := 49) X dX2_plannedUpTo_49 rfl (by decide) ?_
              refine mo_goto (pc := 52) (tgt := 5) X dX2_plannedUpTo_52 (by decide) ?_
              refine ih (i + 1) _ _ (by omega) (by omega) ?_
              rw [hstep]
              split <;> omega
  refine mo_iconst (pc := 0) X dX2_plannedUpTo_0 ?_
  refine mo_is3 (pc := 1) X dX2_plannedUpTo_1 rfl (by decide) ?_
  refine mo_iconst (pc := 2) X dX2_plannedUpTo_2 ?_
  refine mo_is4 (pc := 3) X dX2_plannedUpTo_3 rfl (by decide) ?_
  exact loop _ 0 0 0 (Nat.zero_add _) rfl rfl
set_option maxHeartbeats 4000000 in
set_option maxRecDepth 100000 in
theorem ct2_debt {lf : Launch} {ρf : mo_E} {G : mo_G} {M : mo_M} {t : Nat} {h : Nat} (hs : mo_St G h) {g : Nat → Int} {B : Int} (hS : mo_SR M h g) (hI : mo_Iv g B) (hB : B ≤ 1000000000) {o w : Nat} (ho : o < 8) (hw : w < 20) : mo_Ct lf ρf yX2_debt cX2_debt 4 (some .int) 3 0 0 [.ref h, mo_iv o, mo_iv w] G M t (mo_pi G t (fun x M' => x = mo_ow g o w ∧ M = M')) := by
  refine mo_ofW (ls0 := [some (.ref h), some (mo_iv o), some (mo_iv w), none]) (by decide) rfl (Nat.le_of_ble_eq_true rfl) ?_
  intro κ X Y
  have X : mo_Cx κ lf ρf cX2_debt 4 RX2 (some .int) 3 := X
  obtain ⟨s0, s1, s2, s3, s4, s5, sH, sA, sE, sM, sS, sL, sW, sRo, sF⟩ := id hS
  obtain ⟨hI0, hI1, hI2, hI3, hI4, hI5, hI6, hI7, hIh, hIa, hIe, hIm, hIs, hIl, hIw, hIr, hIt, hIs2, hIs3, hIz⟩ := id hI
  have hn : ((mo_nk g : Nat) : Int) = g 7 := by unfold mo_nk; omega
  have hEo := hIe o ho
  have hc := mo_cnt_le (mo_plb g o w) (mo_nk g)
  have hHs : 0 ≤ mo_hsum g o (w + 1) ∧ mo_hsum g o (w + 1) ≤ ((w + 1 : Nat) : Int) * 7 := by
    refine mo_sum_le (c := 7) (fun j hj => ?_)
    have h9 := hIh (20 * o + j) (by omega)
    rw [show 8 + (20 * o + j) = 8 + 20 * o + j by omega] at h9
    exact h9
  refine mo_al0 (pc := 0) X dX2_debt_0 ?_
  refine mo_f_X2_23 (pc := 1) X dX2_debt_1 (mo_St_o hs) (mo_St_p8 hs) ?_
  refine mo_il1 (pc := 4) X dX2_debt_4 ?_
  refine mo_cVI (pc := 5) (As := [_]) X mo_k_X2_75 mo_y_yX1_get rfl dX2_debt_5 (ct_get (a := h + 6) (j := o) (mo_St_r8 hs) rfl (by omega) (by omega) (by omega) (by omega)) (mo_St_r8 hs).1 rfl (by decide) (by decide) (Nat.le_of_ble_eq_true rfl) ?_
  rintro r_5 _ ⟨h_5, rfl⟩
  rw [sE o ho] at h_5
  refine mo_al0 (pc := 8) X dX2_debt_8 ?_
  refine mo_il1 (pc := 9) X dX2_debt_9 ?_
  refine mo_il2 (pc := 10) X dX2_debt_10 ?_
  refine mo_cVI (pc := 11) (As := [_, _]) X mo_k_X2_86 mo_y_yX2_plannedUpTo rfl dX2_debt_11 (ct2_plannedUpTo hs hS hI hB ho hw) (mo_St_o hs) rfl (by decide) (by decide) (Nat.le_of_ble_eq_true rfl) ?_
  rintro r_11 _ ⟨h_11, rfl⟩
  refine mo_iadd (pc := 14) X dX2_debt_14 ?_
  refine mo_is3 (pc := 15) X dX2_debt_15 rfl (by decide) ?_
  refine mo_iconst (pc := 16) X dX2_debt_16 ?_
  refine mo_al0 (pc := 17) X dX2_debt_17 ?_
  refine mo_il1 (pc := 18) X dX2_debt_18 ?_
  refine mo_il2 (pc := 19) X dX2_debt_19 ?_
  refine mo_cVI (pc := 20) (As := [_, _]) X mo_k_X2_89 mo_y_yX2_hoursUpTo rfl dX2_debt_20 (ct2_hoursUpTo hs hS hI hB ho hw) (mo_St_o hs) rfl (by decide) (by decide) (Nat.le_of_ble_eq_true rfl) ?_
  rintro r_20 _ ⟨h_20, rfl⟩
  refine mo_il3 (pc := 23) X dX2_debt_23 ?_
  refine mo_isub (pc := 24) X dX2_debt_24 ?_
  refine mo_max (pc := 25) X dX2_debt_25 mo_wm_X2_92 ?_ ?_ (by decide) (Nat.le_of_ble_eq_true rfl) ⟨rfl, rfl⟩ ?_
  · omega
  · omega
  refine mo_iret (pc := 28) X Y rfl dX2_debt_28 ⟨rfl, rfl, _, rfl, ?_⟩
  refine ⟨?_, rfl⟩
  unfold mo_ow
  rw [h_5, h_11, h_20]
  split <;> split <;> omega
set_option maxHeartbeats 4000000 in
set_option maxRecDepth 100000 in
theorem ct2_debtOfAll {lf : Launch} {ρf : mo_E} {G : mo_G} {M : mo_M} {t : Nat} {h : Nat} (hs : mo_St G h) {g : Nat → Int} {B : Int} (hS : mo_SR M h g) (hI : mo_Iv g B) (hB : B ≤ 1000000000) {w : Nat} (hw : w < 20) : mo_Ct lf ρf yX2_debtOfAll cX2_debtOfAll 4 (some .int) 4 0 0 [.ref h, mo_iv w] G M t (mo_pi G t (fun x M' => x = mo_owa g w ∧ M = M')) := by
  refine mo_ofW (ls0 := [some (.ref h), some (mo_iv w), none, none]) (by decide) rfl (Nat.le_of_ble_eq_true rfl) ?_
  intro κ X Y
  have X : mo_Cx κ lf ρf cX2_debtOfAll 4 RX2 (some .int) 4 := X
  obtain ⟨s0, s1, s2, s3, s4, s5, sH, sA, sE, sM, sS, sL, sW, sRo, sF⟩ := id hS
  obtain ⟨hI0, hI1, hI2, hI3, hI4, hI5, hI6, hI7, hIh, hIa, hIe, hIm, hIs, hIl, hIw, hIr, hIt, hIs2, hIs3, hIz⟩ := id hI
  have hn : ((mo_nk g : Nat) : Int) = g 7 := by unfold mo_nk; omega
  have loop : ∀ (z i : Nat) (s x : Int), i + z = (g 4).toNat → x = i → s = mo_sum (fun o => mo_ow g o w) i → mo_V κ 0 0 4 [some (.ref h), some (mo_iv w), some (mo_iv s), some (mo_iv x)] [] G M t := by
    intro z
    induction z with
    | zero =>
      intro i s x hi hx hs2
      subst hx
      refine mo_il3 (pc := 4) X dX2_debtOfAll_4 ?_
      refine mo_al0 (pc := 5) X dX2_debtOfAll_5 ?_
      refine mo_f_X2_44 (pc := 6) X dX2_debtOfAll_6 (mo_St_o hs) ?_
      refine mo_ic_ge (pc := 9) (tgt := 27) X dX2_debtOfAll_9 (by decide) ?_ ?_ (fun c_9 => ?_) (fun c_9 => ?_)
      · omega
      · omega
      · skip
        refine mo_il2 (pc := 27) X dX2_debtOfAll_27 ?_
        refine mo_iret (pc := 28) X Y rfl dX2_debtOfAll_28 ⟨rfl, rfl, _, rfl, ?_⟩
        refine ⟨?_, rfl⟩
        unfold mo_owa
        rw [hs2, show (g 4).toNat = i by omega]
      · exfalso
        omega
    | succ z ih =>
      intro i s x hi hx hs2
      subst hx
      refine mo_il3 (pc := 4) X dX2_debtOfAll_4 ?_
      refine mo_al0 (pc := 5) X dX2_debtOfAll_5 ?_
      refine mo_f_X2_44 (pc := 6) X dX2_debtOfAll_6 (mo_St_o hs) ?_
      refine mo_ic_ge (pc := 9) (tgt := 27) X dX2_debtOfAll_9 (by decide) ?_ ?_ (fun c_9 => ?_) (fun c_9 => ?_)
      · omega
      · omega
      · exfalso
        omega
      · skip
        refine mo_il2 (pc := 12) X dX2_debtOfAll_12 ?_
        refine mo_al0 (pc := 13) X dX2_debtOfAll_13 ?_
        refine mo_il3 (pc := 14) X dX2_debtOfAll_14 ?_
        refine mo_il1 (pc := 15) X dX2_debtOfAll_15 ?_
        refine mo_cVI (pc := 16) (As := [_, _]) X mo_k_X2_97 mo_y_yX2_debt rfl dX2_debtOfAll_16 (ct2_debt (o := i) (w := w) hs hS hI hB (by omega) hw) (mo_St_o hs) rfl (by decide) (by decide) (Nat.le_of_ble_eq_true rfl) ?_
        rintro r_16 _ ⟨h_16, rfl⟩
        refine mo_iadd (pc := 19) X dX2_debtOfAll_19 ?_
        refine mo_is2 (pc := 20) X dX2_debtOfAll_20 rfl (by decide) ?_
        refine mo_ii3 (pc := 21) X dX2_debtOfAll_21 rfl (by decide) ?_
        refine mo_goto (pc := 24) (tgt := 4) X dX2_debtOfAll_24 (by decide) ?_
        exact ih (i + 1) _ _ (by omega) (by omega) (by rw [hs2, h_16]; rfl)
  refine mo_iconst (pc := 0) X dX2_debtOfAll_0 ?_
  refine mo_is2 (pc := 1) X dX2_debtOfAll_1 rfl (by decide) ?_
  refine mo_iconst (pc := 2) X dX2_debtOfAll_2 ?_
  refine mo_is3 (pc := 3) X dX2_debtOfAll_3 rfl (by decide) ?_
  exact loop _ 0 0 0 (Nat.zero_add _) rfl rfl
set_option maxHeartbeats 4000000 in
set_option maxRecDepth 100000 in
theorem ct2_meetingsWith {lf : Launch} {ρf : mo_E} {G : mo_G} {M : mo_M} {t : Nat} {h : Nat} (hs : mo_St G h) {g : Nat → Int} {B : Int} (hS : mo_SR M h g) (hI : mo_Iv g B) (hB : B ≤ 1000000000) {e : Nat} {w : Int} (he : e < 6) (hw : mo_In w) : mo_Ct lf ρf yX2_meetingsWith cX2_meetingsWith 5 (some .int) 3 0 0 [.ref h, mo_iv e, mo_iv w] G M t (mo_pi G t (fun x M' => x = mo_mny g w (mo_nk g) e ∧ M = M')) := by
  refine mo_ofW (ls0 := [some (.ref h), some (mo_iv e), some (mo_iv w), none, none]) (by decide) rfl (Nat.le_of_ble_eq_true rfl) ?_
  intro κ X Y
  have X : mo_Cx κ lf ρf cX2_meetingsWith 5 RX2 (some .int) 3 := X
  obtain ⟨s0, s1, s2, s3, s4, s5, sH, sA, sE, sM, sS, sL, sW, sRo, sF⟩ := id hS
  obtain ⟨hI0, hI1, hI2, hI3, hI4, hI5, hI6, hI7, hIh, hIa, hIe, hIm, hIs, hIl, hIw, hIr, hIt, hIs2, hIs3, hIz⟩ := id hI
  have hn : ((mo_nk g : Nat) : Int) = g 7 := by unfold mo_nk; omega
  have loop : ∀ (z i : Nat) (s x : Int), i + z = mo_nk g → x = i → s = mo_mny g w i e → mo_V κ 0 0 5 [some (.ref h), some (mo_iv e), some (mo_iv w), some (mo_iv s), some (mo_iv x)] [] G M t := by
    intro z
    induction z with
    | zero =>
      intro i s x hi hx hs2
      subst hx
      refine mo_il4 (pc := 5) X dX2_meetingsWith_5 ?_
      refine mo_al0 (pc := 7) X dX2_meetingsWith_7 ?_
      refine mo_f_X2_54 (pc := 8) X dX2_meetingsWith_8 (mo_St_o hs) ?_
      refine mo_ic_ge (pc := 11) (tgt := 44) X dX2_meetingsWith_11 (by decide) ?_ ?_ (fun c_11 => ?_) (fun c_11 => ?_)
      · omega
      · omega
      · skip
        refine mo_il3 (pc := 44) X dX2_meetingsWith_44 ?_
        refine mo_iret (pc := 45) X Y rfl dX2_meetingsWith_45 ⟨rfl, rfl, _, rfl, ?_⟩
        refine ⟨?_, rfl⟩
        rw [hs2, show mo_nk g = i by omega]
      · exfalso
        omega
    | succ z ih =>
      intro i s x hi hx hs2
      subst hx
      have hmt := hIt i (by omega)
      unfold mo_Mt at hmt
      refine mo_il4 (pc := 5) X dX2_meetingsWith_5 ?_
      refine mo_al0 (pc := 7) X dX2_meetingsWith_7 ?_
      refine mo_f_X2_54 (pc := 8) X dX2_meetingsWith_8 (mo_St_o hs) ?_
      refine mo_ic_ge (pc := 11) (tgt := 44) X dX2_meetingsWith_11 (by decide) ?_ ?_ (fun c_11 => ?_) (fun c_11 => ?_)
      · omega
      · omega
      · exfalso
        omega
      · skip
        refine mo_al0 (pc := 14) X dX2_meetingsWith_14 ?_
        refine mo_il4 (pc := 15) X dX2_meetingsWith_15 ?_
        refine mo_iconst (pc := 17) X dX2_meetingsWith_17 ?_
        refine mo_cVI (pc := 18) (As := [_, _]) X mo_k_X2_83 mo_y_yX2_fact rfl dX2_meetingsWith_18 (ct2_fld (g := g) (k := i) (j := 3) (q := 4) hs hS (by omega) (by omega) (by omega) rfl) (mo_St_o hs) rfl (by decide) (by decide) (Nat.le_of_ble_eq_true rfl) ?_
        rintro r_18 _ ⟨h_18, rfl⟩
        refine mo_il1 (pc := 21) X dX2_meetingsWith_21 ?_
        refine mo_ic_ne (pc := 22) (tgt := 38) X dX2_meetingsWith_22 (by decide) ?_ ?_ (fun c_22 => ?_) (fun c_22 => ?_)
        · omega
        · omega
        · skip
          refine mo_ii4 (pc := 38) X dX2_meetingsWith_38 rfl (by decide) ?_
          refine mo_goto (pc := 41) (tgt := 5) X dX2_meetingsWith_41 (by decide) ?_
          refine ih (i + 1) _ _ (by omega) (by omega) ?_
          rw [mo_mny_s]
          first
            | (rw [if_pos ⟨mo_b1 h_29 c_32, by omega⟩]; omega)
            | (rw [if_neg (fun q => mo_b0 h_29 c_32 q.1)]; omega)
            | (rw [if_neg (fun q => c_22 (by omega))]; omega)
        · skip
          refine mo_al0 (pc := 25) X dX2_meetingsWith_25 ?_
          refine mo_il4 (pc := 26) X dX2_meetingsWith_26 ?_
          refine mo_il2 (pc := 28) X dX2_meetingsWith_28 ?_
          refine mo_cVI (pc := 29) (As := [_, _]) X mo_k_X2_100 mo_y_yX2_takesPlaceIn rfl dX2_meetingsWith_29 (ct2_takesPlaceIn (k := i) (w := w) hs hS hI hB (by omega) hw) (mo_St_o hs) rfl (by decide) (by decide) (Nat.le_of_ble_eq_true rfl) ?_
          rintro r_29 _ ⟨h_29, rfl⟩
          refine mo_if_eq (pc := 32) (tgt := 38) X dX2_meetingsWith_32 (by decide) ?_ (fun c_32 => ?_) (fun c_32 => ?_)
          · omega
          · skip
            refine mo_ii4 (pc := 38) X dX2_meetingsWith_38 rfl (by decide) ?_
            refine mo_goto (pc := 41) (tgt := 5) X dX2_meetingsWith_41 (by decide) ?_
            refine ih (i + 1) _ _ (by omega) (by omega) ?_
            rw [mo_mny_s]
            first
              | (rw [if_pos ⟨mo_b1 h_29 c_32, by omega⟩]; omega)
              | (rw [if_neg (fun q => mo_b0 h_29 c_32 q.1)]; omega)
              | (rw [if_neg (fun q => c_22 (by omega))]; omega)
          · skip
            refine mo_ii3 (pc := 35) X dX2_meetingsWith_35 rfl (by decide) ?_
            refine mo_ii4 (pc := 38) X dX2_meetingsWith_38 rfl (by decide) ?_
            refine mo_goto (pc := 41) (tgt := 5) X dX2_meetingsWith_41 (by decide) ?_
            refine ih (i + 1) _ _ (by omega) (by omega) ?_
            rw [mo_mny_s]
            first
              | (rw [if_pos ⟨mo_b1 h_29 c_32, by omega⟩]; omega)
              | (rw [if_neg (fun q => mo_b0 h_29 c_32 q.1)]; omega)
              | (rw [if_neg (fun q => c_22 (by omega))]; omega)
  refine mo_iconst (pc := 0) X dX2_meetingsWith_0 ?_
  refine mo_is3 (pc := 1) X dX2_meetingsWith_1 rfl (by decide) ?_
  refine mo_iconst (pc := 2) X dX2_meetingsWith_2 ?_
  refine mo_is4 (pc := 3) X dX2_meetingsWith_3 rfl (by decide) ?_
  exact loop _ 0 0 0 (Nat.zero_add _) rfl rfl
