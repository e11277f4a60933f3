set_option maxHeartbeats 4000000 in
set_option maxRecDepth 100000 in
theorem ct2_settleWeek1 {lf : Launch} {ρf : mo_E} {G : mo_G} {M : mo_M} {t : Nat} {h : Nat} (hs : mo_St G h) {g : Nat → Int} {B : Int} (hS : mo_SR M h g) (hI : mo_Iv g B) (hB : B ≤ 999999900) : mo_Ct lf ρf yX2_settleWeek cX2_settleWeek 4 (some .int) 3 0 0 [.ref h, mo_iv 1] G M t (mo_pi G t (fun x M' => mo_SR M' h (mo_hw g (mo_nk g)) ∧ ∀ a, mo_out h a → M' a = M a)) := by
  refine mo_ofW (ls0 := [some (.ref h), some (mo_iv 1), none, none]) (by decide) rfl (Nat.le_of_ble_eq_true rfl) ?_
  intro κ X Y
  have X : mo_Cx κ lf ρf cX2_settleWeek 4 RX2 (some .int) 3 := X
  obtain ⟨hI0, hI1, hI2, hI3, hI4, hI5, hI6, hI7, hIh, hIa, hIe, hIm, hIs, hIl, hIw, hIr, hIt, hIs2, hIs3, hIz⟩ := id hI
  have hn : ((mo_nk g : Nat) : Int) = g 7 := by unfold mo_nk; omega
  have lp1 : ∀ (z i : Nat) (x y : Int) (M1 : mo_M), i + z = mo_nk g → x = i → 0 ≤ y ∧ y ≤ i → mo_SR M1 h (mo_hw g i) → (∀ a, mo_out h a → M1 a = M a) → mo_V κ 0 0 4 [some (.ref h), some (mo_iv 1), some (mo_iv y), some (mo_iv x)] [] G M1 t := by
    intro z
    induction z with
    | zero =>
      intro i x y M1 hi hx hy hS1 hf
      subst hx
      have h7 := (mo_hw_b hI i (by omega)).2.1
      refine mo_il3 (pc := 4) X dX2_settleWeek_4 ?_
      refine mo_al0 (pc := 5) X dX2_settleWeek_5 ?_
      refine mo_f_X2_54 (pc := 6) X dX2_settleWeek_6 (mo_St_o hs) ?_
      rw [hS1.2.2.2.1, h7, ← hn]
      refine mo_ic_ge (pc := 9) (tgt := 35) X dX2_settleWeek_9 (by decide) ?_ ?_ (fun c_9 => ?_) (fun c_9 => ?_)
      · omega
      · omega
      · skip
        refine mo_il2 (pc := 35) X dX2_settleWeek_35 ?_
        refine mo_iret (pc := 36) X Y rfl dX2_settleWeek_36 ⟨rfl, rfl, _, rfl, ?_⟩
        rw [show i = mo_nk g by omega] at hS1
        exact ⟨hS1, hf⟩
      · exfalso
        omega
    | succ z ih =>
      intro i x y M1 hi hx hy hS1 hf
      subst hx
      obtain ⟨hI1, h7, h0⟩ := mo_hw_b hI i (by omega)
      refine mo_il3 (pc := 4) X dX2_settleWeek_4 ?_
      refine mo_al0 (pc := 5) X dX2_settleWeek_5 ?_
      refine mo_f_X2_54 (pc := 6) X dX2_settleWeek_6 (mo_St_o hs) ?_
      rw [hS1.2.2.2.1, h7, ← hn]
      refine mo_ic_ge (pc := 9) (tgt := 35) X dX2_settleWeek_9 (by decide) ?_ ?_ (fun c_9 => ?_) (fun c_9 => ?_)
      · omega
      · omega
      · exfalso
        omega
      · skip
        refine mo_al0 (pc := 12) X dX2_settleWeek_12 ?_
        refine mo_il3 (pc := 13) X dX2_settleWeek_13 ?_
        refine mo_cVI (pc := 14) (As := [_]) X mo_k_X2_110 mo_y_yX2_isOpen rfl dX2_settleWeek_14 (ct2_isOpen (k := i) hs hS1 hI1 (by omega) (by rw [h7]; omega)) (mo_St_o hs) rfl (by decide) (by decide) (Nat.le_of_ble_eq_true rfl) ?_
        rintro r_14 _ ⟨h_14, rfl⟩
        refine mo_if_eq (pc := 17) (tgt := 29) X dX2_settleWeek_17 (by decide) ?_ (fun c_17 => ?_) (fun c_17 => ?_)
        · omega
        · skip
          refine mo_ii3 (pc := 29) X dX2_settleWeek_29 rfl (by decide) ?_
          refine mo_goto (pc := 32) (tgt := 4) X dX2_settleWeek_32 (by decide) ?_
          have e := mo_b0 h_14 c_17
          have e2 : mo_hw g (i + 1) = mo_hw g i := by rw [mo_hw, if_neg e]
          refine ih (i + 1) _ _ _ (by omega) (by omega) ?_ ?_ hf
          · omega
          · rw [e2]
            exact hS1
        · skip
          refine mo_al0 (pc := 20) X dX2_settleWeek_20 ?_
          refine mo_il3 (pc := 21) X dX2_settleWeek_21 ?_
          refine mo_il1 (pc := 22) X dX2_settleWeek_22 ?_
          refine mo_cVV (pc := 23) (As := [_, _]) X mo_k_X2_114 mo_y_yX2_settle rfl dX2_settleWeek_23 (ct2_settle1 (k := i) hs hS1 hI1 (by omega) (by rw [h7]; omega)) (mo_St_o hs) rfl (by decide) (by decide) (Nat.le_of_ble_eq_true rfl) ?_
          rintro M_23 ⟨h_23, f_23⟩
          refine mo_ii2 (pc := 26) X dX2_settleWeek_26 rfl (by decide) ?_
          refine mo_ii3 (pc := 29) X dX2_settleWeek_29 rfl (by decide) ?_
          refine mo_goto (pc := 32) (tgt := 4) X dX2_settleWeek_32 (by decide) ?_
          have e := mo_b1 h_14 c_17
          have e2 : mo_hw g (i + 1) = mo_hd (mo_hw g i) i := by rw [mo_hw, if_pos e]
          refine ih (i + 1) _ _ _ (by omega) (by omega) ?_ ?_ (fun a ha => by rw [f_23 a ha, hf a ha])
          · omega
          · rw [e2]
            exact h_23
  have h0 := lp1 (mo_nk g) 0 0 0 M (by omega) rfl (by omega) hS (fun a ha => rfl)
  refine mo_iconst (pc := 0) X dX2_settleWeek_0 ?_
  refine mo_is2 (pc := 1) X dX2_settleWeek_1 rfl (by decide) ?_
  refine mo_iconst (pc := 2) X dX2_settleWeek_2 ?_
  refine mo_is3 (pc := 3) X dX2_settleWeek_3 rfl (by decide) ?_
  exact h0
set_option maxHeartbeats 4000000 in
set_option maxRecDepth 100000 in
theorem ct2_settleWeek2 {lf : Launch} {ρf : mo_E} {G : mo_G} {M : mo_M} {t : Nat} {h : Nat} (hs : mo_St G h) {g : Nat → Int} {B : Int} (hS : mo_SR M h g) (hI : mo_Iv g B) (hB : B ≤ 999999900) : mo_Ct lf ρf yX2_settleWeek cX2_settleWeek 4 (some .int) 3 0 0 [.ref h, mo_iv 2] G M t (mo_pi G t (fun x M' => x = (mo_mw g (mo_nk g)).1 ∧ mo_SR M' h ((mo_mw g (mo_nk g)).2) ∧ ∀ a, mo_out h a → M' a = M a)) := by
  refine mo_ofW (ls0 := [some (.ref h), some (mo_iv 2), none, none]) (by decide) rfl (Nat.le_of_ble_eq_true rfl) ?_
  intro κ X Y
  have X : mo_Cx κ lf ρf cX2_settleWeek 4 RX2 (some .int) 3 := X
  obtain ⟨hI0, hI1, hI2, hI3, hI4, hI5, hI6, hI7, hIh, hIa, hIe, hIm, hIs, hIl, hIw, hIr, hIt, hIs2, hIs3, hIz⟩ := id hI
  have hn : ((mo_nk g : Nat) : Int) = g 7 := by unfold mo_nk; omega
  have lp1 : ∀ (z i : Nat) (x y : Int) (M1 : mo_M), i + z = mo_nk g → x = i → y = (mo_mw g i).1 → mo_SR M1 h ((mo_mw g i).2) → (∀ a, mo_out h a → M1 a = M a) → mo_V κ 0 0 4 [some (.ref h), some (mo_iv 2), some (mo_iv y), some (mo_iv x)] [] G M1 t := by
    intro z
    induction z with
    | zero =>
      intro i x y M1 hi hx hy hS1 hf
      subst hx
      have h7 := (mo_mw_b hI i (by omega)).2.1
      have hyb := (mo_mw_b hI i (by omega)).2.2.2
      refine mo_il3 (pc := 4) X dX2_settleWeek_4 ?_
      refine mo_al0 (pc := 5) X dX2_settleWeek_5 ?_
      refine mo_f_X2_54 (pc := 6) X dX2_settleWeek_6 (mo_St_o hs) ?_
      rw [hS1.2.2.2.1, h7, ← hn]
      refine mo_ic_ge (pc := 9) (tgt := 35) X dX2_settleWeek_9 (by decide) ?_ ?_ (fun c_9 => ?_) (fun c_9 => ?_)
      · omega
      · omega
      · skip
        refine mo_il2 (pc := 35) X dX2_settleWeek_35 ?_
        refine mo_iret (pc := 36) X Y rfl dX2_settleWeek_36 ⟨rfl, rfl, _, rfl, ?_⟩
        rw [show i = mo_nk g by omega] at hS1 hy
        exact ⟨hy, hS1, hf⟩
      · exfalso
        omega
    | succ z ih =>
      intro i x y M1 hi hx hy hS1 hf
      subst hx
      obtain ⟨hI1, h7, h0, hyb⟩ := mo_mw_b hI i (by omega)
      refine mo_il3 (pc := 4) X dX2_settleWeek_4 ?_
      refine mo_al0 (pc := 5) X dX2_settleWeek_5 ?_
      refine mo_f_X2_54 (pc := 6) X dX2_settleWeek_6 (mo_St_o hs) ?_
      rw [hS1.2.2.2.1, h7, ← hn]
      refine mo_ic_ge (pc := 9) (tgt := 35) X dX2_settleWeek_9 (by decide) ?_ ?_ (fun c_9 => ?_) (fun c_9 => ?_)
      · omega
      · omega
      · exfalso
        omega
      · skip
        refine mo_al0 (pc := 12) X dX2_settleWeek_12 ?_
        refine mo_il3 (pc := 13) X dX2_settleWeek_13 ?_
        refine mo_cVI (pc := 14) (As := [_]) X mo_k_X2_110 mo_y_yX2_isOpen rfl dX2_settleWeek_14 (ct2_isOpen (k := i) hs hS1 hI1 (by omega) (by rw [h7]; omega)) (mo_St_o hs) rfl (by decide) (by decide) (Nat.le_of_ble_eq_true rfl) ?_
        rintro r_14 _ ⟨h_14, rfl⟩
        refine mo_if_eq (pc := 17) (tgt := 29) X dX2_settleWeek_17 (by decide) ?_ (fun c_17 => ?_) (fun c_17 => ?_)
        · omega
        · skip
          refine mo_ii3 (pc := 29) X dX2_settleWeek_29 rfl (by decide) ?_
          refine mo_goto (pc := 32) (tgt := 4) X dX2_settleWeek_32 (by decide) ?_
          have e := mo_b0 h_14 c_17
          have e2 : mo_mw g (i + 1) = mo_mw g i := by rw [mo_mw, if_neg e]
          refine ih (i + 1) _ _ _ (by omega) (by omega) ?_ ?_ hf
          · rw [e2]
            exact hy
          · rw [e2]
            exact hS1
        · skip
          refine mo_al0 (pc := 20) X dX2_settleWeek_20 ?_
          refine mo_il3 (pc := 21) X dX2_settleWeek_21 ?_
          refine mo_il1 (pc := 22) X dX2_settleWeek_22 ?_
          refine mo_cVV (pc := 23) (As := [_, _]) X mo_k_X2_114 mo_y_yX2_settle rfl dX2_settleWeek_23 (ct2_settle2 (k := i) hs hS1 hI1 (by omega) (by rw [h7]; omega)) (mo_St_o hs) rfl (by decide) (by decide) (Nat.le_of_ble_eq_true rfl) ?_
          rintro M_23 ⟨h_23, f_23⟩
          refine mo_ii2 (pc := 26) X dX2_settleWeek_26 rfl (by decide) ?_
          refine mo_ii3 (pc := 29) X dX2_settleWeek_29 rfl (by decide) ?_
          refine mo_goto (pc := 32) (tgt := 4) X dX2_settleWeek_32 (by decide) ?_
          have e := mo_b1 h_14 c_17
          have e2 : mo_mw g (i + 1) = ((mo_mw g i).1 + 1, mo_ms (mo_mw g i).2 i) := by rw [mo_mw, if_pos e]
          refine ih (i + 1) _ _ _ (by omega) (by omega) ?_ ?_ (fun a ha => by rw [f_23 a ha, hf a ha])
          · rw [e2, hy]
          · rw [e2]
            exact h_23
  have h0 := lp1 (mo_nk g) 0 0 0 M (by omega) rfl rfl hS (fun a ha => rfl)
  refine mo_iconst (pc := 0) X dX2_settleWeek_0 ?_
  refine mo_is2 (pc := 1) X dX2_settleWeek_1 rfl (by decide) ?_
  refine mo_iconst (pc := 2) X dX2_settleWeek_2 ?_
  refine mo_is3 (pc := 3) X dX2_settleWeek_3 rfl (by decide) ?_
  exact h0
