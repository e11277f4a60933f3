set_option maxHeartbeats 4000000 in
set_option maxRecDepth 100000 in
theorem ct2_settleWeek1 {lf : Launch} {ρf : mo_E} {G : mo_G} {M : mo_M} {t : Nat} {h : Nat} (hs : mo_St G h) {g : Nat → Int} {B : Int} (hS : mo_SR M h g) (hI : mo_Iv g B) (hB : B ≤ 999999900) : mo_Ct lf ρf yX2_settleWeek cX2_settleWeek 4 (some .int) 3 0 0 [.ref h, mo_iv 1] G M t (mo_pi G t (fun x M' => mo_SR M' h (mo_hw g (mo_nk g)) ∧ ∀ a, mo_out h a → M' a = M a)) := by
  refine mo_ofW (ls0 := [some (.ref h), some (mo_iv 1), none, none]) (by decide) rfl (Nat.le_of_ble_eq_true rfl) ?_
  intro κ X Y
  have X : mo_Cx κ lf ρf cX2_settleWeek 4 RX2 (some .int) 3 := X
  obtain ⟨hI0, hI1, hI2, hI3, hI4, hI5, hI6, hI7, hIh, hIa, hIe, hIm, hIs, hIl, hIw, hIr, hIt, hIs2, hIs3, hIz⟩ := id hI
  have hn : ((mo_nk g : Nat) : Int) = g 7 := by unfold mo_nk; omega
  have lp1 : ∀ (z i : Nat) (x y : Int) (M1 : mo_M), i + z = mo_nk g → x = i → 0 ≤ y ∧ y ≤ i → mo_SR M1 h (mo_hw g i) → (∀ a, mo_out h a → M1 a = M a) → mo_V κ 0 0 4 [some (.ref h), some (mo_iv 1), some (mo_iv y), some (mo_iv x)] [] G M1 t := by
    intro z
    induction z with
    | zero =>
      intro i x y M1 hi hx hy hS1 hf
      subst hx
      have h7 := (mo_hw_b hI i (by omega)).2.1
      refine mo_il3 (pc := 4) X dX2_settleWeek_4 ?_
      refine mo_al0 (pc := 5) X dX2_settleWeek_5 ?_
      refine mo_f_X2_54 (pc := 6) X dX2_settleWeek_6 (mo_St_o hs) ?_
      rw [hS1.2.2.2.1, h7, ← hn]
      refine mo_ic_ge (pc := 9) (tgt := 35) X dX2_settleWeek_9 (by decide) ?_ ?_ (fun c_9 => ?_) (fun c_9 => ?_)
      · omega
      · omega
      · skip
        refine mo_il2 (pc := 35) X dX2_settleWeek_35 ?_
        refine mo_iret (pc := 36) X Y rfl dX2_settleWeek_36 ⟨rfl, rfl, _, rfl, ?_⟩
        rw [show i = mo_nk g by omega] at hS1
        exact ⟨hS1, hf⟩
      · exfalso
        omega
    | succ z ih =>
      intro i x y M1 hi hx hy hS1 hf
      subst hx
      obtain ⟨hI1, h7, h0⟩ := mo_hw_b hI i (by omega)
      refine mo_il3 (pc := 4) X dX2_settleWeek_4 ?_
      refine mo_al0 (pc := 5) X dX2_settleWeek_5 ?_
      refine mo_f_X2_54 (pc := 6) X dX2_settleWeek_6 (mo_St_o hs) ?_
      rw [hS1.2.2.2.1, h7, ← hn]
      refine mo_ic_ge (pc := 9) (tgt := 35) X dX2_settleWeek_9 (by decide) ?_ ?_ (fun c_9 => ?_) (fun c_9 => ?_)
      · omega
      · omega
      · exfalso
        omega
      · skip
        refine mo_al0 (pc := 12) X dX2_settleWeek_12 ?_
        refine mo_il3 (pc := 13) X dX2_settleWeek_13 ?_
        refine mo_cVI (pc := 14) (As := [_]) X mo_k_X2_110 mo_y_yX2_isOpen rfl dX2_settleWeek_14 (ct2_isOpen (k := i) hs hS1 hI1 (by omega) (by rw [h7]; omega)) (mo_St_o hs) rfl (by decide) (by decide) (Nat.le_of_ble_eq_true rfl) ?_
        rintro r_14 _ ⟨h_14, rfl⟩
        refine mo_if_eq (pc := 17) (tgt := 29) X dX2_settleWeek_17 (by decide) ?_ (fun c_17 => ?_) (fun c_17 => ?_)
        · omega
        · skip
          refine mo_ii3 (pc := 29) X dX2_settleWeek_29 rfl (by decide) ?_
          refine mo_goto (pc := 32) (tgt := 4) X dX2_settleWeek_32 (by decide) ?_
          have e := mo_b0 h_14 c_17
          have e2 : mo_hw g (i + 1) = mo_hw g i := by rw [mo_hw, if_neg e]
          refine ih (i + 1) _ _ _ (by omega) (by omega) ?_ ?_ hf
          · omega
          · rw [e2]
            exact hS1
        · skip
          refine mo_al0 (pc := 20) X dX2_settleWeek_20 ?_
          refine mo_il3 (pc := 21) X dX2_settleWeek_21 ?_
          refine mo_il1 (pc := 22) X dX2_settleWeek_22 ?_
          refine mo_cVV (pc := 23) (As := [_, _]) X mo_k_X2_114 mo_y_yX2_settle rfl dX2_settleWeek_23 (ct2_settle1 (k := i) hs hS1 hI1 (by omega) (by rw [h7]; omega)) (mo_St_o hs) rfl (by decide) (by decide) (Nat.le_of_ble_eq_true rfl) ?_
          rintro M_23 ⟨h_23, f_23⟩
          refine mo_ii2 (pc := 26) X dX2_settleWeek_26 rfl (by decide) ?_
          refine mo_ii3 (pc := 29) X dX2_settleWeek_29 rfl (by decide) ?_
          refine mo_goto (pc := 32) (tgt := 4) X dX2_settleWeek_32 (by decide) ?_
          have e := mo_b1 h_14 c_17
          have e2 : mo_hw g (i + 1) = mo_hd (mo_hw g i) i := by rw [mo_hw, if_pos e]
          refine ih (i + 1) _ _ _ (by omega) (by omega) ?_ ?_ (fun a ha => by rw [f_23 a ha, hf a ha])
          · omega
          · rw [e2]
            exact h_23
  have h0 := lp1 (mo_nk g) 0 0 0 M (by omega) rfl (by omega) hS (fun a ha => rfl)
  refine mo_iconst (pc := 0) X dX2_settleWeek_0 ?_
  refine mo_is2 (pc := 1) X dX2_settleWeek_1 rfl (by decide) ?_
  refine mo_iconst (pc := 2) X dX2_settleWeek_2 ?_
  refine mo_is3 (pc := 3) X dX2_settleWeek_3 rfl (by decide) ?_
  exact h0
set_option maxHeartbeats 4000000 in
set_option maxRecDepth 100000 in
theorem ct2_settleWeek2 {lf : Launch} {ρf : mo_E} {G : mo_G} {M : mo_M} {t : Nat} {h : Nat} (hs : mo_St G h) {g : Nat → Int} {B : Int} (hS : mo_SR M h g) (hI : mo_Iv g B) (hB : B ≤ 999999900) : mo_Ct lf ρf yX2_settleWeek cX2_settleWeek 4 (some .int) 3 0 0 [.ref h, mo_iv 2] G M t (mo_pi G t (fun x M' => x = (mo_mw g (mo_nk g)).1 ∧ mo_SR M' h ((mo_mw g (mo_nk g)).2) ∧ ∀ a, mo_out h a → M' a = M a)) := by
  refine mo_ofW (ls0 := [some (.ref h), some (mo_iv 2), none, none]) (by decide) rfl (Nat.le_of_ble_eq_true rfl) ?_
  intro κ X Y
  have X : mo_Cx κ lf ρf cX2_settleWeek 4 RX2 (some .int) 3 := X
  obtain ⟨hI0, hI1, hI2, hI3, hI4, hI5, hI6, hI7, hIh, hIa, hIe, hIm, hIs, hIl, hIw, hIr, hIt, hIs2, hIs3, hIz⟩ := id hI
  have hn : ((mo_nk g : Nat) : Int) = g 7 := by unfold mo_nk; omega
  have lp1 : ∀ (z i : Nat) (x y : Int) (M1 : mo_M), i + z = mo_nk g → x = i → y = (mo_mw g i).1 → mo_SR M1 h ((mo_mw g i).2) → (∀ a, mo_out h a → M1 a = M a) → mo_V κ 0 0 4 [some (.ref h), some (mo_iv 2), some (mo_iv y), some (mo_iv x)] [] G M1 t := by
    intro z
    induction z with
    | zero =>
      intro i x y M1 hi hx hy hS1 hf
      subst hx
      have h7 := (mo_mw_b hI i (by omega)).2.1
      have hyb := (mo_mw_b hI i (by omega)).2.2.2
      refine mo_il3 (pc := 4) X dX2_settleWeek_4 ?_
      refine mo_al0 (pc := 5) X dX2_settleWeek_5 ?_
      refine mo_f_X2_54 (pc := 6) X dX2_settleWeek_6 (mo_St_o hs) ?_
      rw [hS1.2.2.2.1, h7, ← hn]
      refine mo_ic_ge (pc := 9) (tgt := 35) X dX2_settleWeek_9 (by decide) ?_ ?_ (fun c_9 => ?_) (fun c_9 => ?_)
      · omega
      · omega
      · skip
        refine mo_il2 (pc := 35) X dX2_settleWeek_35 ?_
        refine mo_iret (pc := 36) X Y rfl dX2_settleWeek_36 ⟨rfl, rfl, _, rfl, ?_⟩
        rw [show i = mo_nk g by omega] at hS1 hy
        exact ⟨hy, hS1, hf⟩
      · exfalso
        omega
    | succ z ih =>
      intro i x y M1 hi hx hy hS1 hf
      subst hx
      obtain ⟨hI1, h7, h0, hyb⟩ := mo_mw_b hI i (by omega)
      refine mo_il3 (pc := 4) X dX2_settleWeek_4 ?_
      refine mo_al0 (pc := 5) X dX2_settleWeek_5 ?_
      refine mo_f_X2_54 (pc := 6) X dX2_settleWeek_6 (mo_St_o hs) ?_
      rw [hS1.2.2.2.1, h7, ← hn]
      refine mo_ic_ge (pc := 9) (tgt := 35) X dX2_settleWeek_9 (by decide) ?_ ?_ (fun c_9 => ?_) (fun c_9 => ?_)
      · omega
      · omega
      · exfalso
        omega
      · skip
        refine mo_al0 (pc := 12) X dX2_settleWeek_12 ?_
        refine mo_il3 (pc := 13) X dX2_settleWeek_13 ?_
        refine mo_cVI (pc := 14) (As := [_]) X mo_k_X2_110 mo_y_yX2_isOpen rfl dX2_settleWeek_14 (ct2_isOpen (k := i) hs hS1 hI1 (by omega) (by rw [h7]; omega)) (mo_St_o hs) rfl (by decide) (by decide) (Nat.le_of_ble_eq_true rfl) ?_
        rintro r_14 _ ⟨h_14, rfl⟩
        refine mo_if_eq (pc := 17) (tgt := 29) X dX2_settleWeek_17 (by decide) ?_ (fun c_17 => ?_) (fun c_17 => ?_)
        · omega
        · skip
          refine mo_ii3 (pc := 29) X dX2_settleWeek_29 rfl (by decide) ?_
          refine mo_goto (pc := 32) (tgt := 4) X dX2_settleWeek_32 (by decide) ?_
          have e := mo_b0 h_14 c_17
          have e2 : mo_mw g (i + 1) = mo_mw g i := by rw [mo_mw, if_neg e]
          refine ih (i + 1) _ _ _ (by omega) (by omega) ?_ ?_ hf
          · rw [e2]
            exact hy
          · rw [e2]
            exact hS1
        · skip
          refine mo_al0 (pc := 20) X dX2_settleWeek_20 ?_
          refine mo_il3 (pc := 21) X dX2_settleWeek_21 ?_
          refine mo_il1 (pc := 22) X dX2_settleWeek_22 ?_
          refine mo_cVV (pc := 23) (As := [_, _]) X mo_k_X2_114 mo_y_yX2_settle rfl dX2_settleWeek_23 (ct2_settle2 (k := i) hs hS1 hI1 (by omega) (by rw [h7]; omega)) (mo_St_o hs) rfl (by decide) (by decide) (Nat.le_of_ble_eq_true rfl) ?_
          rintro M_23 ⟨h_23, f_23⟩
          refine mo_ii2 (pc := 26) X dX2_settleWeek_26 rfl (by decide) ?_
          refine mo_ii3 (pc := 29) X dX2_settleWeek_29 rfl (by decide) ?_
          refine mo_goto (pc := 32) (tgt := 4) X dX2_settleWeek_32 (by decide) ?_
          have e := mo_b1 h_14 c_17
          have e2 : mo_mw g (i + 1) = ((mo_mw g i).1 + 1, mo_ms (mo_mw g i).2 i) := by rw [mo_mw, if_pos e]
          refine ih (i + 1) _ _ _ (by omega) (by omega) ?_ ?_ (fun a ha => by rw [f_23 a ha, hf a ha])
          · rw [e2, hy]
          · rw [e2]
            exact h_23
  have h0 := lp1 (mo_nk g) 0 0 0 M (by omega) rfl rfl hS (fun a ha => rfl)
  refine mo_iconst (pc := 0) X dX2_settleWeek_0 ?_
  refine mo_is2 (pc := 1) X dX2_settleWeek_1 rfl (by decide) ?_
  refine mo_iconst (pc := 2) X dX2_settleWeek_2 ?_
  refine mo_is3 (pc := 3) X dX2_settleWeek_3 rfl (by decide) ?_
  exact h0
def mo_kc (p : Nat → Bool) : Nat → Nat
  | 0 => 0
  | n + 1 => mo_kc p n + (if p n = true then 1 else 0)
theorem mo_kc_le (p : Nat → Bool) : ∀ n, mo_kc p n ≤ n
  | 0 => Nat.le_refl _
  | n + 1 => by
    have := mo_kc_le p n
    rw [mo_kc]
    split <;> omega
theorem mo_kc_mono (p : Nat → Bool) {a : Nat} : ∀ {b : Nat}, a ≤ b → mo_kc p a ≤ mo_kc p b
  | 0, h => by rw [show a = 0 by omega]; exact Nat.le_refl _
  | b + 1, h => by
    by_cases c : a = b + 1
    · rw [c]; exact Nat.le_refl _
    · have := mo_kc_mono p (a := a) (b := b) (by omega)
      rw [mo_kc]
      omega
theorem mo_kc_lt (p : Nat → Bool) {a b : Nat} (h : a < b) (ha : p a = true) : mo_kc p a < mo_kc p b := by
  have := mo_kc_mono p (a := a + 1) (b := b) h
  rw [mo_kc, if_pos ha] at this
  omega
theorem mo_kc_congr {p q : Nat → Bool} : ∀ {n : Nat}, (∀ j, j < n → p j = q j) → mo_kc p n = mo_kc q n
  | 0, _ => rfl
  | n + 1, h => by rw [mo_kc, mo_kc, mo_kc_congr (fun j hj => h j (by omega)), h n (by omega)]
theorem mo_kc_on (p : Nat → Bool) : ∀ {n q : Nat}, q < mo_kc p n → ∃ i, i < n ∧ p i = true ∧ mo_kc p i = q
  | 0, q, h => absurd h (by rw [mo_kc]; omega)
  | n + 1, q, h => by
    by_cases c : q < mo_kc p n
    · obtain ⟨i, h1, h2, h3⟩ := mo_kc_on p c
      exact ⟨i, by omega, h2, h3⟩
    · rw [mo_kc] at h
      by_cases e : p n = true
      · rw [if_pos e] at h
        exact ⟨n, by omega, e, by omega⟩
      · rw [if_neg e] at h
        omega
/-- the ones that are kept -/
def mo_kpt (g : Nat → Int) (k : Nat) : Bool := decide (mo_fld g k 2 ≥ g 0 - 4)
theorem mo_gn_lo : ∀ (k : Nat) (g : Nat → Int) {j : Nat}, j ≠ 7 → j < 215 → mo_gn g k j = g j
  | 0, _, _, _, _ => rfl
  | k + 1, g, j, h7, h => by
    rw [mo_gn]
    split
    · rw [mo_gn_lo k _ h7 h, mo_to_lo h7 h]
    · exact mo_gn_lo k g h7 h
theorem mo_gn_f : ∀ (k : Nat) (g : Nat → Int), 0 ≤ g 7 → k ≤ mo_nk g → mo_gn g k 7 = g 7 - k + mo_kc (mo_kpt g) k ∧ (∀ i j, i < k → mo_kpt g i = true → j < 7 → mo_fld (mo_gn g k) (mo_kc (mo_kpt g) i) j = mo_fld g i j) ∧ (∀ i j, k ≤ i → i < mo_nk g → j < 7 → mo_fld (mo_gn g k) (mo_kc (mo_kpt g) k + (i - k)) j = mo_fld g i j)
  | 0, g, h0, hk => ⟨by rw [mo_kc]; show g 7 = _; omega, fun i j h => by omega, fun i j _ _ _ => by rw [mo_kc, show 0 + (i - 0) = i by omega]; rfl⟩
  | k + 1, g, h0, hk => by
    have hn : ((mo_nk g : Nat) : Int) = g 7 := by unfold mo_nk; omega
    by_cases c : 4 < g 0 - mo_fld g k 2
    · have ek : mo_gn g (k + 1) = mo_gn (mo_to g k) k := by rw [mo_gn, if_pos c]
      have e0 : ¬ (mo_kpt g k = true) := by unfold mo_kpt; rw [decide_eq_true_eq]; omega
      have hk2 : mo_nk (mo_to g k) = mo_nk g - 1 := mo_to_k g k h0
      have hp : ∀ i, i < k → mo_kpt (mo_to g k) i = mo_kpt g i := fun i hi => by
        unfold mo_kpt
        rw [mo_to_f (by omega) (by omega), if_pos hi, mo_to_lo (by omega) (by omega)]
      have hc : ∀ i, i ≤ k → mo_kc (mo_kpt (mo_to g k)) i = mo_kc (mo_kpt g) i := fun i hi => mo_kc_congr fun j hj => hp j (by omega)
      have h7 : mo_to g k 7 = g 7 - 1 := mo_to_7 g k
      obtain ⟨a1, a2, a3⟩ := mo_gn_f k (mo_to g k) (by rw [h7]; omega) (by rw [hk2]; omega)
      have hs : mo_kc (mo_kpt g) (k + 1) = mo_kc (mo_kpt g) k := by rw [mo_kc, if_neg e0]; rfl
      rw [ek, hs]
      refine ⟨?_, fun i j hi hki hj => ?_, fun i j hi hin hj => ?_⟩
      · rw [a1, h7, hc k (by omega)]
        push_cast
        omega
      · have hne : i ≠ k := fun q => by rw [q] at hki; exact e0 hki
        have h9 := a2 i j (by omega) (by rw [hp i (by omega)]; exact hki) hj
        rw [hc i (by omega), mo_to_f hj (by omega), if_pos (by omega)] at h9
        exact h9
      · have h9 := a3 (i - 1) j (by omega) (by rw [hk2]; omega) hj
        rw [hc k (by omega), mo_to_f hj (by omega), if_neg (by omega), show i - 1 + 1 = i by omega, show i - 1 - k = i - (k + 1) by omega] at h9
        exact h9
    · have ek : mo_gn g (k + 1) = mo_gn g k := by rw [mo_gn, if_neg c]
      have e0 : mo_kpt g k = true := by unfold mo_kpt; rw [decide_eq_true_eq]; omega
      obtain ⟨a1, a2, a3⟩ := mo_gn_f k g h0 (by omega)
      have hs : mo_kc (mo_kpt g) (k + 1) = mo_kc (mo_kpt g) k + 1 := by rw [mo_kc, if_pos e0]
      rw [ek, hs]
      refine ⟨?_, fun i j hi hki hj => ?_, fun i j hi hin hj => ?_⟩
      · rw [a1]
        push_cast
        omega
      · by_cases q : i = k
        · have h9 := a3 i j (by omega) (by omega) hj
          rw [q, show k - k = 0 by omega] at h9
          rw [q]
          exact h9
        · exact a2 i j (by omega) hki hj
      · have h9 := a3 i j (by omega) hin hj
        rw [show mo_kc (mo_kpt g) k + 1 + (i - (k + 1)) = mo_kc (mo_kpt g) k + (i - k) by omega]
        exact h9
set_option maxHeartbeats 4000000 in
set_option maxRecDepth 100000 in
theorem ct2_beginNextWeek {lf : Launch} {ρf : mo_E} {G : mo_G} {M : mo_M} {t : Nat} {h : Nat} (hs : mo_St G h) {g : Nat → Int} {B : Int} (hS : mo_SR M h g) (hI : mo_Iv g B) (hB : B ≤ 1000000000) : mo_Ct lf ρf yX2_beginNextWeek cX2_beginNextWeek 3 none 3 0 0 [.ref h] G M t (mo_pv G t (fun M' => mo_SR M' h (mo_gn (mo_nw g) (mo_nk g)) ∧ ∀ a, mo_out h a → M' a = M a)) := by
  refine mo_ofW (ls0 := [some (.ref h), none, none]) (by decide) rfl (Nat.le_of_ble_eq_true rfl) ?_
  intro κ X Y
  have X : mo_Cx κ lf ρf cX2_beginNextWeek 3 RX2 none 3 := X
  obtain ⟨s0, s1, s2, s3, s4, s5, sH, sA, sE, sM, sS, sL, sW, sRo, sF⟩ := id hS
  obtain ⟨hI0, hI1, hI2, hI3, hI4, hI5, hI6, hI7, hIh, hIa, hIe, hIm, hIs, hIl, hIw, hIr, hIt, hIs2, hIs3, hIz⟩ := id hI
  have hn : ((mo_nk g : Nat) : Int) = g 7 := by unfold mo_nk; omega
  obtain ⟨n, hn2⟩ : ∃ n, mo_nk g = n := ⟨_, rfl⟩
  rw [hn2] at hn
  obtain ⟨w, hw⟩ : ∃ w : Int, w = g 0 := ⟨_, rfl⟩
  obtain ⟨G1, hG⟩ : ∃ G1, G1 = mo_nw g := ⟨_, rfl⟩
  have g0 : G1 0 = w + 1 := by rw [hG, hw]; exact mo_up_s _ _ _
  have glo : ∀ j, j ≠ 0 → G1 j = g j := fun j a => by rw [hG]; exact mo_up_n a
  have gfl : ∀ k j, mo_fld G1 k j = mo_fld g k j := fun k j => glo _ (by omega)
  have gnk : mo_nk G1 = n := by show (G1 7).toNat = n; rw [glo 7 (by omega)]; exact hn2
  have lp1 : ∀ (z i l : Nat) (x y : Int) (f : Nat → Int), i + z = n → x = i → l = mo_kc (mo_kpt G1) i → y = l → (∀ i2 j, i2 < i → mo_kpt G1 i2 = true → j < 7 → f (7 * mo_kc (mo_kpt G1) i2 + j) = M (h + 18) (7 * i2 + j)) → (∀ j, 7 * i ≤ j → f j = M (h + 18) j) → mo_V κ 0 0 14 [some (.ref h), some (mo_iv y), some (mo_iv x)] [] G (mo_ur (mo_ur M h (va_up (M h) 4 (w + 1))) (h + 18) f) t := by
    intro z
    induction z with
    | zero =>
      intro i l x y f hi hx hl hy hf hf2
      subst hx
      subst hy
      refine mo_il2 (pc := 14) X dX2_beginNextWeek_14 ?_
      refine mo_al0 (pc := 15) X dX2_beginNextWeek_15 ?_
      refine mo_f_X2_54 (pc := 16) X dX2_beginNextWeek_16 (mo_St_o hs) ?_
      rw [mo_ur_n (by omega), mo_ur_s, mo_up_n (by omega), s3, ← hn]
      refine mo_ic_ge (pc := 19) (tgt := 52) X dX2_beginNextWeek_19 (by decide) ?_ ?_ (fun c_19 => ?_) (fun c_19 => ?_)
      · omega
      · omega
      · skip
        refine mo_al0 (pc := 52) X dX2_beginNextWeek_52 ?_
        refine mo_il1 (pc := 53) X dX2_beginNextWeek_53 ?_
        refine mo_p_X2_54 (pc := 54) X dX2_beginNextWeek_54 (mo_St_o hs) ?_
        refine mo_vret (pc := 57) X Y rfl dX2_beginNextWeek_57 ⟨rfl, rfl, rfl, ?_⟩
        show mo_SR _ _ (mo_gn (mo_nw g) (mo_nk g)) ∧ _
        rw [hn2, ← hG]
        obtain rfl : i = n := by omega
        have hll := mo_kc_le (mo_kpt G1) i
        obtain ⟨a1, a2, a3⟩ := mo_gn_f i G1 (by rw [glo 7 (by omega)]; omega) (by omega)
        have a7 : mo_gn G1 i 7 = l := by rw [a1, glo 7 (by omega)]; omega
        refine ⟨?_, fun a ha => by rw [mo_ur_n (by omega), mo_ur_n (by omega), mo_ur_n (by omega)]⟩
        have lo : ∀ j, j ≠ 7 → j < 215 → j ≠ 0 → mo_gn G1 i j = g j := fun j a b c => by rw [mo_gn_lo i G1 a b, glo j c]
        obtain ⟨M2, h2⟩ : ∃ M2 : mo_M, M2 = mo_ur (mo_ur (mo_ur M h (va_up (M h) 4 (w + 1))) (h + 18) f) h (va_up (mo_ur (mo_ur M h (va_up (M h) 4 (w + 1))) (h + 18) f h) 3 (l : Int)) := ⟨_, rfl⟩
        rw [← h2]
        rw [mo_ur_n (show h ≠ h + 18 by omega), mo_ur_s] at h2
        have m0 : M2 h = va_up (va_up (M h) 4 (w + 1)) 3 (l : Int) := by rw [h2, mo_ur_s]
        have m18 : M2 (h + 18) = f := by rw [h2, mo_ur_n (by omega), mo_ur_s]
        have mo : ∀ a, a ≠ h → a ≠ h + 18 → M2 a = M a := fun a x y => by rw [h2, mo_ur_n x, mo_ur_n y, mo_ur_n x]
        refine ⟨?_, ?_, ?_, ?_, ?_, ?_, ?_, ?_, ?_, ?_, ?_, ?_, ?_, ?_, ?_⟩
        · rw [m0, mo_up_n (by omega), mo_up_n (by omega), lo 4 (by omega) (by omega) (by omega)]
          exact s0
        · rw [m0, mo_up_n (by omega), mo_up_n (by omega), lo 5 (by omega) (by omega) (by omega)]
          exact s1
        · rw [m0, mo_up_n (by omega), mo_up_n (by omega), lo 6 (by omega) (by omega) (by omega)]
          exact s2
        · rw [m0, mo_up_s, a7]
        · rw [m0, mo_up_n (by omega), mo_up_s, mo_gn_lo i G1 (by omega) (by omega), g0]
        · rw [m0, mo_up_n (by omega), mo_up_n (by omega), lo 1 (by omega) (by omega) (by omega)]
          exact s5
        · intro j hj
          rw [mo _ (by omega) (by omega), lo _ (by omega) (by omega) (by omega)]
          exact sH j hj
        · intro j hj
          rw [mo _ (by omega) (by omega), lo _ (by omega) (by omega) (by omega)]
          exact sA j hj
        · intro j hj
          rw [mo _ (by omega) (by omega), lo _ (by omega) (by omega) (by omega)]
          exact sE j hj
        · intro j hj
          rw [mo _ (by omega) (by omega), lo _ (by omega) (by omega) (by omega)]
          exact sM j hj
        · intro j hj
          rw [mo _ (by omega) (by omega), lo _ (by omega) (by omega) (by omega)]
          exact sS j hj
        · intro j hj
          rw [mo _ (by omega) (by omega), lo _ (by omega) (by omega) (by omega)]
          exact sL j hj
        · intro j hj
          rw [mo _ (by omega) (by omega), lo _ (by omega) (by omega) (by omega)]
          exact sW j hj
        · intro j hj
          rw [mo _ (by omega) (by omega), lo _ (by omega) (by omega) (by omega)]
          exact sRo j hj
        · intro k j hk hj
          rw [a7, hl] at hk
          obtain ⟨i2, b1, b2, b3⟩ := mo_kc_on (mo_kpt G1) (n := i) (q := k) (by omega)
          rw [m18, ← b3, hf i2 j b1 b2 hj, a2 i2 _ b1 b2 (by omega), gfl]
          exact sF i2 j (by omega) hj
      · exfalso
        omega
    | succ z ih =>
      intro i l x y f hi hx hl hy hf hf2
      subst hx
      subst hy
      have hll := mo_kc_le (mo_kpt G1) i
      have hfi := hf2 (7 * i + 1) (by omega)
      rw [sF i 1 (by omega) (by omega)] at hfi
      have hti := hIt i (by omega)
      unfold mo_Mt at hti
      have hfj : mo_fld g i ((1 + 1) % 7) = mo_fld G1 i 2 := (gfl i 2).symm
      have hfk : mo_fld g i 2 = mo_fld G1 i 2 := (gfl i 2).symm
      rw [hfj] at hfi
      rw [hfk] at hti
      refine mo_il2 (pc := 14) X dX2_beginNextWeek_14 ?_
      refine mo_al0 (pc := 15) X dX2_beginNextWeek_15 ?_
      refine mo_f_X2_54 (pc := 16) X dX2_beginNextWeek_16 (mo_St_o hs) ?_
      rw [mo_ur_n (by omega), mo_ur_s, mo_up_n (by omega), s3, ← hn]
      refine mo_ic_ge (pc := 19) (tgt := 52) X dX2_beginNextWeek_19 (by decide) ?_ ?_ (fun c_19 => ?_) (fun c_19 => ?_)
      · omega
      · omega
      · exfalso
        omega
      · skip
        refine mo_al0 (pc := 22) X dX2_beginNextWeek_22 ?_
        refine mo_il2 (pc := 23) X dX2_beginNextWeek_23 ?_
        refine mo_iconst (pc := 24) X dX2_beginNextWeek_24 ?_
        refine mo_cVI (pc := 25) (As := [_, _]) X mo_k_X2_83 mo_y_yX2_fact rfl dX2_beginNextWeek_25 (ct2_fact (k := i) (j := 1) hs (by omega)) (mo_St_o hs) rfl (by decide) (by decide) (Nat.le_of_ble_eq_true rfl) ?_
        rintro r_25 _ ⟨h_25, rfl⟩
        rw [mo_ur_s, hfi] at h_25
        subst h_25
        refine mo_al0 (pc := 28) X dX2_beginNextWeek_28 ?_
        refine mo_f_X2_57 (pc := 29) X dX2_beginNextWeek_29 (mo_St_o hs) ?_
        rw [mo_ur_n (by omega), mo_ur_s, mo_up_s]
        refine mo_iconst (pc := 32) X dX2_beginNextWeek_32 ?_
        refine mo_isub (pc := 33) X dX2_beginNextWeek_33 ?_
        refine mo_ic_lt (pc := 34) (tgt := 46) X dX2_beginNextWeek_34 (by decide) ?_ ?_ (fun c_34 => ?_) (fun c_34 => ?_)
        · omega
        · omega
        · skip
          refine mo_ii2 (pc := 46) X dX2_beginNextWeek_46 rfl (by decide) ?_
          refine mo_goto (pc := 49) (tgt := 14) X dX2_beginNextWeek_49 (by decide) ?_
          have e0 : ¬ (mo_kpt G1 i = true) := by unfold mo_kpt; rw [decide_eq_true_eq, g0]; omega
          have es : mo_kc (mo_kpt G1) (i + 1) = mo_kc (mo_kpt G1) i := by rw [mo_kc, if_neg e0]; rfl
          refine ih (i + 1) l _ _ _ (by omega) (by omega) (by rw [es]; exact hl) rfl (fun i2 j a b c => ?_) (fun j a => hf2 j (by omega))
          have hne : i2 ≠ i := fun q => by rw [q] at b; exact e0 b
          exact hf i2 j (by omega) b c
        · skip
          refine mo_al0 (pc := 37) X dX2_beginNextWeek_37 ?_
          refine mo_il2 (pc := 38) X dX2_beginNextWeek_38 ?_
          refine mo_il1 (pc := 39) X dX2_beginNextWeek_39 ?_
          refine mo_cVV (pc := 40) (As := [_, _]) X mo_k_X2_104 mo_y_yX2_moveMeeting rfl dX2_beginNextWeek_40 (ct2_moveMeeting (a := i) (b := l) hs (by omega) (by omega)) (mo_St_o hs) rfl (by decide) (by decide) (Nat.le_of_ble_eq_true rfl) ?_
          rintro M_40 h_40
          rw [mo_ur_s, mo_ur_ur] at h_40
          subst h_40
          refine mo_ii1 (pc := 43) X dX2_beginNextWeek_43 rfl (by decide) ?_
          refine mo_ii2 (pc := 46) X dX2_beginNextWeek_46 rfl (by decide) ?_
          refine mo_goto (pc := 49) (tgt := 14) X dX2_beginNextWeek_49 (by decide) ?_
          have e0 : mo_kpt G1 i = true := by unfold mo_kpt; rw [decide_eq_true_eq, g0]; omega
          have es : mo_kc (mo_kpt G1) (i + 1) = mo_kc (mo_kpt G1) i + 1 := by rw [mo_kc, if_pos e0]
          refine ih (i + 1) (l + 1) _ _ _ (by omega) (by omega) (by rw [es, hl]) (by omega) (fun i2 j a b c => ?_) (fun j a => ?_)
          · unfold mo_mvr
            by_cases q : i2 = i
            · rw [q, ← hl, if_pos (by omega), show 7 * i + (7 * l + j - 7 * l) = 7 * i + j by omega, hf2 _ (by omega)]
            · have h9 := mo_kc_lt (mo_kpt G1) (a := i2) (b := i) (by omega) b
              rw [if_neg (by omega)]
              exact hf i2 j (by omega) b c
          · unfold mo_mvr
            rw [if_neg (by omega)]
            exact hf2 j (by omega)
  have h0 := lp1 n 0 0 0 0 (M (h + 18)) (by omega) rfl rfl rfl (fun i2 j a => by omega) (fun j hj => rfl)
  rw [show mo_ur (mo_ur M h (va_up (M h) 4 (w + 1))) (h + 18) (M (h + 18)) = mo_ur M h (va_up (M h) 4 (w + 1)) by
    have e := mo_ur_id (mo_ur M h (va_up (M h) 4 (w + 1))) (h + 18)
    rw [mo_ur_n (show h + 18 ≠ h by omega)] at e
    exact e] at h0
  refine mo_al0 (pc := 0) X dX2_beginNextWeek_0 ?_
  refine mo_dup (pc := 1) X dX2_beginNextWeek_1 rfl ?_
  refine mo_f_X2_57 (pc := 2) X dX2_beginNextWeek_2 (mo_St_o hs) ?_
  rw [s4, ← hw]
  refine mo_iconst (pc := 5) X dX2_beginNextWeek_5 ?_
  refine mo_iadd (pc := 6) X dX2_beginNextWeek_6 ?_
  refine mo_p_X2_57 (pc := 7) X dX2_beginNextWeek_7 (mo_St_o hs) ?_
  refine mo_iconst (pc := 10) X dX2_beginNextWeek_10 ?_
  refine mo_is1 (pc := 11) X dX2_beginNextWeek_11 rfl (by decide) ?_
  refine mo_iconst (pc := 12) X dX2_beginNextWeek_12 ?_
  refine mo_is2 (pc := 13) X dX2_beginNextWeek_13 rfl (by decide) ?_
  exact h0
set_option maxHeartbeats 4000000 in
set_option maxRecDepth 100000 in
theorem ct2_copyFrom {lf : Launch} {ρf : mo_E} {G : mo_G} {M : mo_M} {t : Nat} {h : Nat} (hs : mo_St G h) {q : Nat} (hq : mo_St G q) (hqh : q + 18 < h ∨ h + 18 < q) {g : Nat → Int} {B : Int} (hS : mo_SR M q g) (hI : mo_Iv g B) : mo_Ct lf ρf yX2_copyFrom cX2_copyFrom 2 none 2 0 0 [.ref h, .ref q] G M t (mo_pv G t (fun M' => mo_SR M' h g ∧ ∀ a, mo_out h a → M' a = M a)) := by
  refine mo_ofW (ls0 := [some (.ref h), some (.ref q)]) (by decide) rfl (Nat.le_of_ble_eq_true rfl) ?_
  intro κ X Y
  have X : mo_Cx κ lf ρf cX2_copyFrom 2 RX2 none 2 := X
  obtain ⟨s0, s1, s2, s3, s4, s5, sH, sA, sE, sM, sS, sL, sW, sRo, sF⟩ := id hS
  have hI7 := hI.2.2.2.2.2.2.2.1
  refine mo_al1 (pc := 0) X dX2_copyFrom_0 ?_
  refine mo_ifnonnull (pc := 1) (tgt := 5) X dX2_copyFrom_1 (by decide) ?_
  refine mo_al0 (pc := 5) X dX2_copyFrom_5 ?_
  refine mo_al1 (pc := 6) X dX2_copyFrom_6 ?_
  refine mo_f_X2_44 (pc := 7) X dX2_copyFrom_7 (mo_St_o hq) ?_
  rw [s0]
  refine mo_p_X2_44 (pc := 10) X dX2_copyFrom_10 (mo_St_o hs) ?_
  refine mo_al0 (pc := 13) X dX2_copyFrom_13 ?_
  refine mo_al1 (pc := 14) X dX2_copyFrom_14 ?_
  refine mo_f_X2_48 (pc := 15) X dX2_copyFrom_15 (mo_St_o hq) ?_
  rw [mo_ur_n (by omega), s1]
  refine mo_p_X2_48 (pc := 18) X dX2_copyFrom_18 (mo_St_o hs) ?_
  rw [mo_ur_s, mo_ur_ur]
  refine mo_al0 (pc := 21) X dX2_copyFrom_21 ?_
  refine mo_al1 (pc := 22) X dX2_copyFrom_22 ?_
  refine mo_f_X2_51 (pc := 23) X dX2_copyFrom_23 (mo_St_o hq) ?_
  rw [mo_ur_n (by omega), s2]
  refine mo_p_X2_51 (pc := 26) X dX2_copyFrom_26 (mo_St_o hs) ?_
  rw [mo_ur_s, mo_ur_ur]
  refine mo_al0 (pc := 29) X dX2_copyFrom_29 ?_
  refine mo_al1 (pc := 30) X dX2_copyFrom_30 ?_
  refine mo_f_X2_54 (pc := 31) X dX2_copyFrom_31 (mo_St_o hq) ?_
  rw [mo_ur_n (by omega), s3]
  refine mo_p_X2_54 (pc := 34) X dX2_copyFrom_34 (mo_St_o hs) ?_
  rw [mo_ur_s, mo_ur_ur]
  refine mo_al0 (pc := 37) X dX2_copyFrom_37 ?_
  refine mo_al1 (pc := 38) X dX2_copyFrom_38 ?_
  refine mo_f_X2_57 (pc := 39) X dX2_copyFrom_39 (mo_St_o hq) ?_
  rw [mo_ur_n (by omega), s4]
  refine mo_p_X2_57 (pc := 42) X dX2_copyFrom_42 (mo_St_o hs) ?_
  rw [mo_ur_s, mo_ur_ur]
  refine mo_al0 (pc := 45) X dX2_copyFrom_45 ?_
  refine mo_al1 (pc := 46) X dX2_copyFrom_46 ?_
  refine mo_f_X2_60 (pc := 47) X dX2_copyFrom_47 (mo_St_o hq) ?_
  rw [mo_ur_n (by omega), s5]
  refine mo_p_X2_60 (pc := 50) X dX2_copyFrom_50 (mo_St_o hs) ?_
  rw [mo_ur_s, mo_ur_ur]
  refine mo_al0 (pc := 53) X dX2_copyFrom_53 ?_
  refine mo_f_X2_14 (pc := 54) X dX2_copyFrom_54 (mo_St_o hs) (mo_St_p6 hs) ?_
  refine mo_al1 (pc := 57) X dX2_copyFrom_57 ?_
  refine mo_f_X2_14 (pc := 58) X dX2_copyFrom_58 (mo_St_o hq) (mo_St_p6 hq) ?_
  refine mo_cVV (pc := 61) (As := [_]) X mo_k_X2_63 mo_y_yX1_copyFrom rfl dX2_copyFrom_61 (ct_copyRow (a := h + 2) (b := q + 2) (mo_St_r6 hs) rfl (by omega) (mo_St_r6 hq) rfl) (mo_St_r6 hs).1 rfl (by decide) (by decide) (Nat.le_of_ble_eq_true rfl) ?_
  rintro M_61 h_61
  obtain ⟨M0, h0⟩ : ∃ M0 : mo_M, M0 = mo_ur M h (va_up (va_up (va_up (va_up (va_up (va_up (M h) 0 (g 4)) 1 (g 5)) 2 (g 6)) 3 (g 7)) 4 (g 0)) 5 (g 1)) := ⟨_, rfl⟩
  rw [← h0] at h_61
  refine mo_al0 (pc := 64) X dX2_copyFrom_64 ?_
  refine mo_f_X2_20 (pc := 65) X dX2_copyFrom_65 (mo_St_o hs) (mo_St_p7 hs) ?_
  refine mo_al1 (pc := 68) X dX2_copyFrom_68 ?_
  refine mo_f_X2_20 (pc := 69) X dX2_copyFrom_69 (mo_St_o hq) (mo_St_p7 hq) ?_
  refine mo_cVV (pc := 72) (As := [_]) X mo_k_X2_63 mo_y_yX1_copyFrom rfl dX2_copyFrom_72 (ct_copyRow (a := h + 4) (b := q + 4) (mo_St_r7 hs) rfl (by omega) (mo_St_r7 hq) rfl) (mo_St_r7 hs).1 rfl (by decide) (by decide) (Nat.le_of_ble_eq_true rfl) ?_
  rintro M_72 h_72
  refine mo_al0 (pc := 75) X dX2_copyFrom_75 ?_
  refine mo_f_X2_23 (pc := 76) X dX2_copyFrom_76 (mo_St_o hs) (mo_St_p8 hs) ?_
  refine mo_al1 (pc := 79) X dX2_copyFrom_79 ?_
  refine mo_f_X2_23 (pc := 80) X dX2_copyFrom_80 (mo_St_o hq) (mo_St_p8 hq) ?_
  refine mo_cVV (pc := 83) (As := [_]) X mo_k_X2_63 mo_y_yX1_copyFrom rfl dX2_copyFrom_83 (ct_copyRow (a := h + 6) (b := q + 6) (mo_St_r8 hs) rfl (by omega) (mo_St_r8 hq) rfl) (mo_St_r8 hs).1 rfl (by decide) (by decide) (Nat.le_of_ble_eq_true rfl) ?_
  rintro M_83 h_83
  refine mo_al0 (pc := 86) X dX2_copyFrom_86 ?_
  refine mo_f_X2_26 (pc := 87) X dX2_copyFrom_87 (mo_St_o hs) (mo_St_p9 hs) ?_
  refine mo_al1 (pc := 90) X dX2_copyFrom_90 ?_
  refine mo_f_X2_26 (pc := 91) X dX2_copyFrom_91 (mo_St_o hq) (mo_St_p9 hq) ?_
  refine mo_cVV (pc := 94) (As := [_]) X mo_k_X2_63 mo_y_yX1_copyFrom rfl dX2_copyFrom_94 (ct_copyRow (a := h + 8) (b := q + 8) (mo_St_r9 hs) rfl (by omega) (mo_St_r9 hq) rfl) (mo_St_r9 hs).1 rfl (by decide) (by decide) (Nat.le_of_ble_eq_true rfl) ?_
  rintro M_94 h_94
  refine mo_al0 (pc := 97) X dX2_copyFrom_97 ?_
  refine mo_f_X2_29 (pc := 98) X dX2_copyFrom_98 (mo_St_o hs) (mo_St_p10 hs) ?_
  refine mo_al1 (pc := 101) X dX2_copyFrom_101 ?_
  refine mo_f_X2_29 (pc := 102) X dX2_copyFrom_102 (mo_St_o hq) (mo_St_p10 hq) ?_
  refine mo_cVV (pc := 105) (As := [_]) X mo_k_X2_63 mo_y_yX1_copyFrom rfl dX2_copyFrom_105 (ct_copyRow (a := h + 10) (b := q + 10) (mo_St_r10 hs) rfl (by omega) (mo_St_r10 hq) rfl) (mo_St_r10 hs).1 rfl (by decide) (by decide) (Nat.le_of_ble_eq_true rfl) ?_
  rintro M_105 h_105
  refine mo_al0 (pc := 108) X dX2_copyFrom_108 ?_
  refine mo_f_X2_32 (pc := 109) X dX2_copyFrom_109 (mo_St_o hs) (mo_St_p11 hs) ?_
  refine mo_al1 (pc := 112) X dX2_copyFrom_112 ?_
  refine mo_f_X2_32 (pc := 113) X dX2_copyFrom_113 (mo_St_o hq) (mo_St_p11 hq) ?_
  refine mo_cVV (pc := 116) (As := [_]) X mo_k_X2_63 mo_y_yX1_copyFrom rfl dX2_copyFrom_116 (ct_copyRow (a := h + 12) (b := q + 12) (mo_St_r11 hs) rfl (by omega) (mo_St_r11 hq) rfl) (mo_St_r11 hs).1 rfl (by decide) (by decide) (Nat.le_of_ble_eq_true rfl) ?_
  rintro M_116 h_116
  refine mo_al0 (pc := 119) X dX2_copyFrom_119 ?_
  refine mo_f_X2_35 (pc := 120) X dX2_copyFrom_120 (mo_St_o hs) (mo_St_p12 hs) ?_
  refine mo_al1 (pc := 123) X dX2_copyFrom_123 ?_
  refine mo_f_X2_35 (pc := 124) X dX2_copyFrom_124 (mo_St_o hq) (mo_St_p12 hq) ?_
  refine mo_cVV (pc := 127) (As := [_]) X mo_k_X2_63 mo_y_yX1_copyFrom rfl dX2_copyFrom_127 (ct_copyRow (a := h + 14) (b := q + 14) (mo_St_r12 hs) rfl (by omega) (mo_St_r12 hq) rfl) (mo_St_r12 hs).1 rfl (by decide) (by decide) (Nat.le_of_ble_eq_true rfl) ?_
  rintro M_127 h_127
  refine mo_al0 (pc := 130) X dX2_copyFrom_130 ?_
  refine mo_f_X2_38 (pc := 131) X dX2_copyFrom_131 (mo_St_o hs) (mo_St_p13 hs) ?_
  refine mo_al1 (pc := 134) X dX2_copyFrom_134 ?_
  refine mo_f_X2_38 (pc := 135) X dX2_copyFrom_135 (mo_St_o hq) (mo_St_p13 hq) ?_
  refine mo_cVV (pc := 138) (As := [_]) X mo_k_X2_63 mo_y_yX1_copyFrom rfl dX2_copyFrom_138 (ct_copyRow (a := h + 16) (b := q + 16) (mo_St_r13 hs) rfl (by omega) (mo_St_r13 hq) rfl) (mo_St_r13 hs).1 rfl (by decide) (by decide) (Nat.le_of_ble_eq_true rfl) ?_
  rintro M_138 h_138
  refine mo_al0 (pc := 141) X dX2_copyFrom_141 ?_
  refine mo_f_X2_41 (pc := 142) X dX2_copyFrom_142 (mo_St_o hs) (mo_St_p14 hs) ?_
  refine mo_al1 (pc := 145) X dX2_copyFrom_145 ?_
  refine mo_f_X2_41 (pc := 146) X dX2_copyFrom_146 (mo_St_o hq) (mo_St_p14 hq) ?_
  refine mo_cVV (pc := 149) (As := [_]) X mo_k_X2_63 mo_y_yX1_copyFrom rfl dX2_copyFrom_149 (ct_copyRow (a := h + 18) (b := q + 18) (mo_St_r14 hs) rfl (by omega) (mo_St_r14 hq) rfl) (mo_St_r14 hs).1 rfl (by decide) (by decide) (Nat.le_of_ble_eq_true rfl) ?_
  rintro M_149 h_149
  refine mo_vret (pc := 152) X Y rfl dX2_copyFrom_152 ⟨rfl, rfl, rfl, ?_⟩
  have m0 : M_149 h = va_up (va_up (va_up (va_up (va_up (va_up (M h) 0 (g 4)) 1 (g 5)) 2 (g 6)) 3 (g 7)) 4 (g 0)) 5 (g 1) := by rw [h_149, mo_ur_n (by omega), h_138, mo_ur_n (by omega), h_127, mo_ur_n (by omega), h_116, mo_ur_n (by omega), h_105, mo_ur_n (by omega), h_94, mo_ur_n (by omega), h_83, mo_ur_n (by omega), h_72, mo_ur_n (by omega), h_61, mo_ur_n (by omega), h0, mo_ur_s]
  have e0 : M0 (q + 2) = M (q + 2) := by rw [h0, mo_ur_n (by omega)]
  have m2 : ∀ j, j < 160 → M_149 (h + 2) j = M (q + 2) j := fun j hj => by rw [h_149, mo_ur_n (by omega), h_138, mo_ur_n (by omega), h_127, mo_ur_n (by omega), h_116, mo_ur_n (by omega), h_105, mo_ur_n (by omega), h_94, mo_ur_n (by omega), h_83, mo_ur_n (by omega), h_72, mo_ur_n (by omega), h_61, mo_ur_s, mo_cpy_0, if_pos hj, e0]
  have e1 : M_61 (q + 4) = M (q + 4) := by rw [h_61, mo_ur_n (by omega), h0, mo_ur_n (by omega)]
  have m4 : ∀ j, j < 8 → M_149 (h + 4) j = M (q + 4) j := fun j hj => by rw [h_149, mo_ur_n (by omega), h_138, mo_ur_n (by omega), h_127, mo_ur_n (by omega), h_116, mo_ur_n (by omega), h_105, mo_ur_n (by omega), h_94, mo_ur_n (by omega), h_83, mo_ur_n (by omega), h_72, mo_ur_s, mo_cpy_0, if_pos hj, e1]
  have e2 : M_72 (q + 6) = M (q + 6) := by rw [h_72, mo_ur_n (by omega), h_61, mo_ur_n (by omega), h0, mo_ur_n (by omega)]
  have m6 : ∀ j, j < 8 → M_149 (h + 6) j = M (q + 6) j := fun j hj => by rw [h_149, mo_ur_n (by omega), h_138, mo_ur_n (by omega), h_127, mo_ur_n (by omega), h_116, mo_ur_n (by omega), h_105, mo_ur_n (by omega), h_94, mo_ur_n (by omega), h_83, mo_ur_s, mo_cpy_0, if_pos hj, e2]
  have e3 : M_83 (q + 8) = M (q + 8) := by rw [h_83, mo_ur_n (by omega), h_72, mo_ur_n (by omega), h_61, mo_ur_n (by omega), h0, mo_ur_n (by omega)]
  have m8 : ∀ j, j < 8 → M_149 (h + 8) j = M (q + 8) j := fun j hj => by rw [h_149, mo_ur_n (by omega), h_138, mo_ur_n (by omega), h_127, mo_ur_n (by omega), h_116, mo_ur_n (by omega), h_105, mo_ur_n (by omega), h_94, mo_ur_s, mo_cpy_0, if_pos hj, e3]
  have e4 : M_94 (q + 10) = M (q + 10) := by rw [h_94, mo_ur_n (by omega), h_83, mo_ur_n (by omega), h_72, mo_ur_n (by omega), h_61, mo_ur_n (by omega), h0, mo_ur_n (by omega)]
  have m10 : ∀ j, j < 6 → M_149 (h + 10) j = M (q + 10) j := fun j hj => by rw [h_149, mo_ur_n (by omega), h_138, mo_ur_n (by omega), h_127, mo_ur_n (by omega), h_116, mo_ur_n (by omega), h_105, mo_ur_s, mo_cpy_0, if_pos hj, e4]
  have e5 : M_105 (q + 12) = M (q + 12) := by rw [h_105, mo_ur_n (by omega), h_94, mo_ur_n (by omega), h_83, mo_ur_n (by omega), h_72, mo_ur_n (by omega), h_61, mo_ur_n (by omega), h0, mo_ur_n (by omega)]
  have m12 : ∀ j, j < 6 → M_149 (h + 12) j = M (q + 12) j := fun j hj => by rw [h_149, mo_ur_n (by omega), h_138, mo_ur_n (by omega), h_127, mo_ur_n (by omega), h_116, mo_ur_s, mo_cpy_0, if_pos hj, e5]
  have e6 : M_116 (q + 14) = M (q + 14) := by rw [h_116, mo_ur_n (by omega), h_105, mo_ur_n (by omega), h_94, mo_ur_n (by omega), h_83, mo_ur_n (by omega), h_72, mo_ur_n (by omega), h_61, mo_ur_n (by omega), h0, mo_ur_n (by omega)]
  have m14 : ∀ j, j < 6 → M_149 (h + 14) j = M (q + 14) j := fun j hj => by rw [h_149, mo_ur_n (by omega), h_138, mo_ur_n (by omega), h_127, mo_ur_s, mo_cpy_0, if_pos hj, e6]
  have e7 : M_127 (q + 16) = M (q + 16) := by rw [h_127, mo_ur_n (by omega), h_116, mo_ur_n (by omega), h_105, mo_ur_n (by omega), h_94, mo_ur_n (by omega), h_83, mo_ur_n (by omega), h_72, mo_ur_n (by omega), h_61, mo_ur_n (by omega), h0, mo_ur_n (by omega)]
  have m16 : ∀ j, j < 5 → M_149 (h + 16) j = M (q + 16) j := fun j hj => by rw [h_149, mo_ur_n (by omega), h_138, mo_ur_s, mo_cpy_0, if_pos hj, e7]
  have e8 : M_138 (q + 18) = M (q + 18) := by rw [h_138, mo_ur_n (by omega), h_127, mo_ur_n (by omega), h_116, mo_ur_n (by omega), h_105, mo_ur_n (by omega), h_94, mo_ur_n (by omega), h_83, mo_ur_n (by omega), h_72, mo_ur_n (by omega), h_61, mo_ur_n (by omega), h0, mo_ur_n (by omega)]
  have m18 : ∀ j, j < 420 → M_149 (h + 18) j = M (q + 18) j := fun j hj => by rw [h_149, mo_ur_s, mo_cpy_0, if_pos hj, e8]
  refine ⟨⟨?_, ?_, ?_, ?_, ?_, ?_, fun j hj => (m2 j hj).trans (sH j hj), fun j hj => (m4 j hj).trans (sA j hj), fun j hj => (m6 j hj).trans (sE j hj), fun j hj => (m8 j hj).trans (sM j hj), fun j hj => (m10 j hj).trans (sS j hj), fun j hj => (m12 j hj).trans (sL j hj), fun j hj => (m14 j hj).trans (sW j hj), fun j hj => (m16 j hj).trans (sRo j hj), fun k j hk hj => (m18 _ (by omega)).trans (sF k j hk hj)⟩, fun a ha => by rw [h_149, mo_ur_n (by omega), h_138, mo_ur_n (by omega), h_127, mo_ur_n (by omega), h_116, mo_ur_n (by omega), h_105, mo_ur_n (by omega), h_94, mo_ur_n (by omega), h_83, mo_ur_n (by omega), h_72, mo_ur_n (by omega), h_61, mo_ur_n (by omega), h0, mo_ur_n (by omega)]⟩
  · rw [m0, mo_up_n (by omega), mo_up_n (by omega), mo_up_n (by omega), mo_up_n (by omega), mo_up_n (by omega), mo_up_s]
  · rw [m0, mo_up_n (by omega), mo_up_n (by omega), mo_up_n (by omega), mo_up_n (by omega), mo_up_s]
  · rw [m0, mo_up_n (by omega), mo_up_n (by omega), mo_up_n (by omega), mo_up_s]
  · rw [m0, mo_up_n (by omega), mo_up_n (by omega), mo_up_s]
  · rw [m0, mo_up_n (by omega), mo_up_s]
  · rw [m0, mo_up_s]
