def mo_flr (f : Nat → Int) (a b : Nat) (v : Int) : Nat → Int := fun j => if a ≤ j ∧ j < b then v else f j
set_option maxHeartbeats 4000000 in
set_option maxRecDepth 100000 in
theorem ct2_setHoursFrom {lf : Launch} {ρf : mo_E} {G : mo_G} {M : mo_M} {t : Nat} {h : Nat} (hs : mo_St G h) {o w : Nat} {v : Int} (ho : o < 8) (hw : w < 20) : mo_Ct lf ρf yX2_setHoursFrom cX2_setHoursFrom 5 none 1 0 0 [.ref h, mo_iv o, mo_iv w, mo_iv v] G M t (mo_pv G t (fun M' => M' = mo_ur M (h + 2) (mo_flr (M (h + 2)) (20 * o + w) (20 * o + 20) v))) := by
  refine mo_ofW (ls0 := [some (.ref h), some (mo_iv o), some (mo_iv w), some (mo_iv v), none]) (by decide) rfl (Nat.le_of_ble_eq_true rfl) ?_
  intro κ X Y
  have X : mo_Cx κ lf ρf cX2_setHoursFrom 5 RX2 none 1 := X
  have lp1 : ∀ (z i : Nat) (x : Int) (f : Nat → Int), i + z = 20 → w ≤ i → x = i → f = mo_flr (M (h + 2)) (20 * o + w) (20 * o + i) v → mo_V κ 0 0 3 [some (.ref h), some (mo_iv o), some (mo_iv w), some (mo_iv v), some (mo_iv x)] [] G (mo_ur M (h + 2) f) t := by
    intro z
    induction z with
    | zero =>
      intro i x f hi hwi hx hf
      subst hx
      refine mo_il4 (pc := 3) X dX2_setHoursFrom_3 ?_
      refine mo_bipush (pc := 5) X dX2_setHoursFrom_5 (by decide) ?_
      refine mo_ic_ge (pc := 7) (tgt := 31) X dX2_setHoursFrom_7 (by decide) ?_ ?_ (fun c_7 => ?_) (fun c_7 => ?_)
      · omega
      · omega
      · skip
        refine mo_vret (pc := 31) X Y rfl dX2_setHoursFrom_31 ⟨rfl, rfl, rfl, ?_⟩
        show mo_ur _ _ _ = _
        rw [hf, show i = 20 by omega]
      · exfalso
        omega
    | succ z ih =>
      intro i x f hi hwi hx hf
      subst hx
      refine mo_il4 (pc := 3) X dX2_setHoursFrom_3 ?_
      refine mo_bipush (pc := 5) X dX2_setHoursFrom_5 (by decide) ?_
      refine mo_ic_ge (pc := 7) (tgt := 31) X dX2_setHoursFrom_7 (by decide) ?_ ?_ (fun c_7 => ?_) (fun c_7 => ?_)
      · omega
      · omega
      · exfalso
        omega
      · skip
        refine mo_al0 (pc := 10) X dX2_setHoursFrom_10 ?_
        refine mo_f_X2_14 (pc := 11) X dX2_setHoursFrom_11 (mo_St_o hs) (mo_St_p6 hs) ?_
        refine mo_il1 (pc := 14) X dX2_setHoursFrom_14 ?_
        refine mo_bipush (pc := 15) X dX2_setHoursFrom_15 (by decide) ?_
        refine mo_imul (pc := 17) X dX2_setHoursFrom_17 ?_
        refine mo_il4 (pc := 18) X dX2_setHoursFrom_18 ?_
        refine mo_iadd (pc := 20) X dX2_setHoursFrom_20 ?_
        refine mo_il3 (pc := 21) X dX2_setHoursFrom_21 ?_
        refine mo_cVV (pc := 22) (As := [_, _]) X mo_k_X2_71 mo_y_yX1_set rfl dX2_setHoursFrom_22 (ct_set (a := h + 2) (j := 20 * o + i) (mo_St_r6 hs) rfl (by omega) (by omega) (by omega) (by omega)) (mo_St_r6 hs).1 rfl (by decide) (by decide) (Nat.le_of_ble_eq_true rfl) ?_
        rintro M_22 h_22
        rw [mo_ur_s, mo_ur_ur] at h_22
        subst h_22
        refine mo_ii4 (pc := 25) X dX2_setHoursFrom_25 rfl (by decide) ?_
        refine mo_goto (pc := 28) (tgt := 3) X dX2_setHoursFrom_28 (by decide) ?_
        refine ih (i + 1) _ _ (by omega) (by omega) (by omega) ?_
        rw [hf]
        funext j
        unfold va_up mo_flr
        by_cases e : j = 20 * o + i
        · rw [if_pos e, if_pos (by omega)]
        · rw [if_neg e]
          by_cases c : 20 * o + w ≤ j ∧ j < 20 * o + i
          · rw [if_pos c, if_pos (by omega)]
          · rw [if_neg c, if_neg (by omega)]
  have h0 := lp1 (20 - w) w w (M (h + 2)) (by omega) (Nat.le_refl _) rfl (by
    funext j
    unfold mo_flr
    rw [if_neg (by omega)])
  rw [mo_ur_id] at h0
  refine mo_il2 (pc := 0) X dX2_setHoursFrom_0 ?_
  refine mo_is4 (pc := 1) X dX2_setHoursFrom_1 rfl (by decide) ?_
  exact h0
theorem mo_SR_CH {M : mo_M} {h : Nat} {g : Nat → Int} {o w : Nat} {v : Int} (hS : mo_SR M h g) (ho : o < 8) : mo_SR (mo_ur M (h + 2) (mo_flr (M (h + 2)) (20 * o + w) (20 * o + 20) v)) h (mo_gCH g o w v) := by
  obtain ⟨s0, s1, s2, s3, s4, s5, sH, sA, sE, sM, sS, sL, sW, sRo, sF⟩ := id hS
  have lo : ∀ j, j < 8 ∨ 168 ≤ j → mo_gCH g o w v j = g j := fun j hj => by unfold mo_gCH; rw [if_neg (by omega)]
  refine ⟨?_, ?_, ?_, ?_, ?_, ?_, ?_, ?_, ?_, ?_, ?_, ?_, ?_, ?_, ?_⟩
  · rw [mo_ur_n (by omega), lo _ (by omega)]
    exact s0
  · rw [mo_ur_n (by omega), lo _ (by omega)]
    exact s1
  · rw [mo_ur_n (by omega), lo _ (by omega)]
    exact s2
  · rw [mo_ur_n (by omega), lo _ (by omega)]
    exact s3
  · rw [mo_ur_n (by omega), lo _ (by omega)]
    exact s4
  · rw [mo_ur_n (by omega), lo _ (by omega)]
    exact s5
  · intro j hj
    rw [mo_ur_s]
    unfold mo_flr mo_gCH
    by_cases c : 20 * o + w ≤ j ∧ j < 20 * o + 20
    · rw [if_pos c, if_pos (by omega)]
    · rw [if_neg c, if_neg (by omega)]; exact sH j hj
  · intro j hj
    rw [mo_ur_n (by omega), lo _ (by omega)]
    exact sA j hj
  · intro j hj
    rw [mo_ur_n (by omega), lo _ (by omega)]
    exact sE j hj
  · intro j hj
    rw [mo_ur_n (by omega), lo _ (by omega)]
    exact sM j hj
  · intro j hj
    rw [mo_ur_n (by omega), lo _ (by omega)]
    exact sS j hj
  · intro j hj
    rw [mo_ur_n (by omega), lo _ (by omega)]
    exact sL j hj
  · intro j hj
    rw [mo_ur_n (by omega), lo _ (by omega)]
    exact sW j hj
  · intro j hj
    rw [mo_ur_n (by omega), lo _ (by omega)]
    exact sRo j hj
  · intro k j hk hj
    rw [lo 7 (by omega)] at hk
    unfold mo_fld
    rw [mo_ur_n (by omega), lo _ (by omega)]
    exact sF k j hk hj
set_option maxHeartbeats 4000000 in
set_option maxRecDepth 100000 in
theorem ct2_enterOrder {lf : Launch} {ρf : mo_E} {G : mo_G} {M : mo_M} {t : Nat} {h : Nat} (hs : mo_St G h) {g : Nat → Int} {B : Int} (hS : mo_SR M h g) (hI : mo_Iv g B) (hB : B ≤ 1000000000) {p v : Int} (h4 : g 4 < 8) : mo_Ct lf ρf yX2_enterOrder cX2_enterOrder 4 (some .int) 2 0 0 [.ref h, mo_iv p, mo_iv v] G M t (mo_pi G t (fun x M' => x = g 4 ∧ mo_SR M' h (mo_gAO g p v) ∧ ∀ a, mo_out h a → M' a = M a)) := by
  refine mo_ofW (ls0 := [some (.ref h), some (mo_iv p), some (mo_iv v), none]) (by decide) rfl (Nat.le_of_ble_eq_true rfl) ?_
  intro κ X Y
  have X : mo_Cx κ lf ρf cX2_enterOrder 4 RX2 (some .int) 2 := X
  obtain ⟨s0, s1, s2, s3, s4, s5, sH, sA, sE, sM, sS, sL, sW, sRo, sF⟩ := id hS
  obtain ⟨hI0, hI1, hI2, hI3, hI4, hI5, hI6, hI7, hIh, hIa, hIe, hIm, hIs, hIl, hIw, hIr, hIt, hIs2, hIs3, hIz⟩ := id hI
  have hn : ((mo_nk g : Nat) : Int) = g 7 := by unfold mo_nk; omega
  obtain ⟨on, hon⟩ := Int.eq_ofNat_of_zero_le hI4.1
  obtain ⟨wn, hwn⟩ := Int.eq_ofNat_of_zero_le hI0.1
  refine mo_al0 (pc := 0) X dX2_enterOrder_0 ?_
  refine mo_f_X2_44 (pc := 1) X dX2_enterOrder_1 (mo_St_o hs) ?_
  rw [s0, hon]
  refine mo_is3 (pc := 4) X dX2_enterOrder_4 rfl (by decide) ?_
  refine mo_al0 (pc := 5) X dX2_enterOrder_5 ?_
  refine mo_dup (pc := 6) X dX2_enterOrder_6 rfl ?_
  refine mo_f_X2_44 (pc := 7) X dX2_enterOrder_7 (mo_St_o hs) ?_
  rw [s0, hon]
  refine mo_iconst (pc := 10) X dX2_enterOrder_10 ?_
  refine mo_iadd (pc := 11) X dX2_enterOrder_11 ?_
  refine mo_p_X2_44 (pc := 12) X dX2_enterOrder_12 (mo_St_o hs) ?_
  refine mo_al0 (pc := 15) X dX2_enterOrder_15 ?_
  refine mo_il3 (pc := 16) X dX2_enterOrder_16 ?_
  refine mo_al0 (pc := 17) X dX2_enterOrder_17 ?_
  refine mo_f_X2_57 (pc := 18) X dX2_enterOrder_18 (mo_St_o hs) ?_
  rw [mo_ur_s, mo_up_n (by omega), s4, hwn]
  refine mo_il1 (pc := 21) X dX2_enterOrder_21 ?_
  refine mo_cVV (pc := 22) (As := [_, _, _]) X mo_k_X2_67 mo_y_yX2_setHoursFrom rfl dX2_enterOrder_22 (ct2_setHoursFrom (o := on) (w := wn) hs (by omega) (by omega)) (mo_St_o hs) rfl (by decide) (by decide) (Nat.le_of_ble_eq_true rfl) ?_
  rintro M_22 h_22
  rw [mo_ur_n (by omega)] at h_22
  refine mo_al0 (pc := 25) X dX2_enterOrder_25 ?_
  refine mo_f_X2_20 (pc := 26) X dX2_enterOrder_26 (mo_St_o hs) (mo_St_p7 hs) ?_
  refine mo_il3 (pc := 29) X dX2_enterOrder_29 ?_
  refine mo_il2 (pc := 30) X dX2_enterOrder_30 ?_
  refine mo_cVV (pc := 31) (As := [_, _]) X mo_k_X2_71 mo_y_yX1_set rfl dX2_enterOrder_31 (ct_set (a := h + 4) (j := on) (mo_St_r7 hs) rfl (by omega) (by omega) (by omega) (by omega)) (mo_St_r7 hs).1 rfl (by decide) (by decide) (Nat.le_of_ble_eq_true rfl) ?_
  rintro M_31 h_31
  refine mo_il3 (pc := 34) X dX2_enterOrder_34 ?_
  refine mo_iret (pc := 35) X Y rfl dX2_enterOrder_35 ⟨rfl, rfl, _, rfl, ?_⟩
  refine ⟨hon.symm, ?_, fun a ha => ?_⟩
  · have lo : ∀ j, j ≠ 4 → j ≠ 168 + on → j < 8 ∨ 168 ≤ j → mo_gAO g p v j = g j := fun j a b c => by
      unfold mo_gAO
      rw [hon, Int.toNat_natCast, if_neg a, if_neg b, if_neg (by omega)]
    have m4 : M_31 (h + 4) = va_up (M (h + 4)) on v := by rw [h_31, mo_ur_s, h_22, mo_ur_n (by omega), mo_ur_n (by omega)]
    have m0 : M_31 h = va_up (M h) 0 ((on : Int) + 1) := by rw [h_31, mo_ur_n (by omega), h_22, mo_ur_n (by omega), mo_ur_s]
    have m2 : M_31 (h + 2) = mo_flr (M (h + 2)) (20 * on + wn) (20 * on + 20) p := by rw [h_31, mo_ur_n (by omega), h_22, mo_ur_s]
    have mo : ∀ a, a ≠ h → a ≠ h + 2 → a ≠ h + 4 → M_31 a = M a := fun a x y z => by rw [h_31, mo_ur_n z, h_22, mo_ur_n y, mo_ur_n x]
    refine ⟨?_, ?_, ?_, ?_, ?_, ?_, ?_, ?_, ?_, ?_, ?_, ?_, ?_, ?_, ?_⟩
    · rw [m0, mo_up_s]
      unfold mo_gAO
      rw [if_pos rfl, hon]
    · rw [m0, mo_up_n (by omega), lo 5 (by omega) (by omega) (by omega)]
      exact s1
    · rw [m0, mo_up_n (by omega), lo 6 (by omega) (by omega) (by omega)]
      exact s2
    · rw [m0, mo_up_n (by omega), lo 7 (by omega) (by omega) (by omega)]
      exact s3
    · rw [m0, mo_up_n (by omega), lo 0 (by omega) (by omega) (by omega)]
      exact s4
    · rw [m0, mo_up_n (by omega), lo 1 (by omega) (by omega) (by omega)]
      exact s5
    · intro j hj
      rw [m2]
      unfold mo_flr mo_gAO
      rw [hon, hwn, Int.toNat_natCast]
      by_cases c : 20 * on + wn ≤ j ∧ j < 20 * on + 20
      · rw [if_pos c, if_neg (by omega), if_neg (by omega), if_pos (by omega), if_neg (by omega)]
      · rw [if_neg c, if_neg (by omega), if_neg (by omega), sH j hj]
        by_cases c2 : 8 + 20 * on ≤ 8 + j ∧ 8 + j < 8 + 20 * on + 20
        · rw [if_pos c2, if_pos (by omega)]
          have h9 := hIz on (j - 20 * on) (by omega) (by omega) (by omega)
          rw [show 8 + 20 * on + (j - 20 * on) = 8 + j by omega] at h9
          exact h9
        · rw [if_neg c2]
    · intro j hj
      rw [m4]
      by_cases c : j = on
      · rw [c, mo_up_s]
        unfold mo_gAO
        rw [hon, Int.toNat_natCast, if_neg (by omega), if_pos rfl]
      · rw [mo_up_n c, lo _ (by omega) (by omega) (by omega)]
        exact sA j hj
    · intro j hj
      rw [mo _ (by omega) (by omega) (by omega), lo _ (by omega) (by omega) (by omega)]
      exact sE j hj
    · intro j hj
      rw [mo _ (by omega) (by omega) (by omega), lo _ (by omega) (by omega) (by omega)]
      exact sM j hj
    · intro j hj
      rw [mo _ (by omega) (by omega) (by omega), lo _ (by omega) (by omega) (by omega)]
      exact sS j hj
    · intro j hj
      rw [mo _ (by omega) (by omega) (by omega), lo _ (by omega) (by omega) (by omega)]
      exact sL j hj
    · intro j hj
      rw [mo _ (by omega) (by omega) (by omega), lo _ (by omega) (by omega) (by omega)]
      exact sW j hj
    · intro j hj
      rw [mo _ (by omega) (by omega) (by omega), lo _ (by omega) (by omega) (by omega)]
      exact sRo j hj
    · intro k j hk hj
      rw [lo 7 (by omega) (by omega) (by omega)] at hk
      unfold mo_fld
      rw [mo _ (by omega) (by omega) (by omega), lo _ (by omega) (by omega) (by omega)]
      exact sF k j hk hj
  · rw [h_31, mo_ur_n (by omega), h_22, mo_ur_n (by omega), mo_ur_n (by omega)]
set_option maxHeartbeats 4000000 in
set_option maxRecDepth 100000 in
theorem ct2_enterEscort {lf : Launch} {ρf : mo_E} {G : mo_G} {M : mo_M} {t : Nat} {h : Nat} (hs : mo_St G h) {g : Nat → Int} {B : Int} (hS : mo_SR M h g) (hI : mo_Iv g B) (hB : B ≤ 1000000000) {p v : Int} (h5 : g 5 < 6) : mo_Ct lf ρf yX2_enterEscort cX2_enterEscort 4 (some .int) 1 0 0 [.ref h, mo_iv p, mo_iv v] G M t (mo_pi G t (fun x M' => x = g 5 ∧ mo_SR M' h (mo_gAE g p v) ∧ ∀ a, mo_out h a → M' a = M a)) := by
  refine mo_ofW (ls0 := [some (.ref h), some (mo_iv p), some (mo_iv v), none]) (by decide) rfl (Nat.le_of_ble_eq_true rfl) ?_
  intro κ X Y
  have X : mo_Cx κ lf ρf cX2_enterEscort 4 RX2 (some .int) 1 := X
  obtain ⟨s0, s1, s2, s3, s4, s5, sH, sA, sE, sM, sS, sL, sW, sRo, sF⟩ := id hS
  obtain ⟨hI0, hI1, hI2, hI3, hI4, hI5, hI6, hI7, hIh, hIa, hIe, hIm, hIs, hIl, hIw, hIr, hIt, hIs2, hIs3, hIz⟩ := id hI
  have hn : ((mo_nk g : Nat) : Int) = g 7 := by unfold mo_nk; omega
  obtain ⟨en, hen⟩ := Int.eq_ofNat_of_zero_le hI5.1
  refine mo_al0 (pc := 0) X dX2_enterEscort_0 ?_
  refine mo_f_X2_48 (pc := 1) X dX2_enterEscort_1 (mo_St_o hs) ?_
  rw [s1, hen]
  refine mo_is3 (pc := 4) X dX2_enterEscort_4 rfl (by decide) ?_
  refine mo_al0 (pc := 5) X dX2_enterEscort_5 ?_
  refine mo_dup (pc := 6) X dX2_enterEscort_6 rfl ?_
  refine mo_f_X2_48 (pc := 7) X dX2_enterEscort_7 (mo_St_o hs) ?_
  rw [s1, hen]
  refine mo_iconst (pc := 10) X dX2_enterEscort_10 ?_
  refine mo_iadd (pc := 11) X dX2_enterEscort_11 ?_
  refine mo_p_X2_48 (pc := 12) X dX2_enterEscort_12 (mo_St_o hs) ?_
  refine mo_al0 (pc := 15) X dX2_enterEscort_15 ?_
  refine mo_f_X2_29 (pc := 16) X dX2_enterEscort_16 (mo_St_o hs) (mo_St_p10 hs) ?_
  refine mo_il3 (pc := 19) X dX2_enterEscort_19 ?_
  refine mo_il1 (pc := 20) X dX2_enterEscort_20 ?_
  refine mo_cVV (pc := 21) (As := [_, _]) X mo_k_X2_71 mo_y_yX1_set rfl dX2_enterEscort_21 (ct_set (a := h + 10) (j := en) (mo_St_r10 hs) rfl (by omega) (by omega) (by omega) (by omega)) (mo_St_r10 hs).1 rfl (by decide) (by decide) (Nat.le_of_ble_eq_true rfl) ?_
  rintro M_21 h_21
  rw [mo_ur_n (by omega)] at h_21
  refine mo_al0 (pc := 24) X dX2_enterEscort_24 ?_
  refine mo_f_X2_32 (pc := 25) X dX2_enterEscort_25 (mo_St_o hs) (mo_St_p11 hs) ?_
  refine mo_il3 (pc := 28) X dX2_enterEscort_28 ?_
  refine mo_il2 (pc := 29) X dX2_enterEscort_29 ?_
  refine mo_cVV (pc := 30) (As := [_, _]) X mo_k_X2_71 mo_y_yX1_set rfl dX2_enterEscort_30 (ct_set (a := h + 12) (j := en) (mo_St_r11 hs) rfl (by omega) (by omega) (by omega) (by omega)) (mo_St_r11 hs).1 rfl (by decide) (by decide) (Nat.le_of_ble_eq_true rfl) ?_
  rintro M_30 h_30
  refine mo_il3 (pc := 33) X dX2_enterEscort_33 ?_
  refine mo_iret (pc := 34) X Y rfl dX2_enterEscort_34 ⟨rfl, rfl, _, rfl, ?_⟩
  refine ⟨hen.symm, ?_, fun a ha => ?_⟩
  · have lo : ∀ j, j ≠ 5 → j ≠ 192 + en → j ≠ 198 + en → mo_gAE g p v j = g j := fun j a b c => by
      unfold mo_gAE
      rw [hen, Int.toNat_natCast, mo_up_n a, mo_up_n c, mo_up_n b]
    have m10 : M_30 (h + 10) = va_up (M (h + 10)) en p := by rw [h_30, mo_ur_n (by omega), h_21, mo_ur_s]
    have m12 : M_30 (h + 12) = va_up (M (h + 12)) en v := by rw [h_30, mo_ur_s, h_21, mo_ur_n (by omega), mo_ur_n (by omega)]
    have m0 : M_30 h = va_up (M h) 1 ((en : Int) + 1) := by rw [h_30, mo_ur_n (by omega), h_21, mo_ur_n (by omega), mo_ur_s]
    have mo : ∀ a, a ≠ h → a ≠ h + 10 → a ≠ h + 12 → M_30 a = M a := fun a x y z => by rw [h_30, mo_ur_n z, h_21, mo_ur_n y, mo_ur_n x]
    refine ⟨?_, ?_, ?_, ?_, ?_, ?_, ?_, ?_, ?_, ?_, ?_, ?_, ?_, ?_, ?_⟩
    · rw [m0, mo_up_n (by omega), lo 4 (by omega) (by omega) (by omega)]
      exact s0
    · rw [m0, mo_up_s]
      unfold mo_gAE
      rw [mo_up_s, hen]
    · rw [m0, mo_up_n (by omega), lo 6 (by omega) (by omega) (by omega)]
      exact s2
    · rw [m0, mo_up_n (by omega), lo 7 (by omega) (by omega) (by omega)]
      exact s3
    · rw [m0, mo_up_n (by omega), lo 0 (by omega) (by omega) (by omega)]
      exact s4
    · rw [m0, mo_up_n (by omega), lo 1 (by omega) (by omega) (by omega)]
      exact s5
    · intro j hj
      rw [mo _ (by omega) (by omega) (by omega), lo _ (by omega) (by omega) (by omega)]
      exact sH j hj
    · intro j hj
      rw [mo _ (by omega) (by omega) (by omega), lo _ (by omega) (by omega) (by omega)]
      exact sA j hj
    · intro j hj
      rw [mo _ (by omega) (by omega) (by omega), lo _ (by omega) (by omega) (by omega)]
      exact sE j hj
    · intro j hj
      rw [mo _ (by omega) (by omega) (by omega), lo _ (by omega) (by omega) (by omega)]
      exact sM j hj
    · intro j hj
      rw [m10]
      by_cases c : j = en
      · rw [c, mo_up_s]
        unfold mo_gAE
        rw [hen, Int.toNat_natCast, mo_up_n (by omega), mo_up_n (by omega), mo_up_s]
      · rw [mo_up_n c, lo _ (by omega) (by omega) (by omega)]
        exact sS j hj
    · intro j hj
      rw [m12]
      by_cases c : j = en
      · rw [c, mo_up_s]
        unfold mo_gAE
        rw [hen, Int.toNat_natCast, mo_up_n (by omega), mo_up_s]
      · rw [mo_up_n c, lo _ (by omega) (by omega) (by omega)]
        exact sL j hj
    · intro j hj
      rw [mo _ (by omega) (by omega) (by omega), lo _ (by omega) (by omega) (by omega)]
      exact sW j hj
    · intro j hj
      rw [mo _ (by omega) (by omega) (by omega), lo _ (by omega) (by omega) (by omega)]
      exact sRo j hj
    · intro k j hk hj
      rw [lo 7 (by omega) (by omega) (by omega)] at hk
      unfold mo_fld
      rw [mo _ (by omega) (by omega) (by omega), lo _ (by omega) (by omega) (by omega)]
      exact sF k j hk hj
  · rw [h_30, mo_ur_n (by omega), h_21, mo_ur_n (by omega), mo_ur_n (by omega)]
set_option maxHeartbeats 4000000 in
set_option maxRecDepth 100000 in
theorem ct2_enterVenue {lf : Launch} {ρf : mo_E} {G : mo_G} {M : mo_M} {t : Nat} {h : Nat} (hs : mo_St G h) {g : Nat → Int} {B : Int} (hS : mo_SR M h g) (hI : mo_Iv g B) (hB : B ≤ 1000000000) {p : Int} (h6 : g 6 < 5) : mo_Ct lf ρf yX2_enterVenue cX2_enterVenue 3 (some .int) 1 0 0 [.ref h, mo_iv p] G M t (mo_pi G t (fun x M' => x = g 6 ∧ mo_SR M' h (mo_gAV g p) ∧ ∀ a, mo_out h a → M' a = M a)) := by
  refine mo_ofW (ls0 := [some (.ref h), some (mo_iv p), none]) (by decide) rfl (Nat.le_of_ble_eq_true rfl) ?_
  intro κ X Y
  have X : mo_Cx κ lf ρf cX2_enterVenue 3 RX2 (some .int) 1 := X
  obtain ⟨s0, s1, s2, s3, s4, s5, sH, sA, sE, sM, sS, sL, sW, sRo, sF⟩ := id hS
  obtain ⟨hI0, hI1, hI2, hI3, hI4, hI5, hI6, hI7, hIh, hIa, hIe, hIm, hIs, hIl, hIw, hIr, hIt, hIs2, hIs3, hIz⟩ := id hI
  have hn : ((mo_nk g : Nat) : Int) = g 7 := by unfold mo_nk; omega
  obtain ⟨vn, hvn⟩ := Int.eq_ofNat_of_zero_le hI6.1
  refine mo_al0 (pc := 0) X dX2_enterVenue_0 ?_
  refine mo_f_X2_51 (pc := 1) X dX2_enterVenue_1 (mo_St_o hs) ?_
  rw [s2, hvn]
  refine mo_is2 (pc := 4) X dX2_enterVenue_4 rfl (by decide) ?_
  refine mo_al0 (pc := 5) X dX2_enterVenue_5 ?_
  refine mo_dup (pc := 6) X dX2_enterVenue_6 rfl ?_
  refine mo_f_X2_51 (pc := 7) X dX2_enterVenue_7 (mo_St_o hs) ?_
  rw [s2, hvn]
  refine mo_iconst (pc := 10) X dX2_enterVenue_10 ?_
  refine mo_iadd (pc := 11) X dX2_enterVenue_11 ?_
  refine mo_p_X2_51 (pc := 12) X dX2_enterVenue_12 (mo_St_o hs) ?_
  refine mo_al0 (pc := 15) X dX2_enterVenue_15 ?_
  refine mo_f_X2_38 (pc := 16) X dX2_enterVenue_16 (mo_St_o hs) (mo_St_p13 hs) ?_
  refine mo_il2 (pc := 19) X dX2_enterVenue_19 ?_
  refine mo_il1 (pc := 20) X dX2_enterVenue_20 ?_
  refine mo_cVV (pc := 21) (As := [_, _]) X mo_k_X2_71 mo_y_yX1_set rfl dX2_enterVenue_21 (ct_set (a := h + 16) (j := vn) (mo_St_r13 hs) rfl (by omega) (by omega) (by omega) (by omega)) (mo_St_r13 hs).1 rfl (by decide) (by decide) (Nat.le_of_ble_eq_true rfl) ?_
  rintro M_21 h_21
  rw [mo_ur_n (by omega)] at h_21
  refine mo_il2 (pc := 24) X dX2_enterVenue_24 ?_
  refine mo_iret (pc := 25) X Y rfl dX2_enterVenue_25 ⟨rfl, rfl, _, rfl, ?_⟩
  refine ⟨hvn.symm, ?_, fun a ha => ?_⟩
  · have lo : ∀ j, j ≠ 6 → j ≠ 210 + vn → mo_gAV g p j = g j := fun j a b => by
      unfold mo_gAV
      rw [hvn, Int.toNat_natCast, mo_up_n a, mo_up_n b]
    have m16 : M_21 (h + 16) = va_up (M (h + 16)) vn p := by rw [h_21, mo_ur_s]
    have m0 : M_21 h = va_up (M h) 2 ((vn : Int) + 1) := by rw [h_21, mo_ur_n (by omega), mo_ur_s]
    have mo : ∀ a, a ≠ h → a ≠ h + 16 → M_21 a = M a := fun a x y => by rw [h_21, mo_ur_n y, mo_ur_n x]
    refine ⟨?_, ?_, ?_, ?_, ?_, ?_, ?_, ?_, ?_, ?_, ?_, ?_, ?_, ?_, ?_⟩
    · rw [m0, mo_up_n (by omega), lo 4 (by omega) (by omega)]
      exact s0
    · rw [m0, mo_up_n (by omega), lo 5 (by omega) (by omega)]
      exact s1
    · rw [m0, mo_up_s]
      unfold mo_gAV
      rw [mo_up_s, hvn]
    · rw [m0, mo_up_n (by omega), lo 7 (by omega) (by omega)]
      exact s3
    · rw [m0, mo_up_n (by omega), lo 0 (by omega) (by omega)]
      exact s4
    · rw [m0, mo_up_n (by omega), lo 1 (by omega) (by omega)]
      exact s5
    · intro j hj
      rw [mo _ (by omega) (by omega), lo _ (by omega) (by omega)]
      exact sH j hj
    · intro j hj
      rw [mo _ (by omega) (by omega), lo _ (by omega) (by omega)]
      exact sA j hj
    · intro j hj
      rw [mo _ (by omega) (by omega), lo _ (by omega) (by omega)]
      exact sE j hj
    · intro j hj
      rw [mo _ (by omega) (by omega), lo _ (by omega) (by omega)]
      exact sM j hj
    · intro j hj
      rw [mo _ (by omega) (by omega), lo _ (by omega) (by omega)]
      exact sS j hj
    · intro j hj
      rw [mo _ (by omega) (by omega), lo _ (by omega) (by omega)]
      exact sL j hj
    · intro j hj
      rw [mo _ (by omega) (by omega), lo _ (by omega) (by omega)]
      exact sW j hj
    · intro j hj
      rw [m16]
      by_cases c : j = vn
      · rw [c, mo_up_s]
        unfold mo_gAV
        rw [hvn, Int.toNat_natCast, mo_up_n (by omega), mo_up_s]
      · rw [mo_up_n c, lo _ (by omega) (by omega)]
        exact sRo j hj
    · intro k j hk hj
      rw [lo 7 (by omega) (by omega)] at hk
      unfold mo_fld
      rw [mo _ (by omega) (by omega), lo _ (by omega) (by omega)]
      exact sF k j hk hj
  · rw [h_21, mo_ur_n (by omega), mo_ur_n (by omega)]
