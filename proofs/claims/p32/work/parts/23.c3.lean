set_option maxHeartbeats 4000000 in
set_option maxRecDepth 100000 in
theorem ct2_keepMeeting {lf : Launch} {ρf : mo_E} {G : mo_G} {M : mo_M} {t : Nat} {h : Nat} (hs : mo_St G h) {g : Nat → Int} {B : Int} (hS : mo_SR M h g) (hI : mo_Iv g B) (hB : B ≤ 1000000000) {o w s e v : Int} (h7 : g 7 < 60) : mo_Ct lf ρf yX2_keepMeeting cX2_keepMeeting 7 (some .int) 1 0 0 [.ref h, mo_iv o, mo_iv w, mo_iv s, mo_iv e, mo_iv v] G M t (mo_pi G t (fun x M' => x = g 1 ∧ mo_SR M' h (mo_ly g o w s e v) ∧ ∀ a, mo_out h a → M' a = M a)) := by
  refine mo_ofW (ls0 := [some (.ref h), some (mo_iv o), some (mo_iv w), some (mo_iv s), some (mo_iv e), some (mo_iv v), none]) (by decide) rfl (Nat.le_of_ble_eq_true rfl) ?_
  intro κ X Y
  have X : mo_Cx κ lf ρf cX2_keepMeeting 7 RX2 (some .int) 1 := X
  obtain ⟨s0, s1, s2, s3, s4, s5, sH, sA, sE, sM, sS, sL, sW, sRo, sF⟩ := id hS
  obtain ⟨hI0, hI1, hI2, hI3, hI4, hI5, hI6, hI7, hIh, hIa, hIe, hIm, hIs, hIl, hIw, hIr, hIt, hIs2, hIs3, hIz⟩ := id hI
  have hn : ((mo_nk g : Nat) : Int) = g 7 := by unfold mo_nk; omega
  obtain ⟨n, hn2⟩ : ∃ n, mo_nk g = n := ⟨_, rfl⟩
  rw [hn2] at hn
  obtain ⟨q, hq⟩ : ∃ q, g 1 = q := ⟨_, rfl⟩
  rw [hq] at hI1
  refine mo_al0 (pc := 0) X dX2_keepMeeting_0 ?_
  refine mo_f_X2_54 (pc := 1) X dX2_keepMeeting_1 (mo_St_o hs) ?_
  rw [s3, ← hn]
  refine mo_bipush (pc := 4) X dX2_keepMeeting_4 (by decide) ?_
  refine mo_imul (pc := 6) X dX2_keepMeeting_6 ?_
  refine mo_is6 (pc := 7) X dX2_keepMeeting_7 rfl (by decide) ?_
  refine mo_al0 (pc := 9) X dX2_keepMeeting_9 ?_
  refine mo_f_X2_41 (pc := 10) X dX2_keepMeeting_10 (mo_St_o hs) (mo_St_p14 hs) ?_
  refine mo_il6 (pc := 13) X dX2_keepMeeting_13 ?_
  refine mo_iconst (pc := 15) X dX2_keepMeeting_15 ?_
  refine mo_iadd (pc := 16) X dX2_keepMeeting_16 ?_
  refine mo_il1 (pc := 17) X dX2_keepMeeting_17 ?_
  refine mo_cVV (pc := 18) (As := [_, _]) X mo_k_X2_71 mo_y_yX1_set rfl dX2_keepMeeting_18 (ct_set (a := h + 18) (j := 7 * n + 0) (mo_St_r14 hs) rfl (by omega) (by omega) (by omega) (by omega)) (mo_St_r14 hs).1 rfl (by decide) (by decide) (Nat.le_of_ble_eq_true rfl) ?_
  rintro M_18 h_18
  subst h_18
  refine mo_al0 (pc := 21) X dX2_keepMeeting_21 ?_
  refine mo_f_X2_41 (pc := 22) X dX2_keepMeeting_22 (mo_St_o hs) (mo_St_p14 hs) ?_
  refine mo_il6 (pc := 25) X dX2_keepMeeting_25 ?_
  refine mo_iconst (pc := 27) X dX2_keepMeeting_27 ?_
  refine mo_iadd (pc := 28) X dX2_keepMeeting_28 ?_
  refine mo_il2 (pc := 29) X dX2_keepMeeting_29 ?_
  refine mo_cVV (pc := 30) (As := [_, _]) X mo_k_X2_71 mo_y_yX1_set rfl dX2_keepMeeting_30 (ct_set (a := h + 18) (j := 7 * n + 1) (mo_St_r14 hs) rfl (by omega) (by omega) (by omega) (by omega)) (mo_St_r14 hs).1 rfl (by decide) (by decide) (Nat.le_of_ble_eq_true rfl) ?_
  rintro M_30 h_30
  rw [mo_ur_s, mo_ur_ur] at h_30
  subst h_30
  refine mo_al0 (pc := 33) X dX2_keepMeeting_33 ?_
  refine mo_f_X2_41 (pc := 34) X dX2_keepMeeting_34 (mo_St_o hs) (mo_St_p14 hs) ?_
  refine mo_il6 (pc := 37) X dX2_keepMeeting_37 ?_
  refine mo_iconst (pc := 39) X dX2_keepMeeting_39 ?_
  refine mo_iadd (pc := 40) X dX2_keepMeeting_40 ?_
  refine mo_il3 (pc := 41) X dX2_keepMeeting_41 ?_
  refine mo_cVV (pc := 42) (As := [_, _]) X mo_k_X2_71 mo_y_yX1_set rfl dX2_keepMeeting_42 (ct_set (a := h + 18) (j := 7 * n + 2) (mo_St_r14 hs) rfl (by omega) (by omega) (by omega) (by omega)) (mo_St_r14 hs).1 rfl (by decide) (by decide) (Nat.le_of_ble_eq_true rfl) ?_
  rintro M_42 h_42
  rw [mo_ur_s, mo_ur_ur] at h_42
  subst h_42
  refine mo_al0 (pc := 45) X dX2_keepMeeting_45 ?_
  refine mo_f_X2_41 (pc := 46) X dX2_keepMeeting_46 (mo_St_o hs) (mo_St_p14 hs) ?_
  refine mo_il6 (pc := 49) X dX2_keepMeeting_49 ?_
  refine mo_iconst (pc := 51) X dX2_keepMeeting_51 ?_
  refine mo_iadd (pc := 52) X dX2_keepMeeting_52 ?_
  refine mo_il4 (pc := 53) X dX2_keepMeeting_53 ?_
  refine mo_cVV (pc := 55) (As := [_, _]) X mo_k_X2_71 mo_y_yX1_set rfl dX2_keepMeeting_55 (ct_set (a := h + 18) (j := 7 * n + 3) (mo_St_r14 hs) rfl (by omega) (by omega) (by omega) (by omega)) (mo_St_r14 hs).1 rfl (by decide) (by decide) (Nat.le_of_ble_eq_true rfl) ?_
  rintro M_55 h_55
  rw [mo_ur_s, mo_ur_ur] at h_55
  subst h_55
  refine mo_al0 (pc := 58) X dX2_keepMeeting_58 ?_
  refine mo_f_X2_41 (pc := 59) X dX2_keepMeeting_59 (mo_St_o hs) (mo_St_p14 hs) ?_
  refine mo_il6 (pc := 62) X dX2_keepMeeting_62 ?_
  refine mo_iconst (pc := 64) X dX2_keepMeeting_64 ?_
  refine mo_iadd (pc := 65) X dX2_keepMeeting_65 ?_
  refine mo_il5 (pc := 66) X dX2_keepMeeting_66 ?_
  refine mo_cVV (pc := 68) (As := [_, _]) X mo_k_X2_71 mo_y_yX1_set rfl dX2_keepMeeting_68 (ct_set (a := h + 18) (j := 7 * n + 4) (mo_St_r14 hs) rfl (by omega) (by omega) (by omega) (by omega)) (mo_St_r14 hs).1 rfl (by decide) (by decide) (Nat.le_of_ble_eq_true rfl) ?_
  rintro M_68 h_68
  rw [mo_ur_s, mo_ur_ur] at h_68
  subst h_68
  refine mo_al0 (pc := 71) X dX2_keepMeeting_71 ?_
  refine mo_f_X2_41 (pc := 72) X dX2_keepMeeting_72 (mo_St_o hs) (mo_St_p14 hs) ?_
  refine mo_il6 (pc := 75) X dX2_keepMeeting_75 ?_
  refine mo_iconst (pc := 77) X dX2_keepMeeting_77 ?_
  refine mo_iadd (pc := 78) X dX2_keepMeeting_78 ?_
  refine mo_iconst (pc := 79) X dX2_keepMeeting_79 ?_
  refine mo_cVV (pc := 80) (As := [_, _]) X mo_k_X2_71 mo_y_yX1_set rfl dX2_keepMeeting_80 (ct_set (a := h + 18) (j := 7 * n + 5) (mo_St_r14 hs) rfl (by omega) (by omega) (by omega) (by omega)) (mo_St_r14 hs).1 rfl (by decide) (by decide) (Nat.le_of_ble_eq_true rfl) ?_
  rintro M_80 h_80
  rw [mo_ur_s, mo_ur_ur] at h_80
  subst h_80
  refine mo_al0 (pc := 83) X dX2_keepMeeting_83 ?_
  refine mo_f_X2_41 (pc := 84) X dX2_keepMeeting_84 (mo_St_o hs) (mo_St_p14 hs) ?_
  refine mo_il6 (pc := 87) X dX2_keepMeeting_87 ?_
  refine mo_bipush (pc := 89) X dX2_keepMeeting_89 (by decide) ?_
  refine mo_iadd (pc := 91) X dX2_keepMeeting_91 ?_
  refine mo_al0 (pc := 92) X dX2_keepMeeting_92 ?_
  refine mo_f_X2_60 (pc := 93) X dX2_keepMeeting_93 (mo_St_o hs) ?_
  rw [mo_ur_n (by omega), s5, hq]
  refine mo_cVV (pc := 96) (As := [_, _]) X mo_k_X2_71 mo_y_yX1_set rfl dX2_keepMeeting_96 (ct_set (a := h + 18) (j := 7 * n + 6) (mo_St_r14 hs) rfl (by omega) (by omega) (by omega) (by omega)) (mo_St_r14 hs).1 rfl (by decide) (by decide) (Nat.le_of_ble_eq_true rfl) ?_
  rintro M_96 h_96
  rw [mo_ur_s, mo_ur_ur] at h_96
  subst h_96
  refine mo_al0 (pc := 99) X dX2_keepMeeting_99 ?_
  refine mo_dup (pc := 100) X dX2_keepMeeting_100 rfl ?_
  refine mo_f_X2_54 (pc := 101) X dX2_keepMeeting_101 (mo_St_o hs) ?_
  rw [mo_ur_n (by omega), s3, ← hn]
  refine mo_iconst (pc := 104) X dX2_keepMeeting_104 ?_
  refine mo_iadd (pc := 105) X dX2_keepMeeting_105 ?_
  refine mo_p_X2_54 (pc := 106) X dX2_keepMeeting_106 (mo_St_o hs) ?_
  refine mo_al0 (pc := 109) X dX2_keepMeeting_109 ?_
  refine mo_dup (pc := 110) X dX2_keepMeeting_110 rfl ?_
  refine mo_f_X2_60 (pc := 111) X dX2_keepMeeting_111 (mo_St_o hs) ?_
  rw [mo_ur_s, mo_up_n (by omega), mo_ur_n (by omega), s5, hq]
  refine mo_iconst (pc := 114) X dX2_keepMeeting_114 ?_
  refine mo_iadd (pc := 115) X dX2_keepMeeting_115 ?_
  refine mo_p_X2_60 (pc := 116) X dX2_keepMeeting_116 (mo_St_o hs) ?_
  refine mo_al0 (pc := 119) X dX2_keepMeeting_119 ?_
  refine mo_f_X2_60 (pc := 120) X dX2_keepMeeting_120 (mo_St_o hs) ?_
  rw [mo_ur_s, mo_up_s]
  refine mo_iconst (pc := 123) X dX2_keepMeeting_123 ?_
  refine mo_isub (pc := 124) X dX2_keepMeeting_124 ?_
  refine mo_iret (pc := 125) X Y rfl dX2_keepMeeting_125 ⟨rfl, rfl, _, rfl, ?_⟩
  rw [mo_ur_s, mo_ur_ur]
  refine ⟨by rw [hq]; omega, ?_, fun a ha => ?_⟩
  · have lo : ∀ j, j ≠ 1 → j ≠ 7 → j < 215 → mo_ly g o w s e v j = g j := fun j a b c => mo_ly_o a b (by omega)
    have ln := mo_ly_n g o w s e v
    rw [hn2] at ln
    obtain ⟨l0, l1, l2, l3, l4, l5, l6⟩ := ln
    obtain ⟨M2, h2⟩ : ∃ M2 : mo_M, M2 = mo_ur (mo_ur M (h + 18) (va_up (va_up (va_up (va_up (va_up (va_up (va_up (M (h + 18)) (7 * n + 0) o) (7 * n + 1) w) (7 * n + 2) s) (7 * n + 3) e) (7 * n + 4) v) (7 * n + 5) 0) (7 * n + 6) q)) h (va_up (va_up (M h) 3 ((n : Int) + 1)) 5 (q + 1)) := ⟨_, rfl⟩
    have m0 : M2 h = va_up (va_up (M h) 3 ((n : Int) + 1)) 5 (q + 1) := by rw [h2, mo_ur_s]
    have m18 : M2 (h + 18) = (va_up (va_up (va_up (va_up (va_up (va_up (va_up (M (h + 18)) (7 * n + 0) o) (7 * n + 1) w) (7 * n + 2) s) (7 * n + 3) e) (7 * n + 4) v) (7 * n + 5) 0) (7 * n + 6) q) := by rw [h2, mo_ur_n (by omega), mo_ur_s]
    have mo : ∀ a, a ≠ h → a ≠ h + 18 → M2 a = M a := fun a x y => by rw [h2, mo_ur_n x, mo_ur_n y]
    rw [← h2]
    refine ⟨?_, ?_, ?_, ?_, ?_, ?_, ?_, ?_, ?_, ?_, ?_, ?_, ?_, ?_, ?_⟩
    · rw [m0, mo_up_n (by omega), mo_up_n (by omega), lo 4 (by omega) (by omega) (by omega)]
      exact s0
    · rw [m0, mo_up_n (by omega), mo_up_n (by omega), lo 5 (by omega) (by omega) (by omega)]
      exact s1
    · rw [m0, mo_up_n (by omega), mo_up_n (by omega), lo 6 (by omega) (by omega) (by omega)]
      exact s2
    · rw [m0, mo_up_n (by omega), mo_up_s, mo_ly_7, hn]
    · rw [m0, mo_up_n (by omega), mo_up_n (by omega), lo 0 (by omega) (by omega) (by omega)]
      exact s4
    · rw [m0, mo_up_s, mo_ly_1, hq]
    · intro j hj
      rw [mo _ (by omega) (by omega), lo _ (by omega) (by omega) (by omega)]
      exact sH j hj
    · intro j hj
      rw [mo _ (by omega) (by omega), lo _ (by omega) (by omega) (by omega)]
      exact sA j hj
    · intro j hj
      rw [mo _ (by omega) (by omega), lo _ (by omega) (by omega) (by omega)]
      exact sE j hj
    · intro j hj
      rw [mo _ (by omega) (by omega), lo _ (by omega) (by omega) (by omega)]
      exact sM j hj
    · intro j hj
      rw [mo _ (by omega) (by omega), lo _ (by omega) (by omega) (by omega)]
      exact sS j hj
    · intro j hj
      rw [mo _ (by omega) (by omega), lo _ (by omega) (by omega) (by omega)]
      exact sL j hj
    · intro j hj
      rw [mo _ (by omega) (by omega), lo _ (by omega) (by omega) (by omega)]
      exact sW j hj
    · intro j hj
      rw [mo _ (by omega) (by omega), lo _ (by omega) (by omega) (by omega)]
      exact sRo j hj
    · intro k j hk hj
      rw [mo_ly_7] at hk
      rw [m18]
      by_cases c : k < n
      · rw [mo_ly_f (by omega) (by omega), mo_up_n (by omega), mo_up_n (by omega), mo_up_n (by omega), mo_up_n (by omega), mo_up_n (by omega), mo_up_n (by omega), mo_up_n (by omega)]
        exact sF k j (by omega) hj
      · obtain rfl : k = n := by omega
        obtain rfl | rfl | rfl | rfl | rfl | rfl | rfl : j = 0 ∨ j = 1 ∨ j = 2 ∨ j = 3 ∨ j = 4 ∨ j = 5 ∨ j = 6 := by omega
        · rw [mo_up_n (by omega), mo_up_n (by omega), mo_up_n (by omega), mo_up_n (by omega), mo_up_n (by omega), mo_up_n (by omega), mo_up_s]; exact l1.symm
        · rw [mo_up_n (by omega), mo_up_n (by omega), mo_up_n (by omega), mo_up_n (by omega), mo_up_n (by omega), mo_up_s]; exact l2.symm
        · rw [mo_up_n (by omega), mo_up_n (by omega), mo_up_n (by omega), mo_up_n (by omega), mo_up_s]; exact l3.symm
        · rw [mo_up_n (by omega), mo_up_n (by omega), mo_up_n (by omega), mo_up_s]; exact l4.symm
        · rw [mo_up_n (by omega), mo_up_n (by omega), mo_up_s]; exact l5.symm
        · rw [mo_up_n (by omega), mo_up_s]; exact l6.symm
        · rw [mo_up_s, ← hq]; exact l0.symm
  · rw [mo_ur_n (by omega), mo_ur_n (by omega)]
def mo_mvr (f : Nat → Int) (a b : Nat) (n : Nat) : Nat → Int := fun j => if 7 * b ≤ j ∧ j < 7 * b + n then f (7 * a + (j - 7 * b)) else f j
set_option maxHeartbeats 4000000 in
set_option maxRecDepth 100000 in
theorem ct2_moveMeeting {lf : Launch} {ρf : mo_E} {G : mo_G} {M : mo_M} {t : Nat} {h : Nat} (hs : mo_St G h) {a b : Nat} (ha : a < 60) (hb : b ≤ a) : mo_Ct lf ρf yX2_moveMeeting cX2_moveMeeting 4 none 2 0 0 [.ref h, mo_iv a, mo_iv b] G M t (mo_pv G t (fun M' => M' = mo_ur M (h + 18) (mo_mvr (M (h + 18)) a b 7))) := by
  refine mo_ofW (ls0 := [some (.ref h), some (mo_iv a), some (mo_iv b), none]) (by decide) rfl (Nat.le_of_ble_eq_true rfl) ?_
  intro κ X Y
  have X : mo_Cx κ lf ρf cX2_moveMeeting 4 RX2 none 2 := X
  have lp1 : ∀ (z i : Nat) (x : Int) (f : Nat → Int), i + z = 7 → x = i → f = mo_mvr (M (h + 18)) a b i → mo_V κ 0 0 2 [some (.ref h), some (mo_iv a), some (mo_iv b), some (mo_iv x)] [] G (mo_ur M (h + 18) f) t := by
    intro z
    induction z with
    | zero =>
      intro i x f hi hx hf
      subst hx
      refine mo_il3 (pc := 2) X dX2_moveMeeting_2 ?_
      refine mo_bipush (pc := 3) X dX2_moveMeeting_3 (by decide) ?_
      refine mo_ic_ge (pc := 5) (tgt := 33) X dX2_moveMeeting_5 (by decide) ?_ ?_ (fun c_5 => ?_) (fun c_5 => ?_)
      · omega
      · omega
      · skip
        refine mo_vret (pc := 33) X Y rfl dX2_moveMeeting_33 ⟨rfl, rfl, rfl, ?_⟩
        show mo_ur _ _ _ = _
        rw [hf, show i = 7 by omega]
      · exfalso
        omega
    | succ z ih =>
      intro i x f hi hx hf
      subst hx
      refine mo_il3 (pc := 2) X dX2_moveMeeting_2 ?_
      refine mo_bipush (pc := 3) X dX2_moveMeeting_3 (by decide) ?_
      refine mo_ic_ge (pc := 5) (tgt := 33) X dX2_moveMeeting_5 (by decide) ?_ ?_ (fun c_5 => ?_) (fun c_5 => ?_)
      · omega
      · omega
      · exfalso
        omega
      · skip
        refine mo_al0 (pc := 8) X dX2_moveMeeting_8 ?_
        refine mo_f_X2_41 (pc := 9) X dX2_moveMeeting_9 (mo_St_o hs) (mo_St_p14 hs) ?_
        refine mo_il2 (pc := 12) X dX2_moveMeeting_12 ?_
        refine mo_bipush (pc := 13) X dX2_moveMeeting_13 (by decide) ?_
        refine mo_imul (pc := 15) X dX2_moveMeeting_15 ?_
        refine mo_il3 (pc := 16) X dX2_moveMeeting_16 ?_
        refine mo_iadd (pc := 17) X dX2_moveMeeting_17 ?_
        refine mo_al0 (pc := 18) X dX2_moveMeeting_18 ?_
        refine mo_il1 (pc := 19) X dX2_moveMeeting_19 ?_
        refine mo_il3 (pc := 20) X dX2_moveMeeting_20 ?_
        refine mo_cVI (pc := 21) (As := [_, _]) X mo_k_X2_83 mo_y_yX2_fact rfl dX2_moveMeeting_21 (ct2_fact (k := a) (j := i) hs (by omega)) (mo_St_o hs) rfl (by decide) (by decide) (Nat.le_of_ble_eq_true rfl) ?_
        rintro r_21 _ ⟨h_21, rfl⟩
        rw [mo_ur_s] at h_21
        refine mo_cVV (pc := 24) (As := [_, _]) X mo_k_X2_71 mo_y_yX1_set rfl dX2_moveMeeting_24 (ct_set (a := h + 18) (j := 7 * b + i) (mo_St_r14 hs) rfl (by omega) (by omega) (by omega) (by omega)) (mo_St_r14 hs).1 rfl (by decide) (by decide) (Nat.le_of_ble_eq_true rfl) ?_
        rintro M_24 h_24
        rw [mo_ur_s, mo_ur_ur] at h_24
        subst h_24
        refine mo_ii3 (pc := 27) X dX2_moveMeeting_27 rfl (by decide) ?_
        refine mo_goto (pc := 30) (tgt := 2) X dX2_moveMeeting_30 (by decide) ?_
        refine ih (i + 1) _ _ (by omega) (by omega) ?_
        have e2 : r_21 = M (h + 18) (7 * a + i) := by
          rw [h_21, hf]
          unfold mo_mvr
          by_cases c : 7 * b ≤ 7 * a + i ∧ 7 * a + i < 7 * b + i
          · exfalso; omega
          · rw [if_neg c]
        rw [e2, hf]
        funext j
        unfold va_up mo_mvr
        by_cases e : j = 7 * b + i
        · rw [if_pos e, if_pos (by omega), show 7 * a + (j - 7 * b) = 7 * a + i by omega]
        · rw [if_neg e]
          by_cases c : 7 * b ≤ j ∧ j < 7 * b + i
          · rw [if_pos c, if_pos (by omega)]
          · rw [if_neg c, if_neg (by omega)]
  have h0 := lp1 7 0 0 (M (h + 18)) rfl rfl (by
    funext j
    unfold mo_mvr
    rw [if_neg (by omega)])
  rw [mo_ur_id] at h0
  refine mo_iconst (pc := 0) X dX2_moveMeeting_0 ?_
  refine mo_is3 (pc := 1) X dX2_moveMeeting_1 rfl (by decide) ?_
  exact h0
set_option maxHeartbeats 4000000 in
set_option maxRecDepth 100000 in
theorem ct2_dropMeeting {lf : Launch} {ρf : mo_E} {G : mo_G} {M : mo_M} {t : Nat} {h : Nat} (hs : mo_St G h) {g : Nat → Int} {B : Int} (hS : mo_SR M h g) (hI : mo_Iv g B) (hB : B ≤ 1000000000) {p : Nat} (hp : (p : Int) < g 7) : mo_Ct lf ρf yX2_dropMeeting cX2_dropMeeting 3 none 3 0 0 [.ref h, mo_iv p] G M t (mo_pv G t (fun M' => mo_SR M' h (mo_to g p) ∧ ∀ a, mo_out h a → M' a = M a)) := by
  refine mo_ofW (ls0 := [some (.ref h), some (mo_iv p), none]) (by decide) rfl (Nat.le_of_ble_eq_true rfl) ?_
  intro κ X Y
  have X : mo_Cx κ lf ρf cX2_dropMeeting 3 RX2 none 3 := X
  obtain ⟨s0, s1, s2, s3, s4, s5, sH, sA, sE, sM, sS, sL, sW, sRo, sF⟩ := id hS
  obtain ⟨hI0, hI1, hI2, hI3, hI4, hI5, hI6, hI7, hIh, hIa, hIe, hIm, hIs, hIl, hIw, hIr, hIt, hIs2, hIs3, hIz⟩ := id hI
  have hn : ((mo_nk g : Nat) : Int) = g 7 := by unfold mo_nk; omega
  obtain ⟨n, hn2⟩ : ∃ n, mo_nk g = n := ⟨_, rfl⟩
  rw [hn2] at hn
  have lp1 : ∀ (z i : Nat) (x : Int) (f : Nat → Int), i + z = n → p < i → x = i → (∀ k j, k + 1 < n → j < 7 → f (7 * k + j) = if p ≤ k ∧ k + 1 < i then M (h + 18) (7 * (k + 1) + j) else M (h + 18) (7 * k + j)) → (∀ j, 7 * (i - 1) + 7 ≤ j → f j = M (h + 18) j) → mo_V κ 0 0 4 [some (.ref h), some (mo_iv p), some (mo_iv x)] [] G (mo_ur M (h + 18) f) t := by
    intro z
    induction z with
    | zero =>
      intro i x f hi hp hx hf hf2
      subst hx
      refine mo_il2 (pc := 4) X dX2_dropMeeting_4 ?_
      refine mo_al0 (pc := 5) X dX2_dropMeeting_5 ?_
      refine mo_f_X2_54 (pc := 6) X dX2_dropMeeting_6 (mo_St_o hs) ?_
      rw [mo_ur_n (by omega), s3, ← hn]
      refine mo_ic_ge (pc := 9) (tgt := 26) X dX2_dropMeeting_9 (by decide) ?_ ?_ (fun c_9 => ?_) (fun c_9 => ?_)
      · omega
      · omega
      · skip
        refine mo_al0 (pc := 26) X dX2_dropMeeting_26 ?_
        refine mo_dup (pc := 27) X dX2_dropMeeting_27 rfl ?_
        refine mo_f_X2_54 (pc := 28) X dX2_dropMeeting_28 (mo_St_o hs) ?_
        rw [mo_ur_n (by omega), s3, ← hn]
        refine mo_iconst (pc := 31) X dX2_dropMeeting_31 ?_
        refine mo_isub (pc := 32) X dX2_dropMeeting_32 ?_
        refine mo_p_X2_54 (pc := 33) X dX2_dropMeeting_33 (mo_St_o hs) ?_
        refine mo_vret (pc := 36) X Y rfl dX2_dropMeeting_36 ⟨rfl, rfl, rfl, ?_⟩
        refine ⟨?_, fun a ha => by rw [mo_ur_n (by omega), mo_ur_n (by omega)]⟩
        have lo : ∀ j, j ≠ 7 → j < 215 → mo_to g p j = g j := fun j a b => mo_to_lo a b
        obtain ⟨M2, h2⟩ : ∃ M2 : mo_M, M2 = mo_ur (mo_ur M (h + 18) f) h (va_up (mo_ur M (h + 18) f h) 3 ((n : Int) - 1)) := ⟨_, rfl⟩
        rw [← h2]
        rw [mo_ur_n (by omega)] at h2
        have m0 : M2 h = va_up (M h) 3 ((n : Int) - 1) := by rw [h2, mo_ur_s]
        have m18 : M2 (h + 18) = f := by rw [h2, mo_ur_n (by omega), mo_ur_s]
        have mo : ∀ a, a ≠ h → a ≠ h + 18 → M2 a = M a := fun a x y => by rw [h2, mo_ur_n x, mo_ur_n y]
        refine ⟨?_, ?_, ?_, ?_, ?_, ?_, ?_, ?_, ?_, ?_, ?_, ?_, ?_, ?_, ?_⟩
        · rw [m0, mo_up_n (by omega), lo 4 (by omega) (by omega)]
          exact s0
        · rw [m0, mo_up_n (by omega), lo 5 (by omega) (by omega)]
          exact s1
        · rw [m0, mo_up_n (by omega), lo 6 (by omega) (by omega)]
          exact s2
        · rw [m0, mo_up_s, mo_to_7, hn]
        · rw [m0, mo_up_n (by omega), lo 0 (by omega) (by omega)]
          exact s4
        · rw [m0, mo_up_n (by omega), lo 1 (by omega) (by omega)]
          exact s5
        · intro j hj
          rw [mo _ (by omega) (by omega), lo _ (by omega) (by omega)]
          exact sH j hj
        · intro j hj
          rw [mo _ (by omega) (by omega), lo _ (by omega) (by omega)]
          exact sA j hj
        · intro j hj
          rw [mo _ (by omega) (by omega), lo _ (by omega) (by omega)]
          exact sE j hj
        · intro j hj
          rw [mo _ (by omega) (by omega), lo _ (by omega) (by omega)]
          exact sM j hj
        · intro j hj
          rw [mo _ (by omega) (by omega), lo _ (by omega) (by omega)]
          exact sS j hj
        · intro j hj
          rw [mo _ (by omega) (by omega), lo _ (by omega) (by omega)]
          exact sL j hj
        · intro j hj
          rw [mo _ (by omega) (by omega), lo _ (by omega) (by omega)]
          exact sW j hj
        · intro j hj
          rw [mo _ (by omega) (by omega), lo _ (by omega) (by omega)]
          exact sRo j hj
        · intro k j hk hj
          rw [mo_to_7] at hk
          rw [m18, hf k j (by omega) hj, mo_to_f (by omega) (by omega)]
          by_cases c : k < p
          · rw [if_pos c, if_neg (by omega)]
            exact sF k j (by omega) hj
          · rw [if_neg c, if_pos (by omega)]
            exact sF (k + 1) j (by omega) hj
      · exfalso
        omega
    | succ z ih =>
      intro i x f hi hp hx hf hf2
      subst hx
      refine mo_il2 (pc := 4) X dX2_dropMeeting_4 ?_
      refine mo_al0 (pc := 5) X dX2_dropMeeting_5 ?_
      refine mo_f_X2_54 (pc := 6) X dX2_dropMeeting_6 (mo_St_o hs) ?_
      rw [mo_ur_n (by omega), s3, ← hn]
      refine mo_ic_ge (pc := 9) (tgt := 26) X dX2_dropMeeting_9 (by decide) ?_ ?_ (fun c_9 => ?_) (fun c_9 => ?_)
      · omega
      · omega
      · exfalso
        omega
      · skip
        refine mo_al0 (pc := 12) X dX2_dropMeeting_12 ?_
        refine mo_il2 (pc := 13) X dX2_dropMeeting_13 ?_
        refine mo_il2 (pc := 14) X dX2_dropMeeting_14 ?_
        refine mo_iconst (pc := 15) X dX2_dropMeeting_15 ?_
        refine mo_isub (pc := 16) X dX2_dropMeeting_16 ?_
        rw [show ((i : Int) - 1) = ((i - 1 : Nat) : Int) by omega]
        refine mo_cVV (pc := 17) (As := [_, _]) X mo_k_X2_104 mo_y_yX2_moveMeeting rfl dX2_dropMeeting_17 (ct2_moveMeeting (a := i) (b := i - 1) hs (by omega) (by omega)) (mo_St_o hs) rfl (by decide) (by decide) (Nat.le_of_ble_eq_true rfl) ?_
        rintro M_17 h_17
        rw [mo_ur_s, mo_ur_ur] at h_17
        subst h_17
        refine mo_ii2 (pc := 20) X dX2_dropMeeting_20 rfl (by decide) ?_
        refine mo_goto (pc := 23) (tgt := 4) X dX2_dropMeeting_23 (by decide) ?_
        refine ih (i + 1) _ _ (by omega) (by omega) (by omega) (fun k j hk hj => ?_) (fun j hj => ?_)
        · unfold mo_mvr
          by_cases c : 7 * (i - 1) ≤ 7 * k + j ∧ 7 * k + j < 7 * (i - 1) + 7
          · rw [if_pos c, if_pos (by omega), show 7 * i + (7 * k + j - 7 * (i - 1)) = 7 * i + j by omega, show k + 1 = i by omega, hf2 _ (by omega)]
          · rw [if_neg c, hf k j hk hj]
            by_cases c2 : p ≤ k ∧ k + 1 < i
            · rw [if_pos c2, if_pos (by omega)]
            · rw [if_neg c2, if_neg (by omega)]
        · unfold mo_mvr
          rw [if_neg (by omega), hf2 _ (by omega)]
  have h0 := lp1 (n - (p + 1)) (p + 1) ((p : Int) + 1) (M (h + 18)) (by omega) (by omega) (by omega) (fun k j hk hj => by rw [if_neg (by omega)]) (fun j hj => rfl)
  rw [mo_ur_id] at h0
  refine mo_il1 (pc := 0) X dX2_dropMeeting_0 ?_
  refine mo_iconst (pc := 1) X dX2_dropMeeting_1 ?_
  refine mo_iadd (pc := 2) X dX2_dropMeeting_2 ?_
  refine mo_is2 (pc := 3) X dX2_dropMeeting_3 rfl (by decide) ?_
  exact h0
set_option maxHeartbeats 4000000 in
set_option maxRecDepth 100000 in
theorem ct2_settle1 {lf : Launch} {ρf : mo_E} {G : mo_G} {M : mo_M} {t : Nat} {h : Nat} (hs : mo_St G h) {g : Nat → Int} {B : Int} (hS : mo_SR M h g) (hI : mo_Iv g B) (hB : B ≤ 1000000000) {k : Nat} (hk : (k : Int) < g 7) : mo_Ct lf ρf yX2_settle cX2_settle 4 none 2 0 0 [.ref h, mo_iv k, mo_iv 1] G M t (mo_pv G t (fun M' => mo_SR M' h (mo_hd g k) ∧ ∀ a, mo_out h a → M' a = M a)) := by
  refine mo_ofW (ls0 := [some (.ref h), some (mo_iv k), some (mo_iv 1), none]) (by decide) rfl (Nat.le_of_ble_eq_true rfl) ?_
  intro κ X Y
  have X : mo_Cx κ lf ρf cX2_settle 4 RX2 none 2 := X
  obtain ⟨s0, s1, s2, s3, s4, s5, sH, sA, sE, sM, sS, sL, sW, sRo, sF⟩ := id hS
  obtain ⟨hI0, hI1, hI2, hI3, hI4, hI5, hI6, hI7, hIh, hIa, hIe, hIm, hIs, hIl, hIw, hIr, hIt, hIs2, hIs3, hIz⟩ := id hI
  have hn : ((mo_nk g : Nat) : Int) = g 7 := by unfold mo_nk; omega
  have hmt := hIt k hk
  have hmt2 := hmt
  unfold mo_Mt at hmt
  obtain ⟨o, ho⟩ : ∃ o : Nat, mo_fld g k 1 = o := ⟨(mo_fld g k 1).toNat, by omega⟩
  obtain ⟨e, he⟩ : ∃ o : Nat, mo_fld g k 4 = o := ⟨(mo_fld g k 4).toNat, by omega⟩
  refine mo_al0 (pc := 0) X dX2_settle_0 ?_
  refine mo_f_X2_41 (pc := 1) X dX2_settle_1 (mo_St_o hs) (mo_St_p14 hs) ?_
  refine mo_il1 (pc := 4) X dX2_settle_4 ?_
  refine mo_bipush (pc := 5) X dX2_settle_5 (by decide) ?_
  refine mo_imul (pc := 7) X dX2_settle_7 ?_
  refine mo_iconst (pc := 8) X dX2_settle_8 ?_
  refine mo_iadd (pc := 9) X dX2_settle_9 ?_
  refine mo_il2 (pc := 10) X dX2_settle_10 ?_
  refine mo_cVV (pc := 11) (As := [_, _]) X mo_k_X2_71 mo_y_yX1_set rfl dX2_settle_11 (ct_set (a := h + 18) (j := 7 * k + 5) (mo_St_r14 hs) rfl (by omega) (by omega) (by omega) (by omega)) (mo_St_r14 hs).1 rfl (by decide) (by decide) (Nat.le_of_ble_eq_true rfl) ?_
  rintro M_11 h_11
  refine mo_al0 (pc := 14) X dX2_settle_14 ?_
  refine mo_il1 (pc := 15) X dX2_settle_15 ?_
  refine mo_iconst (pc := 16) X dX2_settle_16 ?_
  refine mo_cVI (pc := 17) (As := [_, _]) X mo_k_X2_83 mo_y_yX2_fact rfl dX2_settle_17 (ct2_fact (k := k) (j := 0) hs (by omega)) (mo_St_o hs) rfl (by decide) (by decide) (Nat.le_of_ble_eq_true rfl) ?_
  rintro r_17 _ ⟨h_17, rfl⟩
  rw [h_11, mo_ur_s, mo_up_n (by omega), sF k 0 hk (by omega), show (0 + 1) % 7 = 1 from rfl, ho] at h_17
  subst h_17
  refine mo_is3 (pc := 20) X dX2_settle_20 rfl (by decide) ?_
  refine mo_il2 (pc := 21) X dX2_settle_21 ?_
  refine mo_iconst (pc := 22) X dX2_settle_22 ?_
  refine mo_ic_ne (pc := 23) (tgt := 52) X dX2_settle_23 (by decide) ?_ ?_ (fun c_23 => ?_) (fun c_23 => ?_)
  · omega
  · omega
  · exfalso; omega
  · skip
    refine mo_al0 (pc := 26) X dX2_settle_26 ?_
    refine mo_f_X2_23 (pc := 27) X dX2_settle_27 (mo_St_o hs) (mo_St_p8 hs) ?_
    refine mo_il3 (pc := 30) X dX2_settle_30 ?_
    refine mo_iconst (pc := 31) X dX2_settle_31 ?_
    refine mo_cVV (pc := 32) (As := [_, _]) X mo_k_X2_107 mo_y_yX1_add rfl dX2_settle_32 (ct_add (a := h + 6) (j := o) (mo_St_r8 hs) rfl (by omega) (by omega) (by omega) (by omega)) (mo_St_r8 hs).1 rfl (by decide) (by decide) (Nat.le_of_ble_eq_true rfl) ?_
    rintro M_32 h_32
    refine mo_al0 (pc := 35) X dX2_settle_35 ?_
    refine mo_f_X2_35 (pc := 36) X dX2_settle_36 (mo_St_o hs) (mo_St_p12 hs) ?_
    refine mo_al0 (pc := 39) X dX2_settle_39 ?_
    refine mo_il1 (pc := 40) X dX2_settle_40 ?_
    refine mo_iconst (pc := 41) X dX2_settle_41 ?_
    refine mo_cVI (pc := 42) (As := [_, _]) X mo_k_X2_83 mo_y_yX2_fact rfl dX2_settle_42 (ct2_fact (k := k) (j := 3) hs (by omega)) (mo_St_o hs) rfl (by decide) (by decide) (Nat.le_of_ble_eq_true rfl) ?_
    rintro r_42 _ ⟨h_42, rfl⟩
    rw [h_32, mo_ur_n (by omega), h_11, mo_ur_s, mo_up_n (by omega), sF k 3 hk (by omega), show (3 + 1) % 7 = 4 from rfl, he] at h_42
    subst h_42
    refine mo_iconst (pc := 45) X dX2_settle_45 ?_
    refine mo_cVV (pc := 46) (As := [_, _]) X mo_k_X2_107 mo_y_yX1_add rfl dX2_settle_46 (ct_add (a := h + 14) (j := e) (mo_St_r12 hs) rfl (by omega) (by omega) (by omega) (by omega)) (mo_St_r12 hs).1 rfl (by decide) (by decide) (Nat.le_of_ble_eq_true rfl) ?_
    rintro M_46 h_46
    refine mo_goto (pc := 49) (tgt := 61) X dX2_settle_49 (by decide) ?_
    refine mo_vret (pc := 61) X Y rfl dX2_settle_61 ⟨rfl, rfl, rfl, ?_⟩
    refine ⟨?_, fun a ha => by rw [h_46, mo_ur_n (by omega), h_32, mo_ur_n (by omega), h_11, mo_ur_n (by omega)]⟩
    have lo : ∀ j, j < 215 → j ≠ 204 + e → j ≠ 176 + o → j ≠ 2 → mo_hd g k j = g j := fun j z a b c => mo_hd_lo ⟨by rw [he, Int.toNat_natCast]; exact a, by rw [ho, Int.toNat_natCast]; exact b, c, by omega⟩
    have m18 : M_46 (h + 18) = va_up (M (h + 18)) (7 * k + 5) 1 := by rw [h_46, mo_ur_n (by omega), h_32, mo_ur_n (by omega), h_11, mo_ur_s]
    have m6 : M_46 (h + 6) = va_up (M (h + 6)) o (M (h + 6) o + 1) := by rw [h_46, mo_ur_n (by omega), h_32, mo_ur_s, h_11, mo_ur_n (by omega)]
    have m14 : M_46 (h + 14) = va_up (M (h + 14)) e (M (h + 14) e + 1) := by rw [h_46, mo_ur_s, h_32, mo_ur_n (by omega), h_11, mo_ur_n (by omega)]
    have mo : ∀ a, a ≠ h + 6 → a ≠ h + 14 → a ≠ h + 18 → M_46 a = M a := fun a x y z => by rw [h_46, mo_ur_n y, h_32, mo_ur_n x, h_11, mo_ur_n z]
    refine ⟨?_, ?_, ?_, ?_, ?_, ?_, ?_, ?_, ?_, ?_, ?_, ?_, ?_, ?_, ?_⟩
    · rw [mo _ (by omega) (by omega) (by omega), lo _ (by omega) (by omega) (by omega) (by omega)]
      exact s0
    · rw [mo _ (by omega) (by omega) (by omega), lo _ (by omega) (by omega) (by omega) (by omega)]
      exact s1
    · rw [mo _ (by omega) (by omega) (by omega), lo _ (by omega) (by omega) (by omega) (by omega)]
      exact s2
    · rw [mo _ (by omega) (by omega) (by omega), lo _ (by omega) (by omega) (by omega) (by omega)]
      exact s3
    · rw [mo _ (by omega) (by omega) (by omega), lo _ (by omega) (by omega) (by omega) (by omega)]
      exact s4
    · rw [mo _ (by omega) (by omega) (by omega), lo _ (by omega) (by omega) (by omega) (by omega)]
      exact s5
    · intro j hj
      rw [mo _ (by omega) (by omega) (by omega), lo _ (by omega) (by omega) (by omega) (by omega)]
      exact sH j hj
    · intro j hj
      rw [mo _ (by omega) (by omega) (by omega), lo _ (by omega) (by omega) (by omega) (by omega)]
      exact sA j hj
    · intro j hj
      rw [m6]
      by_cases c : j = o
      · rw [c, mo_up_s]
        unfold mo_hd
        rw [he, ho, Int.toNat_natCast, Int.toNat_natCast, if_neg (by omega), if_pos rfl, sE _ (by omega)]
      · rw [mo_up_n c, lo _ (by omega) (by omega) (by omega) (by omega)]
        exact sE j hj
    · intro j hj
      rw [mo _ (by omega) (by omega) (by omega), lo _ (by omega) (by omega) (by omega) (by omega)]
      exact sM j hj
    · intro j hj
      rw [mo _ (by omega) (by omega) (by omega), lo _ (by omega) (by omega) (by omega) (by omega)]
      exact sS j hj
    · intro j hj
      rw [mo _ (by omega) (by omega) (by omega), lo _ (by omega) (by omega) (by omega) (by omega)]
      exact sL j hj
    · intro j hj
      rw [m14]
      by_cases c : j = e
      · rw [c, mo_up_s]
        unfold mo_hd
        rw [he, ho, Int.toNat_natCast, Int.toNat_natCast, if_pos rfl, sW _ (by omega)]
      · rw [mo_up_n c, lo _ (by omega) (by omega) (by omega) (by omega)]
        exact sW j hj
    · intro j hj
      rw [mo _ (by omega) (by omega) (by omega), lo _ (by omega) (by omega) (by omega) (by omega)]
      exact sRo j hj
    · intro k2 j hk2 hj
      rw [lo 7 (by omega) (by omega) (by omega) (by omega)] at hk2
      rw [m18, mo_hd_f hmt2 (by omega) (by omega)]
      by_cases c : 215 + 7 * k2 + (j + 1) % 7 = 215 + 7 * k + 6
      · rw [if_pos c, show 7 * k2 + j = 7 * k + 5 by omega, mo_up_s]
      · rw [if_neg c, mo_up_n (by omega)]
        exact sF k2 j hk2 hj
set_option maxHeartbeats 4000000 in
set_option maxRecDepth 100000 in
theorem ct2_settle2 {lf : Launch} {ρf : mo_E} {G : mo_G} {M : mo_M} {t : Nat} {h : Nat} (hs : mo_St G h) {g : Nat → Int} {B : Int} (hS : mo_SR M h g) (hI : mo_Iv g B) (hB : B ≤ 1000000000) {k : Nat} (hk : (k : Int) < g 7) : mo_Ct lf ρf yX2_settle cX2_settle 4 none 2 0 0 [.ref h, mo_iv k, mo_iv 2] G M t (mo_pv G t (fun M' => mo_SR M' h (mo_ms g k) ∧ ∀ a, mo_out h a → M' a = M a)) := by
  refine mo_ofW (ls0 := [some (.ref h), some (mo_iv k), some (mo_iv 2), none]) (by decide) rfl (Nat.le_of_ble_eq_true rfl) ?_
  intro κ X Y
  have X : mo_Cx κ lf ρf cX2_settle 4 RX2 none 2 := X
  obtain ⟨s0, s1, s2, s3, s4, s5, sH, sA, sE, sM, sS, sL, sW, sRo, sF⟩ := id hS
  obtain ⟨hI0, hI1, hI2, hI3, hI4, hI5, hI6, hI7, hIh, hIa, hIe, hIm, hIs, hIl, hIw, hIr, hIt, hIs2, hIs3, hIz⟩ := id hI
  have hn : ((mo_nk g : Nat) : Int) = g 7 := by unfold mo_nk; omega
  have hmt := hIt k hk
  have hmt2 := hmt
  unfold mo_Mt at hmt
  obtain ⟨o, ho⟩ : ∃ o : Nat, mo_fld g k 1 = o := ⟨(mo_fld g k 1).toNat, by omega⟩
  obtain ⟨e, he⟩ : ∃ o : Nat, mo_fld g k 4 = o := ⟨(mo_fld g k 4).toNat, by omega⟩
  refine mo_al0 (pc := 0) X dX2_settle_0 ?_
  refine mo_f_X2_41 (pc := 1) X dX2_settle_1 (mo_St_o hs) (mo_St_p14 hs) ?_
  refine mo_il1 (pc := 4) X dX2_settle_4 ?_
  refine mo_bipush (pc := 5) X dX2_settle_5 (by decide) ?_
  refine mo_imul (pc := 7) X dX2_settle_7 ?_
  refine mo_iconst (pc := 8) X dX2_settle_8 ?_
  refine mo_iadd (pc := 9) X dX2_settle_9 ?_
  refine mo_il2 (pc := 10) X dX2_settle_10 ?_
  refine mo_cVV (pc := 11) (As := [_, _]) X mo_k_X2_71 mo_y_yX1_set rfl dX2_settle_11 (ct_set (a := h + 18) (j := 7 * k + 5) (mo_St_r14 hs) rfl (by omega) (by omega) (by omega) (by omega)) (mo_St_r14 hs).1 rfl (by decide) (by decide) (Nat.le_of_ble_eq_true rfl) ?_
  rintro M_11 h_11
  refine mo_al0 (pc := 14) X dX2_settle_14 ?_
  refine mo_il1 (pc := 15) X dX2_settle_15 ?_
  refine mo_iconst (pc := 16) X dX2_settle_16 ?_
  refine mo_cVI (pc := 17) (As := [_, _]) X mo_k_X2_83 mo_y_yX2_fact rfl dX2_settle_17 (ct2_fact (k := k) (j := 0) hs (by omega)) (mo_St_o hs) rfl (by decide) (by decide) (Nat.le_of_ble_eq_true rfl) ?_
  rintro r_17 _ ⟨h_17, rfl⟩
  rw [h_11, mo_ur_s, mo_up_n (by omega), sF k 0 hk (by omega), show (0 + 1) % 7 = 1 from rfl, ho] at h_17
  subst h_17
  refine mo_is3 (pc := 20) X dX2_settle_20 rfl (by decide) ?_
  refine mo_il2 (pc := 21) X dX2_settle_21 ?_
  refine mo_iconst (pc := 22) X dX2_settle_22 ?_
  refine mo_ic_ne (pc := 23) (tgt := 52) X dX2_settle_23 (by decide) ?_ ?_ (fun c_23 => ?_) (fun c_23 => ?_)
  · omega
  · omega
  · skip
    refine mo_al0 (pc := 52) X dX2_settle_52 ?_
    refine mo_f_X2_26 (pc := 53) X dX2_settle_53 (mo_St_o hs) (mo_St_p9 hs) ?_
    refine mo_il3 (pc := 56) X dX2_settle_56 ?_
    refine mo_iconst (pc := 57) X dX2_settle_57 ?_
    refine mo_cVV (pc := 58) (As := [_, _]) X mo_k_X2_107 mo_y_yX1_add rfl dX2_settle_58 (ct_add (a := h + 8) (j := o) (mo_St_r9 hs) rfl (by omega) (by omega) (by omega) (by omega)) (mo_St_r9 hs).1 rfl (by decide) (by decide) (Nat.le_of_ble_eq_true rfl) ?_
    rintro M_58 h_58
    refine mo_vret (pc := 61) X Y rfl dX2_settle_61 ⟨rfl, rfl, rfl, ?_⟩
    refine ⟨?_, fun a ha => by rw [h_58, mo_ur_n (by omega), h_11, mo_ur_n (by omega)]⟩
    have lo : ∀ j, j < 215 → j ≠ 184 + o → j ≠ 3 → mo_ms g k j = g j := fun j z a b => mo_ms_lo ⟨by rw [ho, Int.toNat_natCast]; exact a, b, by omega⟩
    have m18 : M_58 (h + 18) = va_up (M (h + 18)) (7 * k + 5) 2 := by rw [h_58, mo_ur_n (by omega), h_11, mo_ur_s]
    have m8 : M_58 (h + 8) = va_up (M (h + 8)) o (M (h + 8) o + 1) := by rw [h_58, mo_ur_s, h_11, mo_ur_n (by omega)]
    have mo : ∀ a, a ≠ h + 8 → a ≠ h + 18 → M_58 a = M a := fun a x z => by rw [h_58, mo_ur_n x, h_11, mo_ur_n z]
    refine ⟨?_, ?_, ?_, ?_, ?_, ?_, ?_, ?_, ?_, ?_, ?_, ?_, ?_, ?_, ?_⟩
    · rw [mo _ (by omega) (by omega), lo _ (by omega) (by omega) (by omega)]
      exact s0
    · rw [mo _ (by omega) (by omega), lo _ (by omega) (by omega) (by omega)]
      exact s1
    · rw [mo _ (by omega) (by omega), lo _ (by omega) (by omega) (by omega)]
      exact s2
    · rw [mo _ (by omega) (by omega), lo _ (by omega) (by omega) (by omega)]
      exact s3
    · rw [mo _ (by omega) (by omega), lo _ (by omega) (by omega) (by omega)]
      exact s4
    · rw [mo _ (by omega) (by omega), lo _ (by omega) (by omega) (by omega)]
      exact s5
    · intro j hj
      rw [mo _ (by omega) (by omega), lo _ (by omega) (by omega) (by omega)]
      exact sH j hj
    · intro j hj
      rw [mo _ (by omega) (by omega), lo _ (by omega) (by omega) (by omega)]
      exact sA j hj
    · intro j hj
      rw [mo _ (by omega) (by omega), lo _ (by omega) (by omega) (by omega)]
      exact sE j hj
    · intro j hj
      rw [m8]
      by_cases c : j = o
      · rw [c, mo_up_s]
        unfold mo_ms
        rw [ho, Int.toNat_natCast, if_pos rfl, sM _ (by omega)]
      · rw [mo_up_n c, lo _ (by omega) (by omega) (by omega)]
        exact sM j hj
    · intro j hj
      rw [mo _ (by omega) (by omega), lo _ (by omega) (by omega) (by omega)]
      exact sS j hj
    · intro j hj
      rw [mo _ (by omega) (by omega), lo _ (by omega) (by omega) (by omega)]
      exact sL j hj
    · intro j hj
      rw [mo _ (by omega) (by omega), lo _ (by omega) (by omega) (by omega)]
      exact sW j hj
    · intro j hj
      rw [mo _ (by omega) (by omega), lo _ (by omega) (by omega) (by omega)]
      exact sRo j hj
    · intro k2 j hk2 hj
      rw [lo 7 (by omega) (by omega) (by omega)] at hk2
      rw [m18, mo_ms_f hmt2 (by omega)]
      by_cases c : 215 + 7 * k2 + (j + 1) % 7 = 215 + 7 * k + 6
      · rw [if_pos c, show 7 * k2 + j = 7 * k + 5 by omega, mo_up_s]
      · rw [if_neg c, mo_up_n (by omega)]
        exact sF k2 j hk2 hj
  · exfalso; omega
