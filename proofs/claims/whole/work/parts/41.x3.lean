theorem mo_hw_no {g : Nat → Int} {B : Int} (h : mo_Iv g B) : ∀ k, k ≤ mo_nk g → ∀ j, j < k → mo_op (mo_hw g k) j = false
  | 0, _, j, hj => absurd hj (by omega)
  | k + 1, hk, j, hj => by
    obtain ⟨h1, h2, h3⟩ := mo_hw_b h k (by omega)
    have hn : ((mo_nk g : Nat) : Int) = g 7 := by
      have := h.2.2.2.2.2.2.2.1
      unfold mo_nk; omega
    have hmt := h1.2.2.2.2.2.2.2.2.2.2.2.2.2.2.2.2.1 k (by rw [h2]; omega)
    have h4 := h1.2.2.2.2.1
    have h5 := h1.2.2.2.2.2.1
    by_cases c : mo_op (mo_hw g k) k = true
    · rw [mo_hw, if_pos c]
      have hmt2 := hmt
      unfold mo_Mt at hmt2
      have e0 : mo_hd (mo_hw g k) k 0 = mo_hw g k 0 := mo_hd_lo ⟨by omega, by omega, by omega, by omega⟩
      by_cases e : j = k
      · rw [e]
        unfold mo_op
        rw [mo_hd_f hmt h4.2 h5.2 (k := k) (j := 6), if_pos rfl]
        exact decide_eq_false (fun q => absurd q.2 (by decide))
      · have ih := mo_hw_no h k (by omega) j (by omega)
        unfold mo_op at ih ⊢
        rw [mo_hd_f hmt h4.2 h5.2 (k := j) (j := 6), if_neg (by omega), mo_hd_f hmt h4.2 h5.2 (k := j) (j := 2), if_neg (by omega), e0]
        exact ih
    · rw [mo_hw, if_neg c]
      by_cases e : j = k
      · rw [e]; exact Bool.eq_false_iff.mpr c
      · exact mo_hw_no h k (by omega) j (by omega)
theorem mo_mw_no {g : Nat → Int} : ∀ k, (∀ j, j < k → mo_op g j = false) → mo_mw g k = (0, g)
  | 0, _ => rfl
  | k + 1, h => by
    rw [mo_mw, mo_mw_no k (fun j hj => h j (by omega))]
    rw [if_neg (by rw [h k (by omega)]; decide)]
set_option maxHeartbeats 4000000 in
set_option maxRecDepth 100000 in
theorem ct4_settledIn {lf : Launch} {ρf : mo_E} {G : mo_G} {M : mo_M} {t : Nat} {x : Nat} (hx : mo_Ms G x) {g : Nat → Int} {B : Int} (hS : mo_SR M (x + 1) g) (hI : mo_Iv g B) (hB : B ≤ 800000000) : mo_Ct lf ρf yX4_settledIn cX4_settledIn 2 (some .int) 5 0 0 [.ref x] G M t (mo_pi G t (fun y M' => y = mo_set 20 g ∧ ∀ a, (a < x + 20 ∨ x + 38 < a) → (a < x + 116 ∨ x + 126 < a) → M' a = M a)) := by
  refine mo_ofW (ls0 := [some (.ref x), none]) (by decide) rfl (Nat.le_of_ble_eq_true rfl) ?_
  intro κ X Y
  have X : mo_Cx κ lf ρf cX4_settledIn 2 RX4 (some .int) 5 := X
  obtain ⟨hI0, hI1, hI2, hI3, hI4, hI5, hI6, hI7, hIh, hIa, hIe, hIm, hIs, hIl, hIw, hIr, hIt, hIs2, hIs3, hIz⟩ := id hI
  obtain ⟨s0, s1, s2, s3, s4, s5, sH, sA, sE, sM, sS, sL, sW, sRo, sF⟩ := id hS
  have k20 : ∀ (M1 : mo_M), mo_set 20 g = -1 → (∀ a, (a < x + 20 ∨ x + 38 < a) → (a < x + 116 ∨ x + 126 < a) → M1 a = M a) → mo_V κ 0 0 19 [some (.ref x), some (mo_iv 20)] [] G M1 t := by
    intro M1 hv hM
    refine mo_il1 (pc := 19) X dX4_settledIn_19 ?_
    refine mo_bipush (pc := 20) X dX4_settledIn_20 (by decide) ?_
    refine mo_ic_ge (pc := 22) (tgt := 73) X dX4_settledIn_22 (by decide) ?_ ?_ (fun c_22 => ?_) (fun c_22 => ?_)
    · omega
    · omega
    · skip
      refine mo_iconst (pc := 73) X dX4_settledIn_73 ?_
      refine mo_iret (pc := 74) X Y rfl dX4_settledIn_74 ⟨rfl, rfl, _, rfl, ?_⟩
      exact ⟨hv.symm, hM⟩
    · exfalso; omega
  have lp1 : ∀ (z v : Nat) (xv : Int) (M1 : mo_M) (g1 : Nat → Int) (B1 : Int) (n : Nat), v + z = 20 → xv = v → v < 20 → mo_SR M1 (x + 20) g1 → mo_Iv g1 B1 → B1 ≤ B + 200 * v → g1 0 = v → 20 ≤ n + v → mo_set n g1 = mo_set 20 g → (∀ a, (a < x + 20 ∨ x + 38 < a) → (a < x + 116 ∨ x + 126 < a) → M1 a = M a) → mo_V κ 0 0 19 [some (.ref x), some (mo_iv xv)] [] G M1 t := by
    intro z
    induction z with
    | zero =>
      intro v xv M1 g1 B1 n hv hx1 hv2 hS1 hI1 hB1 h0 hn hset hM
      exfalso
      omega
    | succ z ih =>
      intro v xv M1 g1 B1 n hv hx1 hv2 hS1 hI1 hB1 h0 hn hset hM
      subst hx1
      obtain ⟨n, rfl⟩ : ∃ n2, n = n2 + 1 := ⟨n - 1, by omega⟩
      obtain ⟨p1, p2⟩ := mo_pl_Iv hv2 61 hI1
      have p0 := mo_pl_0 hv2 61 hI1
      obtain ⟨g2, hg2⟩ : ∃ q, (mo_pl v 61 g1).2 = q := ⟨_, rfl⟩
      rw [hg2] at p1 p0
      obtain ⟨q1, q2, q3⟩ := mo_hw_b p1 (mo_nk g2) (Nat.le_refl _)
      obtain ⟨g3, hg3⟩ : ∃ q, mo_hw g2 (mo_nk g2) = q := ⟨_, rfl⟩
      have hno := mo_hw_no p1 (mo_nk g2) (Nat.le_refl _)
      rw [hg3] at q1 q2 q3 hno
      have hk3 : mo_nk g3 = mo_nk g2 := by unfold mo_nk; rw [q2]
      have hk60 : mo_nk g2 ≤ 60 := by have := p1.2.2.2.2.2.2.2.1; unfold mo_nk; omega
      have hv1 : (g1 0).toNat = v := by omega
      have hst : mo_set (n + 1) g1 = (if mo_owa g3 v = 0 then g1 0 else if g1 0 < 19 then mo_set n (mo_eR g3) else -1) := by
        rw [mo_set, hv1, hg2, hg3]
      have he : mo_eR g3 = mo_gn (mo_nw g3) (mo_nk g3) := by
        unfold mo_eR
        rw [mo_mw_no (mo_nk g3) (fun j hj => hno j (by omega))]
      refine mo_il1 (pc := 19) X dX4_settledIn_19 ?_
      refine mo_bipush (pc := 20) X dX4_settledIn_20 (by decide) ?_
      refine mo_ic_ge (pc := 22) (tgt := 73) X dX4_settledIn_22 (by decide) ?_ ?_ (fun c_22 => ?_) (fun c_22 => ?_)
      · omega
      · omega
      · exfalso
        omega
      · skip
        refine mo_al0 (pc := 25) X dX4_settledIn_25 ?_
        refine mo_f_X4_26 (pc := 26) X dX4_settledIn_26 (mo_Ms_o hx) (mo_Ms_p3 hx) ?_
        refine mo_al0 (pc := 29) X dX4_settledIn_29 ?_
        refine mo_f_X4_16 (pc := 30) X dX4_settledIn_30 (mo_Ms_o hx) (mo_Ms_p1 hx) ?_
        refine mo_il1 (pc := 33) X dX4_settledIn_33 ?_
        refine mo_cVI (pc := 34) (As := [_, _]) X mo_k_X4_169 mo_y_yX3_planAll rfl dX4_settledIn_34 (ct3_planAll (w := v) (mo_Ms_r3 hx) (mo_Ms_r1 hx) (by omega) hS1 hI1 (by omega) hv2 (by omega)) (mo_Bk_o (mo_Ms_r3 hx)) rfl (by decide) (by decide) (Nat.le_of_ble_eq_true rfl) ?_
        rintro r_34 M_34 ⟨h_34, s_34, f_34⟩
        rw [hg2] at s_34
        refine mo_pop (pc := 37) X dX4_settledIn_37 rfl ?_
        refine mo_al0 (pc := 38) X dX4_settledIn_38 ?_
        refine mo_f_X4_16 (pc := 39) X dX4_settledIn_39 (mo_Ms_o hx) (mo_Ms_p1 hx) ?_
        refine mo_iconst (pc := 42) X dX4_settledIn_42 ?_
        refine mo_cVI (pc := 43) (As := [_]) X mo_k_X4_207 mo_y_yX2_settleWeek rfl dX4_settledIn_43 (ct2_settleWeek1 (mo_Ms_r1 hx) s_34 p1 (by omega)) (mo_St_o (mo_Ms_r1 hx)) rfl (by decide) (by decide) (Nat.le_of_ble_eq_true rfl) ?_
        rintro r_43 M_43 ⟨s_43, f_43⟩
        rw [hg3] at s_43
        refine mo_pop (pc := 46) X dX4_settledIn_46 rfl ?_
        refine mo_al0 (pc := 47) X dX4_settledIn_47 ?_
        refine mo_f_X4_16 (pc := 48) X dX4_settledIn_48 (mo_Ms_o hx) (mo_Ms_p1 hx) ?_
        refine mo_il1 (pc := 51) X dX4_settledIn_51 ?_
        refine mo_cVI (pc := 52) (As := [_]) X mo_k_X4_256 mo_y_yX2_debtOfAll rfl dX4_settledIn_52 (ct2_debtOfAll (w := v) (mo_Ms_r1 hx) s_43 q1 (by omega) hv2) (mo_St_o (mo_Ms_r1 hx)) rfl (by decide) (by decide) (Nat.le_of_ble_eq_true rfl) ?_
        rintro r_52 _ ⟨h_52, rfl⟩
        have hob := mo_owa_b q1 hv2
        refine mo_if_ne (pc := 55) (tgt := 60) X dX4_settledIn_55 (by decide) ?_ (fun c_55 => ?_) (fun c_55 => ?_)
        · omega
        · skip
          refine mo_al0 (pc := 60) X dX4_settledIn_60 ?_
          refine mo_f_X4_16 (pc := 61) X dX4_settledIn_61 (mo_Ms_o hx) (mo_Ms_p1 hx) ?_
          refine mo_cVV (pc := 64) (As := []) X mo_k_X4_210 mo_y_yX2_beginNextWeek rfl dX4_settledIn_64 (ct2_beginNextWeek (mo_Ms_r1 hx) s_43 q1 (by omega)) (mo_St_o (mo_Ms_r1 hx)) rfl (by decide) (by decide) (Nat.le_of_ble_eq_true rfl) ?_
          rintro M_64 ⟨s_64, f_64⟩
          refine mo_ii1 (pc := 67) X dX4_settledIn_67 rfl (by decide) ?_
          refine mo_goto (pc := 70) (tgt := 19) X dX4_settledIn_70 (by decide) ?_
          by_cases hlast : v = 19
          · subst hlast
            rw [if_neg (by omega), if_neg (by omega)] at hst
            exact k20 _ (hset.symm.trans hst) fun a a1 a2 => by rw [f_64 a (by omega), f_43 a (by omega), f_34 a (by omega) (by omega), hM a a1 a2]
          · rw [if_neg (by omega), if_pos (by omega)] at hst
            obtain ⟨w1, w2, -⟩ := mo_e_b q1 (by omega)
            refine ih (v + 1) _ M_64 (mo_eR g3) _ n (by omega) (by omega) (by omega) (by rw [he]; exact s_64) w1 (by omega) (by rw [w2]; omega) (by omega) (hst.symm.trans hset) fun a a1 a2 => by rw [f_64 a (by omega), f_43 a (by omega), f_34 a (by omega) (by omega), hM a a1 a2]
        · skip
          refine mo_il1 (pc := 58) X dX4_settledIn_58 ?_
          refine mo_iret (pc := 59) X Y rfl dX4_settledIn_59 ⟨rfl, rfl, _, rfl, ?_⟩
          rw [if_pos (by omega)] at hst
          exact ⟨by rw [← hset, hst, h0], fun a a1 a2 => by rw [f_43 a (by omega), f_34 a (by omega) (by omega), hM a a1 a2]⟩
  refine mo_al0 (pc := 0) X dX4_settledIn_0 ?_
  refine mo_f_X4_16 (pc := 1) X dX4_settledIn_1 (mo_Ms_o hx) (mo_Ms_p1 hx) ?_
  refine mo_al0 (pc := 4) X dX4_settledIn_4 ?_
  refine mo_f_X4_12 (pc := 5) X dX4_settledIn_5 (mo_Ms_o hx) (mo_Ms_p0 hx) ?_
  refine mo_cVV (pc := 8) (As := [_]) X mo_k_X4_269 mo_y_yX2_copyFrom rfl dX4_settledIn_8 (ct2_copyFrom (mo_Ms_r1 hx) (mo_Ms_r0 hx) (by omega) hS hI) (mo_St_o (mo_Ms_r1 hx)) rfl (by decide) (by decide) (Nat.le_of_ble_eq_true rfl) ?_
  rintro M_8 ⟨s_8, f_8⟩
  refine mo_al0 (pc := 11) X dX4_settledIn_11 ?_
  refine mo_f_X4_12 (pc := 12) X dX4_settledIn_12 (mo_Ms_o hx) (mo_Ms_p0 hx) ?_
  refine mo_f_X4_195 (pc := 15) X dX4_settledIn_15 (mo_St_o (mo_Ms_r0 hx)) ?_
  rw [(show M_8 (x + 1) 4 = g 0 by rw [f_8 _ (by omega)]; exact s4)]
  obtain ⟨v, hv⟩ : ∃ q : Nat, g 0 = q := ⟨(g 0).toNat, by omega⟩
  rw [hv]
  refine mo_is1 (pc := 18) X dX4_settledIn_18 rfl (by decide) ?_
  exact lp1 (20 - v) v _ M_8 g B 20 (by omega) rfl (by omega) s_8 hI (by omega) hv (by omega) rfl fun a a1 a2 => f_8 a (by omega)
set_option maxHeartbeats 4000000 in
set_option maxRecDepth 100000 in
theorem ct4_valueD {lf : Launch} {ρf : mo_E} {G : mo_G} {M : mo_M} {t : Nat} {x : Nat} (hx : mo_Ms G x) {w : Int} {g : Nat → Int} {B : Int} (hS : mo_SR M (x + 1) g) (hI : mo_Iv g B) (hB : B ≤ 800000000) (hw : 0 ≤ w ∧ w ≤ 9) : mo_Ct lf ρf yX4_value cX4_value 2 (some .int) 5 0 0 [.ref x, mo_iv w] G M t (mo_pi G t (fun y M' => y = mo_nv g w ∧ M = M')) := by
  refine mo_ofW (ls0 := [some (.ref x), some (mo_iv w)]) (by decide) rfl (Nat.le_of_ble_eq_true rfl) ?_
  intro κ X Y
  have X : mo_Cx κ lf ρf cX4_value 2 RX4 (some .int) 5 := X
  obtain ⟨hI0, hI1, hI2, hI3, hI4, hI5, hI6, hI7, hIh, hIa, hIe, hIm, hIs, hIl, hIw, hIr, hIt, hIs2, hIs3, hIz⟩ := id hI
  obtain ⟨s0, s1, s2, s3, s4, s5, sH, sA, sE, sM, sS, sL, sW, sRo, sF⟩ := id hS
  have hsh : mo_sum (M (x + 7)) 8 = g 2 := by rw [← hIs2]; exact mo_sum_congr fun j hj => sE j hj
  have hsm : mo_sum (M (x + 9)) 8 = g 3 := by rw [← hIs3]; exact mo_sum_congr fun j hj => sM j hj
  rcases (show w = 0 ∨ w = 1 ∨ w = 2 ∨ w = 3 ∨ w = 4 ∨ w = 5 ∨ w = 6 ∨ w = 7 ∨ w = 8 ∨ w = 9 by omega) with rfl | rfl | rfl | rfl | rfl | rfl | rfl | rfl | rfl | rfl
  · skip
    refine mo_il1 (pc := 0) X dX4_value_0 ?_
    refine mo_swIn (pc := 1) (tgt := 56) (off := 55) X dX4_value_1 (by decide) (by decide) (by decide) rfl (by decide) ?_
    refine mo_al0 (pc := 56) X dX4_value_56 ?_
    refine mo_f_X4_12 (pc := 57) X dX4_value_57 (mo_Ms_o hx) (mo_Ms_p0 hx) ?_
    refine mo_f_X4_55 (pc := 60) X dX4_value_60 (mo_St_o (mo_Ms_r0 hx)) ?_
    refine mo_iret (pc := 63) X Y rfl dX4_value_63 ⟨rfl, rfl, _, rfl, ?_⟩
    exact ⟨s0, rfl⟩
  · skip
    refine mo_il1 (pc := 0) X dX4_value_0 ?_
    refine mo_swIn (pc := 1) (tgt := 64) (off := 63) X dX4_value_1 (by decide) (by decide) (by decide) rfl (by decide) ?_
    refine mo_al0 (pc := 64) X dX4_value_64 ?_
    refine mo_f_X4_12 (pc := 65) X dX4_value_65 (mo_Ms_o hx) (mo_Ms_p0 hx) ?_
    refine mo_f_X4_112 (pc := 68) X dX4_value_68 (mo_St_o (mo_Ms_r0 hx)) ?_
    refine mo_iret (pc := 71) X Y rfl dX4_value_71 ⟨rfl, rfl, _, rfl, ?_⟩
    exact ⟨s1, rfl⟩
  · skip
    refine mo_il1 (pc := 0) X dX4_value_0 ?_
    refine mo_swIn (pc := 1) (tgt := 72) (off := 71) X dX4_value_1 (by decide) (by decide) (by decide) rfl (by decide) ?_
    refine mo_al0 (pc := 72) X dX4_value_72 ?_
    refine mo_f_X4_12 (pc := 73) X dX4_value_73 (mo_Ms_o hx) (mo_Ms_p0 hx) ?_
    refine mo_f_X4_132 (pc := 76) X dX4_value_76 (mo_St_o (mo_Ms_r0 hx)) ?_
    refine mo_iret (pc := 79) X Y rfl dX4_value_79 ⟨rfl, rfl, _, rfl, ?_⟩
    exact ⟨s2, rfl⟩
  · skip
    refine mo_il1 (pc := 0) X dX4_value_0 ?_
    refine mo_swIn (pc := 1) (tgt := 80) (off := 79) X dX4_value_1 (by decide) (by decide) (by decide) rfl (by decide) ?_
    refine mo_al0 (pc := 80) X dX4_value_80 ?_
    refine mo_f_X4_12 (pc := 81) X dX4_value_81 (mo_Ms_o hx) (mo_Ms_p0 hx) ?_
    refine mo_f_X4_246 (pc := 84) X dX4_value_84 (mo_St_o (mo_Ms_r0 hx)) ?_
    refine mo_iret (pc := 87) X Y rfl dX4_value_87 ⟨rfl, rfl, _, rfl, ?_⟩
    exact ⟨s3, rfl⟩
  · skip
    refine mo_il1 (pc := 0) X dX4_value_0 ?_
    refine mo_swIn (pc := 1) (tgt := 88) (off := 87) X dX4_value_1 (by decide) (by decide) (by decide) rfl (by decide) ?_
    refine mo_al0 (pc := 88) X dX4_value_88 ?_
    refine mo_f_X4_12 (pc := 89) X dX4_value_89 (mo_Ms_o hx) (mo_Ms_p0 hx) ?_
    refine mo_f_X4_195 (pc := 92) X dX4_value_92 (mo_St_o (mo_Ms_r0 hx)) ?_
    refine mo_iret (pc := 95) X Y rfl dX4_value_95 ⟨rfl, rfl, _, rfl, ?_⟩
    exact ⟨s4, rfl⟩
  · skip
    refine mo_il1 (pc := 0) X dX4_value_0 ?_
    refine mo_swIn (pc := 1) (tgt := 96) (off := 95) X dX4_value_1 (by decide) (by decide) (by decide) rfl (by decide) ?_
    refine mo_al0 (pc := 96) X dX4_value_96 ?_
    refine mo_f_X4_12 (pc := 97) X dX4_value_97 (mo_Ms_o hx) (mo_Ms_p0 hx) ?_
    refine mo_f_X4_249 (pc := 100) X dX4_value_100 (mo_St_o (mo_Ms_r0 hx)) ?_
    refine mo_iret (pc := 103) X Y rfl dX4_value_103 ⟨rfl, rfl, _, rfl, ?_⟩
    exact ⟨s5, rfl⟩
  · skip
    refine mo_il1 (pc := 0) X dX4_value_0 ?_
    refine mo_swIn (pc := 1) (tgt := 104) (off := 103) X dX4_value_1 (by decide) (by decide) (by decide) rfl (by decide) ?_
    refine mo_al0 (pc := 104) X dX4_value_104 ?_
    refine mo_f_X4_12 (pc := 105) X dX4_value_105 (mo_Ms_o hx) (mo_Ms_p0 hx) ?_
    refine mo_f_X4_213 (pc := 108) X dX4_value_108 (mo_St_o (mo_Ms_r0 hx)) (mo_St_p8 (mo_Ms_r0 hx)) ?_
    refine mo_cVI (pc := 111) (As := []) X mo_k_X4_252 mo_y_yX1_sum rfl dX4_value_111 (ct_sum (a := x + 7) (mo_St_r8 (mo_Ms_r0 hx)) rfl (by omega)) (mo_St_r8 (mo_Ms_r0 hx)).1 rfl (by decide) (by decide) (Nat.le_of_ble_eq_true rfl) ?_
    rintro r_111 _ ⟨h_111, rfl⟩
    refine mo_iret (pc := 114) X Y rfl dX4_value_114 ⟨rfl, rfl, _, rfl, ?_⟩
    exact ⟨h_111.trans hsh, rfl⟩
  · skip
    refine mo_il1 (pc := 0) X dX4_value_0 ?_
    refine mo_swIn (pc := 1) (tgt := 115) (off := 114) X dX4_value_1 (by decide) (by decide) (by decide) rfl (by decide) ?_
    refine mo_al0 (pc := 115) X dX4_value_115 ?_
    refine mo_f_X4_12 (pc := 116) X dX4_value_116 (mo_Ms_o hx) (mo_Ms_p0 hx) ?_
    refine mo_f_X4_216 (pc := 119) X dX4_value_119 (mo_St_o (mo_Ms_r0 hx)) (mo_St_p9 (mo_Ms_r0 hx)) ?_
    refine mo_cVI (pc := 122) (As := []) X mo_k_X4_252 mo_y_yX1_sum rfl dX4_value_122 (ct_sum (a := x + 9) (mo_St_r9 (mo_Ms_r0 hx)) rfl (by omega)) (mo_St_r9 (mo_Ms_r0 hx)).1 rfl (by decide) (by decide) (Nat.le_of_ble_eq_true rfl) ?_
    rintro r_122 _ ⟨h_122, rfl⟩
    refine mo_iret (pc := 125) X Y rfl dX4_value_125 ⟨rfl, rfl, _, rfl, ?_⟩
    exact ⟨h_122.trans hsm, rfl⟩
  · skip
    refine mo_il1 (pc := 0) X dX4_value_0 ?_
    refine mo_swIn (pc := 1) (tgt := 126) (off := 125) X dX4_value_1 (by decide) (by decide) (by decide) rfl (by decide) ?_
    refine mo_al0 (pc := 126) X dX4_value_126 ?_
    refine mo_f_X4_12 (pc := 127) X dX4_value_127 (mo_Ms_o hx) (mo_Ms_p0 hx) ?_
    refine mo_al0 (pc := 130) X dX4_value_130 ?_
    refine mo_f_X4_12 (pc := 131) X dX4_value_131 (mo_Ms_o hx) (mo_Ms_p0 hx) ?_
    refine mo_f_X4_195 (pc := 134) X dX4_value_134 (mo_St_o (mo_Ms_r0 hx)) ?_
    rw [s4, show g 0 = (((g 0).toNat : Nat) : Int) by omega]
    refine mo_cVI (pc := 137) (As := [_]) X mo_k_X4_256 mo_y_yX2_debtOfAll rfl dX4_value_137 (ct2_debtOfAll (w := (g 0).toNat) (mo_Ms_r0 hx) hS hI (by omega) (by omega)) (mo_St_o (mo_Ms_r0 hx)) rfl (by decide) (by decide) (Nat.le_of_ble_eq_true rfl) ?_
    rintro r_137 _ ⟨h_137, rfl⟩
    refine mo_iret (pc := 140) X Y rfl dX4_value_140 ⟨rfl, rfl, _, rfl, ?_⟩
    exact ⟨h_137, rfl⟩
  · skip
    refine mo_il1 (pc := 0) X dX4_value_0 ?_
    refine mo_swIn (pc := 1) (tgt := 141) (off := 140) X dX4_value_1 (by decide) (by decide) (by decide) rfl (by decide) ?_
    refine mo_al0 (pc := 141) X dX4_value_141 ?_
    refine mo_f_X4_12 (pc := 142) X dX4_value_142 (mo_Ms_o hx) (mo_Ms_p0 hx) ?_
    refine mo_f_X4_249 (pc := 145) X dX4_value_145 (mo_St_o (mo_Ms_r0 hx)) ?_
    refine mo_iret (pc := 148) X Y rfl dX4_value_148 ⟨rfl, rfl, _, rfl, ?_⟩
    exact ⟨s5, rfl⟩
set_option maxHeartbeats 4000000 in
set_option maxRecDepth 100000 in
theorem ct4_orderD {lf : Launch} {ρf : mo_E} {G : mo_G} {M : mo_M} {t : Nat} {x : Nat} (hx : mo_Ms G x) {o : Nat} {w : Int} {g : Nat → Int} {B : Int} (hS : mo_SR M (x + 1) g) (hI : mo_Iv g B) (hB : B ≤ 800000000) (ho : (o : Int) < g 4) (hw : 0 ≤ w ∧ w ≤ 6) : mo_Ct lf ρf yX4_order cX4_order 3 (some .int) 4 0 0 [.ref x, mo_iv o, mo_iv w] G M t (mo_pi G t (fun y M' => y = mo_ov g o w ∧ M = M')) := by
  refine mo_ofW (ls0 := [some (.ref x), some (mo_iv o), some (mo_iv w)]) (by decide) rfl (Nat.le_of_ble_eq_true rfl) ?_
  intro κ X Y
  have X : mo_Cx κ lf ρf cX4_order 3 RX4 (some .int) 4 := X
  obtain ⟨hI0, hI1, hI2, hI3, hI4, hI5, hI6, hI7, hIh, hIa, hIe, hIm, hIs, hIl, hIw, hIr, hIt, hIs2, hIs3, hIz⟩ := id hI
  obtain ⟨s0, s1, s2, s3, s4, s5, sH, sA, sE, sM, sS, sL, sW, sRo, sF⟩ := id hS
  have e20 : (((g 0).toNat : Nat) : Int) = g 0 := by omega
  rcases (show w = 0 ∨ w = 1 ∨ w = 2 ∨ w = 3 ∨ w = 4 ∨ w = 5 ∨ w = 6 by omega) with rfl | rfl | rfl | rfl | rfl | rfl | rfl
  · skip
    refine mo_al0 (pc := 0) X dX4_order_0 ?_
    refine mo_f_X4_12 (pc := 1) X dX4_order_1 (mo_Ms_o hx) (mo_Ms_p0 hx) ?_
    refine mo_il1 (pc := 4) X dX4_order_4 ?_
    refine mo_cVI (pc := 5) (As := [_]) X mo_k_X4_70 mo_y_yX2_hasOrder rfl dX4_order_5 (ct2_hasOrder (mo_Ms_r0 hx) (by omega) (by omega)) (mo_St_o (mo_Ms_r0 hx)) rfl (by decide) (by decide) (Nat.le_of_ble_eq_true rfl) ?_
    rintro r_5 _ ⟨h_5, rfl⟩
    refine mo_if_ne (pc := 8) (tgt := 21) X dX4_order_8 (by decide) ?_ (fun c_8 => ?_) (fun c_8 => ?_)
    · omega
    · skip
      refine mo_il2 (pc := 21) X dX4_order_21 ?_
      refine mo_swIn (pc := 22) (tgt := 64) (off := 42) X dX4_order_22 (by decide) (by decide) (by decide) rfl (by decide) ?_
      refine mo_al0 (pc := 64) X dX4_order_64 ?_
      refine mo_f_X4_12 (pc := 65) X dX4_order_65 (mo_Ms_o hx) (mo_Ms_p0 hx) ?_
      refine mo_il1 (pc := 68) X dX4_order_68 ?_
      refine mo_al0 (pc := 69) X dX4_order_69 ?_
      refine mo_f_X4_12 (pc := 70) X dX4_order_70 (mo_Ms_o hx) (mo_Ms_p0 hx) ?_
      refine mo_f_X4_195 (pc := 73) X dX4_order_73 (mo_St_o (mo_Ms_r0 hx)) ?_
      rw [s4, ← e20]
      refine mo_cVI (pc := 76) (As := [_, _]) X mo_k_X4_84 mo_y_yX2_hoursIn rfl dX4_order_76 (ct2_hoursIn (o := o) (w := (g 0).toNat) (mo_Ms_r0 hx) (by omega) (by omega)) (mo_St_o (mo_Ms_r0 hx)) rfl (by decide) (by decide) (Nat.le_of_ble_eq_true rfl) ?_
      rintro r_76 _ ⟨h_76, rfl⟩
      refine mo_iret (pc := 79) X Y rfl dX4_order_79 ⟨rfl, rfl, _, rfl, ?_⟩
      refine ⟨?_, rfl⟩
      rw [h_76, show x + 1 + 2 = x + 1 + 2 from rfl, sH _ (by omega)]
      show _ = g (8 + 20 * o + (g 0).toNat)
      rw [show 8 + (20 * o + (g 0).toNat) = 8 + 20 * o + (g 0).toNat by omega]
    · exfalso
      omega
  · skip
    refine mo_al0 (pc := 0) X dX4_order_0 ?_
    refine mo_f_X4_12 (pc := 1) X dX4_order_1 (mo_Ms_o hx) (mo_Ms_p0 hx) ?_
    refine mo_il1 (pc := 4) X dX4_order_4 ?_
    refine mo_cVI (pc := 5) (As := [_]) X mo_k_X4_70 mo_y_yX2_hasOrder rfl dX4_order_5 (ct2_hasOrder (mo_Ms_r0 hx) (by omega) (by omega)) (mo_St_o (mo_Ms_r0 hx)) rfl (by decide) (by decide) (Nat.le_of_ble_eq_true rfl) ?_
    rintro r_5 _ ⟨h_5, rfl⟩
    refine mo_if_ne (pc := 8) (tgt := 21) X dX4_order_8 (by decide) ?_ (fun c_8 => ?_) (fun c_8 => ?_)
    · omega
    · skip
      refine mo_il2 (pc := 21) X dX4_order_21 ?_
      refine mo_swIn (pc := 22) (tgt := 80) (off := 58) X dX4_order_22 (by decide) (by decide) (by decide) rfl (by decide) ?_
      refine mo_al0 (pc := 80) X dX4_order_80 ?_
      refine mo_f_X4_12 (pc := 81) X dX4_order_81 (mo_Ms_o hx) (mo_Ms_p0 hx) ?_
      refine mo_f_X4_93 (pc := 84) X dX4_order_84 (mo_St_o (mo_Ms_r0 hx)) (mo_St_p7 (mo_Ms_r0 hx)) ?_
      refine mo_il1 (pc := 87) X dX4_order_87 ?_
      refine mo_cVI (pc := 88) (As := [_]) X mo_k_X4_97 mo_y_yX1_get rfl dX4_order_88 (ct_get (a := x + 1 + 4) (j := o) (mo_St_r7 (mo_Ms_r0 hx)) rfl (by omega) (by omega) (by omega) (by omega)) (mo_St_r7 (mo_Ms_r0 hx)).1 rfl (by decide) (by decide) (Nat.le_of_ble_eq_true rfl) ?_
      rintro r_88 _ ⟨h_88, rfl⟩
      refine mo_iret (pc := 91) X Y rfl dX4_order_91 ⟨rfl, rfl, _, rfl, ?_⟩
      exact ⟨h_88.trans (sA o (by omega)), rfl⟩
    · exfalso
      omega
  · skip
    refine mo_al0 (pc := 0) X dX4_order_0 ?_
    refine mo_f_X4_12 (pc := 1) X dX4_order_1 (mo_Ms_o hx) (mo_Ms_p0 hx) ?_
    refine mo_il1 (pc := 4) X dX4_order_4 ?_
    refine mo_cVI (pc := 5) (As := [_]) X mo_k_X4_70 mo_y_yX2_hasOrder rfl dX4_order_5 (ct2_hasOrder (mo_Ms_r0 hx) (by omega) (by omega)) (mo_St_o (mo_Ms_r0 hx)) rfl (by decide) (by decide) (Nat.le_of_ble_eq_true rfl) ?_
    rintro r_5 _ ⟨h_5, rfl⟩
    refine mo_if_ne (pc := 8) (tgt := 21) X dX4_order_8 (by decide) ?_ (fun c_8 => ?_) (fun c_8 => ?_)
    · omega
    · skip
      refine mo_il2 (pc := 21) X dX4_order_21 ?_
      refine mo_swIn (pc := 22) (tgt := 92) (off := 70) X dX4_order_22 (by decide) (by decide) (by decide) rfl (by decide) ?_
      refine mo_al0 (pc := 92) X dX4_order_92 ?_
      refine mo_f_X4_12 (pc := 93) X dX4_order_93 (mo_Ms_o hx) (mo_Ms_p0 hx) ?_
      refine mo_f_X4_213 (pc := 96) X dX4_order_96 (mo_St_o (mo_Ms_r0 hx)) (mo_St_p8 (mo_Ms_r0 hx)) ?_
      refine mo_il1 (pc := 99) X dX4_order_99 ?_
      refine mo_cVI (pc := 100) (As := [_]) X mo_k_X4_97 mo_y_yX1_get rfl dX4_order_100 (ct_get (a := x + 1 + 6) (j := o) (mo_St_r8 (mo_Ms_r0 hx)) rfl (by omega) (by omega) (by omega) (by omega)) (mo_St_r8 (mo_Ms_r0 hx)).1 rfl (by decide) (by decide) (Nat.le_of_ble_eq_true rfl) ?_
      rintro r_100 _ ⟨h_100, rfl⟩
      refine mo_iret (pc := 103) X Y rfl dX4_order_103 ⟨rfl, rfl, _, rfl, ?_⟩
      exact ⟨h_100.trans (sE o (by omega)), rfl⟩
    · exfalso
      omega
  · skip
    refine mo_al0 (pc := 0) X dX4_order_0 ?_
    refine mo_f_X4_12 (pc := 1) X dX4_order_1 (mo_Ms_o hx) (mo_Ms_p0 hx) ?_
    refine mo_il1 (pc := 4) X dX4_order_4 ?_
    refine mo_cVI (pc := 5) (As := [_]) X mo_k_X4_70 mo_y_yX2_hasOrder rfl dX4_order_5 (ct2_hasOrder (mo_Ms_r0 hx) (by omega) (by omega)) (mo_St_o (mo_Ms_r0 hx)) rfl (by decide) (by decide) (Nat.le_of_ble_eq_true rfl) ?_
    rintro r_5 _ ⟨h_5, rfl⟩
    refine mo_if_ne (pc := 8) (tgt := 21) X dX4_order_8 (by decide) ?_ (fun c_8 => ?_) (fun c_8 => ?_)
    · omega
    · skip
      refine mo_il2 (pc := 21) X dX4_order_21 ?_
      refine mo_swIn (pc := 22) (tgt := 104) (off := 82) X dX4_order_22 (by decide) (by decide) (by decide) rfl (by decide) ?_
      refine mo_al0 (pc := 104) X dX4_order_104 ?_
      refine mo_f_X4_12 (pc := 105) X dX4_order_105 (mo_Ms_o hx) (mo_Ms_p0 hx) ?_
      refine mo_f_X4_216 (pc := 108) X dX4_order_108 (mo_St_o (mo_Ms_r0 hx)) (mo_St_p9 (mo_Ms_r0 hx)) ?_
      refine mo_il1 (pc := 111) X dX4_order_111 ?_
      refine mo_cVI (pc := 112) (As := [_]) X mo_k_X4_97 mo_y_yX1_get rfl dX4_order_112 (ct_get (a := x + 1 + 8) (j := o) (mo_St_r9 (mo_Ms_r0 hx)) rfl (by omega) (by omega) (by omega) (by omega)) (mo_St_r9 (mo_Ms_r0 hx)).1 rfl (by decide) (by decide) (Nat.le_of_ble_eq_true rfl) ?_
      rintro r_112 _ ⟨h_112, rfl⟩
      refine mo_iret (pc := 115) X Y rfl dX4_order_115 ⟨rfl, rfl, _, rfl, ?_⟩
      exact ⟨h_112.trans (sM o (by omega)), rfl⟩
    · exfalso
      omega
  · skip
    refine mo_al0 (pc := 0) X dX4_order_0 ?_
    refine mo_f_X4_12 (pc := 1) X dX4_order_1 (mo_Ms_o hx) (mo_Ms_p0 hx) ?_
    refine mo_il1 (pc := 4) X dX4_order_4 ?_
    refine mo_cVI (pc := 5) (As := [_]) X mo_k_X4_70 mo_y_yX2_hasOrder rfl dX4_order_5 (ct2_hasOrder (mo_Ms_r0 hx) (by omega) (by omega)) (mo_St_o (mo_Ms_r0 hx)) rfl (by decide) (by decide) (Nat.le_of_ble_eq_true rfl) ?_
    rintro r_5 _ ⟨h_5, rfl⟩
    refine mo_if_ne (pc := 8) (tgt := 21) X dX4_order_8 (by decide) ?_ (fun c_8 => ?_) (fun c_8 => ?_)
    · omega
    · skip
      refine mo_il2 (pc := 21) X dX4_order_21 ?_
      refine mo_swIn (pc := 22) (tgt := 116) (off := 94) X dX4_order_22 (by decide) (by decide) (by decide) rfl (by decide) ?_
      refine mo_al0 (pc := 116) X dX4_order_116 ?_
      refine mo_f_X4_12 (pc := 117) X dX4_order_117 (mo_Ms_o hx) (mo_Ms_p0 hx) ?_
      refine mo_il1 (pc := 120) X dX4_order_120 ?_
      refine mo_bipush (pc := 121) X dX4_order_121 (by decide) ?_
      refine mo_cVI (pc := 123) (As := [_, _]) X mo_k_X4_219 mo_y_yX2_plannedUpTo rfl dX4_order_123 (ct2_plannedUpTo (o := o) (w := 19) (mo_Ms_r0 hx) hS hI (by omega) (by omega) (by omega)) (mo_St_o (mo_Ms_r0 hx)) rfl (by decide) (by decide) (Nat.le_of_ble_eq_true rfl) ?_
      rintro r_123 _ ⟨h_123, rfl⟩
      refine mo_iret (pc := 126) X Y rfl dX4_order_126 ⟨rfl, rfl, _, rfl, ?_⟩
      exact ⟨h_123, rfl⟩
    · exfalso
      omega
  · skip
    refine mo_al0 (pc := 0) X dX4_order_0 ?_
    refine mo_f_X4_12 (pc := 1) X dX4_order_1 (mo_Ms_o hx) (mo_Ms_p0 hx) ?_
    refine mo_il1 (pc := 4) X dX4_order_4 ?_
    refine mo_cVI (pc := 5) (As := [_]) X mo_k_X4_70 mo_y_yX2_hasOrder rfl dX4_order_5 (ct2_hasOrder (mo_Ms_r0 hx) (by omega) (by omega)) (mo_St_o (mo_Ms_r0 hx)) rfl (by decide) (by decide) (Nat.le_of_ble_eq_true rfl) ?_
    rintro r_5 _ ⟨h_5, rfl⟩
    refine mo_if_ne (pc := 8) (tgt := 21) X dX4_order_8 (by decide) ?_ (fun c_8 => ?_) (fun c_8 => ?_)
    · omega
    · skip
      refine mo_il2 (pc := 21) X dX4_order_21 ?_
      refine mo_swIn (pc := 22) (tgt := 127) (off := 105) X dX4_order_22 (by decide) (by decide) (by decide) rfl (by decide) ?_
      refine mo_al0 (pc := 127) X dX4_order_127 ?_
      refine mo_f_X4_12 (pc := 128) X dX4_order_128 (mo_Ms_o hx) (mo_Ms_p0 hx) ?_
      refine mo_il1 (pc := 131) X dX4_order_131 ?_
      refine mo_al0 (pc := 132) X dX4_order_132 ?_
      refine mo_f_X4_12 (pc := 133) X dX4_order_133 (mo_Ms_o hx) (mo_Ms_p0 hx) ?_
      refine mo_f_X4_195 (pc := 136) X dX4_order_136 (mo_St_o (mo_Ms_r0 hx)) ?_
      rw [s4, ← e20]
      refine mo_cVI (pc := 139) (As := [_, _]) X mo_k_X4_198 mo_y_yX2_debt rfl dX4_order_139 (ct2_debt (o := o) (w := (g 0).toNat) (mo_Ms_r0 hx) hS hI (by omega) (by omega) (by omega)) (mo_St_o (mo_Ms_r0 hx)) rfl (by decide) (by decide) (Nat.le_of_ble_eq_true rfl) ?_
      rintro r_139 _ ⟨h_139, rfl⟩
      refine mo_iret (pc := 142) X Y rfl dX4_order_142 ⟨rfl, rfl, _, rfl, ?_⟩
      exact ⟨h_139, rfl⟩
    · exfalso
      omega
  · skip
    refine mo_al0 (pc := 0) X dX4_order_0 ?_
    refine mo_f_X4_12 (pc := 1) X dX4_order_1 (mo_Ms_o hx) (mo_Ms_p0 hx) ?_
    refine mo_il1 (pc := 4) X dX4_order_4 ?_
    refine mo_cVI (pc := 5) (As := [_]) X mo_k_X4_70 mo_y_yX2_hasOrder rfl dX4_order_5 (ct2_hasOrder (mo_Ms_r0 hx) (by omega) (by omega)) (mo_St_o (mo_Ms_r0 hx)) rfl (by decide) (by decide) (Nat.le_of_ble_eq_true rfl) ?_
    rintro r_5 _ ⟨h_5, rfl⟩
    refine mo_if_ne (pc := 8) (tgt := 21) X dX4_order_8 (by decide) ?_ (fun c_8 => ?_) (fun c_8 => ?_)
    · omega
    · skip
      refine mo_il2 (pc := 21) X dX4_order_21 ?_
      refine mo_swIn (pc := 22) (tgt := 143) (off := 121) X dX4_order_22 (by decide) (by decide) (by decide) rfl (by decide) ?_
      refine mo_al0 (pc := 143) X dX4_order_143 ?_
      refine mo_f_X4_12 (pc := 144) X dX4_order_144 (mo_Ms_o hx) (mo_Ms_p0 hx) ?_
      refine mo_il1 (pc := 147) X dX4_order_147 ?_
      refine mo_bipush (pc := 148) X dX4_order_148 (by decide) ?_
      refine mo_cVI (pc := 150) (As := [_, _]) X mo_k_X4_222 mo_y_yX2_hoursUpTo rfl dX4_order_150 (ct2_hoursUpTo (o := o) (w := 19) (mo_Ms_r0 hx) hS hI (by omega) (by omega) (by omega)) (mo_St_o (mo_Ms_r0 hx)) rfl (by decide) (by decide) (Nat.le_of_ble_eq_true rfl) ?_
      rintro r_150 _ ⟨h_150, rfl⟩
      refine mo_iret (pc := 153) X Y rfl dX4_order_153 ⟨rfl, rfl, _, rfl, ?_⟩
      exact ⟨h_150, rfl⟩
    · exfalso
      omega
set_option maxHeartbeats 4000000 in
set_option maxRecDepth 100000 in
theorem ct4_escortD {lf : Launch} {ρf : mo_E} {G : mo_G} {M : mo_M} {t : Nat} {x : Nat} (hx : mo_Ms G x) {o : Nat} {w : Int} {g : Nat → Int} {B : Int} (hS : mo_SR M (x + 1) g) (hI : mo_Iv g B) (hB : B ≤ 800000000) (ho : (o : Int) < g 5) (hw : 0 ≤ w ∧ w ≤ 3) : mo_Ct lf ρf yX4_escort cX4_escort 3 (some .int) 4 0 0 [.ref x, mo_iv o, mo_iv w] G M t (mo_pi G t (fun y M' => y = mo_ev g o w ∧ M = M')) := by
  refine mo_ofW (ls0 := [some (.ref x), some (mo_iv o), some (mo_iv w)]) (by decide) rfl (Nat.le_of_ble_eq_true rfl) ?_
  intro κ X Y
  have X : mo_Cx κ lf ρf cX4_escort 3 RX4 (some .int) 4 := X
  obtain ⟨hI0, hI1, hI2, hI3, hI4, hI5, hI6, hI7, hIh, hIa, hIe, hIm, hIs, hIl, hIw, hIr, hIt, hIs2, hIs3, hIz⟩ := id hI
  obtain ⟨s0, s1, s2, s3, s4, s5, sH, sA, sE, sM, sS, sL, sW, sRo, sF⟩ := id hS
  rcases (show w = 0 ∨ w = 1 ∨ w = 2 ∨ w = 3 by omega) with rfl | rfl | rfl | rfl
  · skip
    refine mo_al0 (pc := 0) X dX4_escort_0 ?_
    refine mo_f_X4_12 (pc := 1) X dX4_escort_1 (mo_Ms_o hx) (mo_Ms_p0 hx) ?_
    refine mo_il1 (pc := 4) X dX4_escort_4 ?_
    refine mo_cVI (pc := 5) (As := [_]) X mo_k_X4_120 mo_y_yX2_hasEscort rfl dX4_escort_5 (ct2_hasEscort (mo_Ms_r0 hx) (by omega) (by omega)) (mo_St_o (mo_Ms_r0 hx)) rfl (by decide) (by decide) (Nat.le_of_ble_eq_true rfl) ?_
    rintro r_5 _ ⟨h_5, rfl⟩
    refine mo_if_ne (pc := 8) (tgt := 21) X dX4_escort_8 (by decide) ?_ (fun c_8 => ?_) (fun c_8 => ?_)
    · omega
    · skip
      refine mo_il2 (pc := 21) X dX4_escort_21 ?_
      refine mo_swIn (pc := 22) (tgt := 52) (off := 30) X dX4_escort_22 (by decide) (by decide) (by decide) rfl (by decide) ?_
      refine mo_al0 (pc := 52) X dX4_escort_52 ?_
      refine mo_f_X4_12 (pc := 53) X dX4_escort_53 (mo_Ms_o hx) (mo_Ms_p0 hx) ?_
      refine mo_f_X4_127 (pc := 56) X dX4_escort_56 (mo_St_o (mo_Ms_r0 hx)) (mo_St_p10 (mo_Ms_r0 hx)) ?_
      refine mo_il1 (pc := 59) X dX4_escort_59 ?_
      refine mo_cVI (pc := 60) (As := [_]) X mo_k_X4_97 mo_y_yX1_get rfl dX4_escort_60 (ct_get (a := x + 1 + 10) (j := o) (mo_St_r10 (mo_Ms_r0 hx)) rfl (by omega) (by omega) (by omega) (by omega)) (mo_St_r10 (mo_Ms_r0 hx)).1 rfl (by decide) (by decide) (Nat.le_of_ble_eq_true rfl) ?_
      rintro r_60 _ ⟨h_60, rfl⟩
      refine mo_iret (pc := 63) X Y rfl dX4_escort_63 ⟨rfl, rfl, _, rfl, ?_⟩
      exact ⟨h_60.trans (sS o (by omega)), rfl⟩
    · exfalso
      omega
  · skip
    refine mo_al0 (pc := 0) X dX4_escort_0 ?_
    refine mo_f_X4_12 (pc := 1) X dX4_escort_1 (mo_Ms_o hx) (mo_Ms_p0 hx) ?_
    refine mo_il1 (pc := 4) X dX4_escort_4 ?_
    refine mo_cVI (pc := 5) (As := [_]) X mo_k_X4_120 mo_y_yX2_hasEscort rfl dX4_escort_5 (ct2_hasEscort (mo_Ms_r0 hx) (by omega) (by omega)) (mo_St_o (mo_Ms_r0 hx)) rfl (by decide) (by decide) (Nat.le_of_ble_eq_true rfl) ?_
    rintro r_5 _ ⟨h_5, rfl⟩
    refine mo_if_ne (pc := 8) (tgt := 21) X dX4_escort_8 (by decide) ?_ (fun c_8 => ?_) (fun c_8 => ?_)
    · omega
    · skip
      refine mo_il2 (pc := 21) X dX4_escort_21 ?_
      refine mo_swIn (pc := 22) (tgt := 64) (off := 42) X dX4_escort_22 (by decide) (by decide) (by decide) rfl (by decide) ?_
      refine mo_al0 (pc := 64) X dX4_escort_64 ?_
      refine mo_f_X4_12 (pc := 65) X dX4_escort_65 (mo_Ms_o hx) (mo_Ms_p0 hx) ?_
      refine mo_f_X4_227 (pc := 68) X dX4_escort_68 (mo_St_o (mo_Ms_r0 hx)) (mo_St_p11 (mo_Ms_r0 hx)) ?_
      refine mo_il1 (pc := 71) X dX4_escort_71 ?_
      refine mo_cVI (pc := 72) (As := [_]) X mo_k_X4_97 mo_y_yX1_get rfl dX4_escort_72 (ct_get (a := x + 1 + 12) (j := o) (mo_St_r11 (mo_Ms_r0 hx)) rfl (by omega) (by omega) (by omega) (by omega)) (mo_St_r11 (mo_Ms_r0 hx)).1 rfl (by decide) (by decide) (Nat.le_of_ble_eq_true rfl) ?_
      rintro r_72 _ ⟨h_72, rfl⟩
      refine mo_iret (pc := 75) X Y rfl dX4_escort_75 ⟨rfl, rfl, _, rfl, ?_⟩
      exact ⟨h_72.trans (sL o (by omega)), rfl⟩
    · exfalso
      omega
  · skip
    refine mo_al0 (pc := 0) X dX4_escort_0 ?_
    refine mo_f_X4_12 (pc := 1) X dX4_escort_1 (mo_Ms_o hx) (mo_Ms_p0 hx) ?_
    refine mo_il1 (pc := 4) X dX4_escort_4 ?_
    refine mo_cVI (pc := 5) (As := [_]) X mo_k_X4_120 mo_y_yX2_hasEscort rfl dX4_escort_5 (ct2_hasEscort (mo_Ms_r0 hx) (by omega) (by omega)) (mo_St_o (mo_Ms_r0 hx)) rfl (by decide) (by decide) (Nat.le_of_ble_eq_true rfl) ?_
    rintro r_5 _ ⟨h_5, rfl⟩
    refine mo_if_ne (pc := 8) (tgt := 21) X dX4_escort_8 (by decide) ?_ (fun c_8 => ?_) (fun c_8 => ?_)
    · omega
    · skip
      refine mo_il2 (pc := 21) X dX4_escort_21 ?_
      refine mo_swIn (pc := 22) (tgt := 76) (off := 54) X dX4_escort_22 (by decide) (by decide) (by decide) rfl (by decide) ?_
      refine mo_al0 (pc := 76) X dX4_escort_76 ?_
      refine mo_f_X4_12 (pc := 77) X dX4_escort_77 (mo_Ms_o hx) (mo_Ms_p0 hx) ?_
      refine mo_il1 (pc := 80) X dX4_escort_80 ?_
      refine mo_al0 (pc := 81) X dX4_escort_81 ?_
      refine mo_f_X4_12 (pc := 82) X dX4_escort_82 (mo_Ms_o hx) (mo_Ms_p0 hx) ?_
      refine mo_f_X4_195 (pc := 85) X dX4_escort_85 (mo_St_o (mo_Ms_r0 hx)) ?_
      rw [s4]
      refine mo_cVI (pc := 88) (As := [_, _]) X mo_k_X4_230 mo_y_yX2_meetingsWith rfl dX4_escort_88 (ct2_meetingsWith (e := o) (w := g 0) (mo_Ms_r0 hx) hS hI (by omega) (by omega) (by omega)) (mo_St_o (mo_Ms_r0 hx)) rfl (by decide) (by decide) (Nat.le_of_ble_eq_true rfl) ?_
      rintro r_88 _ ⟨h_88, rfl⟩
      refine mo_iret (pc := 91) X Y rfl dX4_escort_91 ⟨rfl, rfl, _, rfl, ?_⟩
      exact ⟨h_88, rfl⟩
    · exfalso
      omega
  · skip
    refine mo_al0 (pc := 0) X dX4_escort_0 ?_
    refine mo_f_X4_12 (pc := 1) X dX4_escort_1 (mo_Ms_o hx) (mo_Ms_p0 hx) ?_
    refine mo_il1 (pc := 4) X dX4_escort_4 ?_
    refine mo_cVI (pc := 5) (As := [_]) X mo_k_X4_120 mo_y_yX2_hasEscort rfl dX4_escort_5 (ct2_hasEscort (mo_Ms_r0 hx) (by omega) (by omega)) (mo_St_o (mo_Ms_r0 hx)) rfl (by decide) (by decide) (Nat.le_of_ble_eq_true rfl) ?_
    rintro r_5 _ ⟨h_5, rfl⟩
    refine mo_if_ne (pc := 8) (tgt := 21) X dX4_escort_8 (by decide) ?_ (fun c_8 => ?_) (fun c_8 => ?_)
    · omega
    · skip
      refine mo_il2 (pc := 21) X dX4_escort_21 ?_
      refine mo_swIn (pc := 22) (tgt := 92) (off := 70) X dX4_escort_22 (by decide) (by decide) (by decide) rfl (by decide) ?_
      refine mo_al0 (pc := 92) X dX4_escort_92 ?_
      refine mo_f_X4_12 (pc := 93) X dX4_escort_93 (mo_Ms_o hx) (mo_Ms_p0 hx) ?_
      refine mo_f_X4_233 (pc := 96) X dX4_escort_96 (mo_St_o (mo_Ms_r0 hx)) (mo_St_p12 (mo_Ms_r0 hx)) ?_
      refine mo_il1 (pc := 99) X dX4_escort_99 ?_
      refine mo_cVI (pc := 100) (As := [_]) X mo_k_X4_97 mo_y_yX1_get rfl dX4_escort_100 (ct_get (a := x + 1 + 14) (j := o) (mo_St_r12 (mo_Ms_r0 hx)) rfl (by omega) (by omega) (by omega) (by omega)) (mo_St_r12 (mo_Ms_r0 hx)).1 rfl (by decide) (by decide) (Nat.le_of_ble_eq_true rfl) ?_
      rintro r_100 _ ⟨h_100, rfl⟩
      refine mo_iret (pc := 103) X Y rfl dX4_escort_103 ⟨rfl, rfl, _, rfl, ?_⟩
      exact ⟨h_100.trans (sW o (by omega)), rfl⟩
    · exfalso
      omega
