theorem mo_hw_no {g : Nat → Int} {B : Int} (h : mo_Iv g B) : ∀ k, k ≤ mo_nk g → ∀ j, j < k → mo_op (mo_hw g k) j = false
  | 0, _, j, hj => absurd hj (by omega)
  | k + 1, hk, j, hj => by
    obtain ⟨h1, h2, h3⟩ := mo_hw_b h k (by omega)
    have hn : ((mo_nk g : Nat) : Int) = g 7 := by
      have := h.2.2.2.2.2.2.2.1
      unfold mo_nk; omega
    have hmt := h1.2.2.2.2.2.2.2.2.2.2.2.2.2.2.2.2.1 k (by rw [h2]; omega)
    have h4 := h1.2.2.2.2.1
    have h5 := h1.2.2.2.2.2.1
    by_cases c : mo_op (mo_hw g k) k = true
    · rw [mo_hw, if_pos c]
      have hmt2 := hmt
      unfold mo_Mt at hmt2
      have e0 : mo_hd (mo_hw g k) k 0 = mo_hw g k 0 := mo_hd_lo ⟨by omega, by omega, by omega, by omega⟩
      by_cases e : j = k
      · rw [e]
        unfold mo_op
        rw [mo_hd_f hmt h4.2 h5.2 (k := k) (j := 6), if_pos rfl]
        exact decide_eq_false (fun q => absurd q.2 (by decide))
      · have ih := mo_hw_no h k (by omega) j (by omega)
        unfold mo_op at ih ⊢
        rw [mo_hd_f hmt h4.2 h5.2 (k := j) (j := 6), if_neg (by omega), mo_hd_f hmt h4.2 h5.2 (k := j) (j := 2), if_neg (by omega), e0]
        exact ih
    · rw [mo_hw, if_neg c]
      by_cases e : j = k
      · rw [e]; exact Bool.eq_false_iff.mpr c
      · exact mo_hw_no h k (by omega) j (by omega)
theorem mo_mw_no {g : Nat → Int} : ∀ k, (∀ j, j < k → mo_op g j = false) → mo_mw g k = (0, g)
  | 0, _ => rfl
  | k + 1, h => by
    rw [mo_mw, mo_mw_no k (fun j hj => h j (by omega))]
    rw [if_neg (by rw [h k (by omega)]; decide)]
set_option maxHeartbeats 4000000 in
set_option maxRecDepth 100000 in
theorem ct4_settledIn {lf : Launch} {ρf : mo_E} {G : mo_G} {M : mo_M} {t : Nat} {x : Nat} (hx : mo_Ms G x) {g : Nat → Int} {B : Int} (hS : mo_SR M (x + 1) g) (hI : mo_Iv g B) (hB : B ≤ 800000000) : mo_Ct lf ρf yX4_settledIn cX4_settledIn 2 (some .int) 5 0 0 [.ref x] G M t (mo_pi G t (fun y M' => y = mo_set 20 g ∧ ∀ a, (a < x + 20 ∨ x + 38 < a) → (a < x + 116 ∨ x + 126 < a) → M' a = M a)) := by
  refine mo_ofW (ls0 := [some (.ref x), none]) (by decide) rfl (Nat.le_of_ble_eq_true rfl) ?_
  intro κ X Y
  have X : mo_Cx κ lf ρf cX4_settledIn 2 RX4 (some .int) 5 := X
  obtain ⟨hI0, hI1, hI2, hI3, hI4, hI5, hI6, hI7, hIh, hIa, hIe, hIm, hIs, hIl, hIw, hIr, hIt, hIs2, hIs3, hIz⟩ := id hI
  obtain ⟨s0, s1, s2, s3, s4, s5, sH, sA, sE, sM, sS, sL, sW, sRo, sF⟩ := id hS
  have k20 : ∀ (M1 : mo_M), mo_set 20 g = -1 → (∀ a, (a < x + 20 ∨ x + 38 < a) → (a < x + 116 ∨ x + 126 < a) → M1 a = M a) → mo_V κ 0 0 19 [some (.ref x), some (mo_iv 20)] [] G M1 t := by
    intro M1 hv hM
    refine mo_il1 (pc := 19) X dX4_settledIn_19 ?_
    refine mo_bipush (pc := 20) X dX4_settledIn_20 (by decide) ?_
    refine mo_ic_ge (pc := 22) (tgt := 73) X dX4_settledIn_22 (by decide) ?_ ?_ (fun c_22 => ?_) (fun c_22 => ?_)
    · omega
    · omega
    · skip
      refine mo_iconst (pc := 73) X dX4_settledIn_73 ?_
      refine mo_iret (pc := 74) X Y rfl dX4_settledIn_74 ⟨rfl, rfl, _, rfl, ?_⟩
      exact ⟨hv.symm, hM⟩
    · exfalso; omega
  have lp1 : ∀ (z v : Nat) (xv : Int) (M1 : mo_M) (g1 : Nat → Int) (B1 : Int) (n : Nat), v + z = 20 → xv = v → v < 20 → mo_SR M1 (x + 20) g1 → mo_Iv g1 B1 → B1 ≤ B + 200 * v → g1 0 = v → 20 ≤ n + v → mo_set n g1 = mo_set 20 g → (∀ a, (a < x + 20 ∨ x + 38 < a) → (a < x + 116 ∨ x + 126 < a) → M1 a = M a) → mo_V κ 0 0 19 [some (.ref x), some (mo_iv xv)] [] G M1 t := by
    intro z
    induction z with
    | zero =>
      intro v xv M1 g1 B1 n hv hx1 hv2 hS1 hI1 hB1 h0 hn hset hM
      exfalso
      omega
    | succ z ih =>
      intro v xv M1 g1 B1 n hv hx1 hv2 hS1 hI1 hB1 h0 hn hset hM
      subst hx1
      obtain ⟨n, rfl⟩ : ∃ n2, n = n2 + 1 := ⟨n - 1, by omega⟩
      obtain ⟨p1, p2⟩ := mo_pl_Iv hv2 61 hI1
      have p0 := mo_pl_0 hv2 61 hI1
      obtain ⟨g2, hg2⟩ : ∃ q, (mo_pl v 61 g1).2 = q := ⟨_, rfl⟩
      rw [hg2] at p1 p0
      obtain ⟨q1, q2, q3⟩ := mo_hw_b p1 (mo_nk g2) (Nat.le_refl _)
      obtain ⟨g3, hg3⟩ : ∃ q, mo_hw g2 (mo_nk g2) = q := ⟨_, rfl⟩
      have hno := mo_hw_no p1 (mo_nk g2) (Nat.le_refl _)
      rw [hg3] at q1 q2 q3 hno
      have hk3 : mo_nk g3 = mo_nk g2 := by unfold mo_nk; rw [q2]
      have hk60 : mo_nk g2 ≤ 60 := by have := p1.2.2.2.2.2.2.2.1; unfold mo_nk; omega
      have hv1 : (g1 0).toNat = v := by omega
      have hst : mo_set (n + 1) g1 = (if mo_owa g3 v = 0 then g1 0 else if g1 0 < 19 then mo_set n (mo_eR g3) else -1) := by
        rw [mo_set, hv1, hg2, hg3]
      have he : mo_eR g3 = mo_gn (mo_nw g3) (mo_nk g3) := by
        unfold mo_eR
        rw [mo_mw_no (mo_nk g3) (fun j hj => hno j (by omega))]
      refine mo_il1 (pc := 19) X dX4_settledIn_19 ?_
      refine mo_bipush (pc := 20) X dX4_settledIn_20 (by decide) ?_
      refine mo_ic_ge (pc := 22) (tgt := 73) X dX4_settledIn_22 (by decide) ?_ ?_ (fun c_22 => ?_) (fun c_22 => ?_)
      · omega
      · omega
      · exfalso
        omega
      · skip
        refine mo_al0 (pc := 25) X dX4_settledIn_25 ?_
        refine mo_f_X4_26 (pc := 26) X dX4_settledIn_26 (mo_Ms_o hx) (mo_Ms_p3 hx) ?_
        refine mo_al0 (pc := 29) X dX4_settledIn_29 ?_
        refine mo_f_X4_16 (pc := 30) X dX4_settledIn_30 (mo_Ms_o hx) (mo_Ms_p1 hx) ?_
        refine mo_il1 (pc := 33) X dX4_settledIn_33 ?_
        refine mo_cVI (pc := 34) (As := [_, _]) X mo_k_X4_169 mo_y_yX3_planAll rfl dX4_settledIn_34 (ct3_planAll (w := v) (mo_Ms_r3 hx) (mo_Ms_r1 hx) (by omega) hS1 hI1 (by omega) hv2 (by omega)) (mo_Bk_o (mo_Ms_r3 hx)) rfl (by decide) (by decide) (Nat.le_of_ble_eq_true rfl) ?_
        rintro r_34 M_34 ⟨h_34, s_34, f_34⟩
        rw [hg2] at s_34
        refine mo_pop (pc := 37) X dX4_settledIn_37 rfl ?_
        refine mo_al0 (pc := 38) X dX4_settledIn_38 ?_
        refine mo_f_X4_16 (pc := 39) X dX4_settledIn_39 (mo_Ms_o hx) (mo_Ms_p1 hx) ?_
        refine mo_iconst (pc := 42) X dX4_settledIn_42 ?_
        refine mo_cVI (pc := 43) (As := [_]) X mo_k_X4_207 mo_y_yX2_settleWeek rfl dX4_settledIn_43 (ct2_settleWeek1 (mo_Ms_r1 hx) s_34 p1 (by omega)) (mo_St_o (mo_Ms_r1 hx)) rfl (by decide) (by decide) (Nat.le_of_ble_eq_true rfl) ?_
        rintro r_43 M_43 ⟨s_43, f_43⟩
        rw [hg3] at s_43
        refine mo_pop (pc := 46) X dX4_settledIn_46 rfl ?_
        refine mo_al0 (pc := 47) X dX4_settledIn_47 ?_
        refine mo_f_X4_16 (pc := 48) X dX4_settledIn_48 (mo_Ms_o hx) (mo_Ms_p1 hx) ?_
        refine mo_il1 (pc := 51) X dX4_settledIn_51 ?_
        refine mo_cVI (pc := 52) (As := [_]) X mo_k_X4_256 mo_y_yX2_debtOfAll rfl dX4_settledIn_52 (ct2_debtOfAll (w := v) (mo_Ms_r1 hx) s_43 q1 (by omega) hv2) (mo_St_o (mo_Ms_r1 hx)) rfl (by decide) (by decide) (Nat.le_of_ble_eq_true rfl) ?_
        rintro r_52 _ ⟨h_52, rfl⟩
        have hob := mo_owa_b q1 hv2
        refine mo_if_ne (pc := 55) (tgt := 60) X dX4_settledIn_55 (by decide) ?_ (fun c_55 => ?_) (fun c_55 => ?_)
        · omega
        · skip
          refine mo_al0 (pc := 60) X dX4_settledIn_60 ?_
          refine mo_f_X4_16 (pc := 61) X dX4_settledIn_61 (mo_Ms_o hx) (mo_Ms_p1 hx) ?_
          refine mo_cVV (pc := 64) (As := []) X mo_k_X4_210 mo_y_yX2_beginNextWeek rfl dX4_settledIn_64 (ct2_beginNextWeek (mo_Ms_r1 hx) s_43 q1 (by omega)) (mo_St_o (mo_Ms_r1 hx)) rfl (by decide) (by decide) (Nat.le_of_ble_eq_true rfl) ?_
          rintro M_64 ⟨s_64, f_64⟩
          refine mo_ii1 (pc := 67) X dX4_settledIn_67 rfl (by decide) ?_
          refine mo_goto (pc := 70) (tgt := 19) X dX4_settledIn_70 (by decide) ?_
          by_cases hlast : v = 19
          · subst hlast
            rw [if_neg (by omega), if_neg (by omega)] at hst
            exact k20 _ (hset.symm.trans hst) fun a a1 a2 => by rw [f_64 a (by omega), f_43 a (by omega), f_34 a (by omega) (by omega), hM a a1 a2]
          · rw [if_neg (by omega), if_pos (by omega)] at hst
            obtain ⟨w1, w2, -⟩ := mo_e_b q1 (by omega)
            refine ih (v + 1) _ M_64 (mo_eR g3) _ n (by omega) (by omega) (by omega) (by rw [he]; exact s_64) w1 (by omega) (by rw [w2]; omega) (by omega) (hst.symm.trans hset) fun a a1 a2 => by rw [f_64 a (by omega), f_43 a (by omega), f_34 a (by omega) (by omega), hM a a1 a2]
        · skip
          refine mo_il1 (pc := 58) X dX4_settledIn_58 ?_
          refine mo_iret (pc := 59) X Y rfl dX4_settledIn_59 ⟨rfl, rfl, _, rfl, ?_⟩
          rw [if_pos (by omega)] at hst
          exact ⟨by rw [← hset, hst, h0], fun a a1 a2 => by rw [f_43 a (by omega), f_34 a (by omega) (by omega), hM a a1 a2]⟩
  refine mo_al0 (pc := 0) X dX4_settledIn_0 ?_
  refine mo_f_X4_16 (pc := 1) X dX4_settledIn_1 (mo_Ms_o hx) (mo_Ms_p1 hx) ?_
  refine mo_al0 (pc := 4) X dX4_settledIn_4 ?_
  refine mo_f_X4_12 (pc := 5) X dX4_settledIn_5 (mo_Ms_o hx) (mo_Ms_p0 hx) ?_
  refine mo_cVV (pc := 8) (As := [_]) X mo_k_X4_269 mo_y_yX2_copyFrom rfl dX4_settledIn_8 (ct2_copyFrom (mo_Ms_r1 hx) (mo_Ms_r0 hx) (by omega) hS hI) (mo_St_o (mo_Ms_r1 hx)) rfl (by decide) (by decide) (Nat.le_of_ble_eq_true rfl) ?_
  rintro M_8 ⟨s_8, f_8⟩
  refine mo_al0 (pc := 11) X dX4_settledIn_11 ?_
  refine mo_f_X4_12 (pc := 12) X dX4_settledIn_12 (mo_Ms_o hx) (mo_Ms_p0 hx) ?_
  refine mo_f_X4_195 (pc := 15) X dX4_settledIn_15 (mo_St_o (mo_Ms_r0 hx)) ?_
  rw [(show M_8 (x + 1) 4 = g 0 by rw [f_8 _ (by omega)]; exact s4)]
  obtain ⟨v, hv⟩ : ∃ q : Nat, g 0 = q := ⟨(g 0).toNat, by omega⟩
  rw [hv]
  refine mo_is1 (pc := 18) X dX4_settledIn_18 rfl (by decide) ?_
  exact lp1 (20 - v) v _ M_8 g B 20 (by omega) rfl (by omega) s_8 hI (by omega) hv (by omega) rfl fun a a1 a2 => f_8 a (by omega)
