set_option maxHeartbeats 4000000 in
set_option maxRecDepth 100000 in
theorem ct4_endWeek {lf : Launch} {ρf : mo_E} {G : mo_G} {M : mo_M} {t : Nat} (hlf : lf.stackTraces = false) {x n sv s : Nat} {g T : Nat → Int} {S : Nat → Nat → Int} {B : Int} (hC : mo_CI G M x g n T sv S s) (hI : mo_Iv g B) (hB : B ≤ 700000000) (hsv : sv ≤ 4) : mo_Cv lf ρf yX4_endWeek cX4_endWeek 2 (some .int) 6 1 6 [.ref x] G M t (fun u G' M' t' => (G'.1 = G.1 ∧ ∀ b, b ≠ x + 39 → G'.2 b = G.2 b) ∧ t' = t ∧ g 0 < 19 ∧ u = some (mo_iv (mo_eN g)) ∧ (∀ a, mo_oz x a → M' a = M a) ∧ ∃ s', mo_CI G' M' x (mo_eR g) n T (mo_svq sv + 1) (mo_Sn sv g S) s') (fun E G' M' t' => G' = G ∧ M' = M ∧ t ≤ t' ∧ E = mo_ISE ∧ ¬ (g 0 < 19)) := by
  refine mo_ofWX (ls0 := [some (.ref x), none]) (by decide) rfl (Nat.le_of_ble_eq_true rfl) ?_
  intro κ X Y
  have X : mo_Cx κ lf ρf cX4_endWeek 2 RX4 (some .int) 6 := X
  obtain ⟨hx, hg, hS, h5, hSv, ht, hT⟩ := id hC
  obtain ⟨hI0, hI1, hI2, hI3, hI4, hI5, hI6, hI7, hIh, hIa, hIe, hIm, hIs, hIl, hIw, hIr, hIt, hIs2, hIs3, hIz⟩ := id hI
  obtain ⟨s0, s1, s2, s3, s4, s5, sH, sA, sE, sM, sS, sL, sW, sRo, sF⟩ := id hS
  refine mo_al0 (pc := 0) X dX4_endWeek_0 ?_
  refine mo_f_X4_12 (pc := 1) X dX4_endWeek_1 (mo_Ms_o hx) (mo_Ms_p0 hx) ?_
  refine mo_cVI (pc := 4) (As := []) X mo_k_X4_201 mo_y_yX2_isLastWeek rfl dX4_endWeek_4 (ct2_isLastWeek (mo_Ms_r0 hx) (by omega)) (mo_St_o (mo_Ms_r0 hx)) rfl (by decide) (by decide) (Nat.le_of_ble_eq_true rfl) ?_
  rintro r_4 _ ⟨h_4, rfl⟩
  refine mo_if_eq (pc := 7) (tgt := 20) X dX4_endWeek_7 (by decide) ?_ (fun c_7 => ?_) (fun c_7 => ?_)
  · omega
  · skip
    refine mo_toN X Y (fun κ X Y => ?_)
    refine mo_al0 (pc := 20) X dX4_endWeek_20 ?_
    refine mo_callVr (pc := 21) (As := []) X mo_k_X4_63 mo_y_yX4_save rfl dX4_endWeek_21 (ct4_save (n := sv) (s := s) hx hg hsv h5 hS hI) (mo_Ms_o hx) rfl (by decide) (by decide) (Nat.le_of_ble_eq_true rfl) (mo_rm0 κ) ?_
    rintro v1 G1 M1 t1 ⟨rfl, rfl, hq⟩
    show mo_V κ 0 0 _ _ _ _ _ _
    obtain ⟨⟨s9, hC1⟩, hG1, hF1⟩ := mo_CI_sv hC hq hsv
    have hx := hC1.1
    have hS1 := hC1.2.2.1
    refine mo_al0 (pc := 24) X dX4_endWeek_24 ?_
    refine mo_f_X4_12 (pc := 25) X dX4_endWeek_25 (mo_Ms_o hx) (mo_Ms_p0 hx) ?_
    refine mo_iconst (pc := 28) X dX4_endWeek_28 ?_
    refine mo_cVI (pc := 29) (As := [_]) X mo_k_X4_207 mo_y_yX2_settleWeek rfl dX4_endWeek_29 (ct2_settleWeek2 (mo_Ms_r0 hx) hS1 hI (by omega)) (mo_St_o (mo_Ms_r0 hx)) rfl (by decide) (by decide) (Nat.le_of_ble_eq_true rfl) ?_
    rintro r_a M_a ⟨u_a, s_a, f_a⟩
    refine mo_is1 (pc := 32) X dX4_endWeek_32 rfl (by decide) ?_
    refine mo_al0 (pc := 33) X dX4_endWeek_33 ?_
    refine mo_f_X4_12 (pc := 34) X dX4_endWeek_34 (mo_Ms_o hx) (mo_Ms_p0 hx) ?_
    refine mo_cVV (pc := 37) (As := []) X mo_k_X4_210 mo_y_yX2_beginNextWeek rfl dX4_endWeek_37 (ct2_beginNextWeek (mo_Ms_r0 hx) s_a (mo_mw_b hI (mo_nk g) (Nat.le_refl _)).1 (by unfold mo_nk; omega)) (mo_St_o (mo_Ms_r0 hx)) rfl (by decide) (by decide) (Nat.le_of_ble_eq_true rfl) ?_
    rintro M_b ⟨s_b, f_b⟩
    rw [mo_mw_k hI] at s_b
    refine mo_il1 (pc := 40) X dX4_endWeek_40 ?_
    refine mo_wd (k2 := 1) (n2 := 6) (Nat.zero_le _) (Nat.zero_le _) ?_
    refine mo_iret (pc := 41) X Y rfl dX4_endWeek_41 ⟨hG1, rfl, by omega, ?_, fun a ha => by rw [f_b a (by omega), f_a a (by omega), hF1 a ha], s9, mo_CI_up hC1 s_b fun a a1 a2 => by rw [f_b a (by omega), f_a a (by omega)]⟩
    rw [u_a]
    rfl
  · skip
    refine mo_thrS (pc := 10) (names := mo_nm) (text := "the present week is 19") X Y hlf (by decide +kernel) mo_fitN mo_wq_X4_58 mo_wz_IllegalStateException (by decide) mo_hatT mo_vtT dX4_endWeek_10 dX4_endWeek_13 dX4_endWeek_14 dX4_endWeek_16 dX4_endWeek_19 (by decide) (Nat.le_of_ble_eq_true rfl) (by decide) (by decide) (fun t9 h9 => ?_)
    exact ⟨rfl, rfl, h9, rfl, by omega⟩
