set_option maxHeartbeats 4000000 in
set_option maxRecDepth 100000 in
theorem ct4_planWeek {lf : Launch} {ρf : mo_E} {G : mo_G} {M : mo_M} {t : Nat} (hlf : lf.stackTraces = false) {x n sv s : Nat} {g T : Nat → Int} {S : Nat → Nat → Int} {B : Int} (hC : mo_CI G M x g n T sv S s) (hI : mo_Iv g B) (hB : B ≤ 700000000) (hsv : sv ≤ 4) {w : Int} (hw : mo_In w) : mo_Cv lf ρf yX4_planWeek cX4_planWeek 2 (some .int) 6 1 6 [.ref x, mo_iv w] G M t (fun u G' M' t' => (G'.1 = G.1 ∧ ∀ b, b ≠ x + 39 → G'.2 b = G.2 b) ∧ t' = t ∧ (0 ≤ w ∧ w ≤ 19) ∧ (g 0 ≤ w) ∧ u = some (mo_iv ((mo_pl w.toNat 61 g).1)) ∧ (∀ a, mo_oz x a → M' a = M a) ∧ ∃ s', mo_CI G' M' x ((mo_pl w.toNat 61 g).2) n T (mo_svq sv + 1) (mo_Sn sv g S) s') (fun E G' M' t' => G' = G ∧ M' = M ∧ t ≤ t' ∧ ((E = mo_IAE ∧ ¬ (0 ≤ w ∧ w ≤ 19)) ∨ (E = mo_ISE ∧ (0 ≤ w ∧ w ≤ 19) ∧ ¬ (g 0 ≤ w)))) := by
  refine mo_ofWX (ls0 := [some (.ref x), some (mo_iv w)]) (by decide) rfl (Nat.le_of_ble_eq_true rfl) ?_
  intro κ X Y
  have X : mo_Cx κ lf ρf cX4_planWeek 2 RX4 (some .int) 6 := X
  obtain ⟨hx, hg, hS, h5, hSv, ht, hT⟩ := id hC
  obtain ⟨hI0, hI1, hI2, hI3, hI4, hI5, hI6, hI7, hIh, hIa, hIe, hIm, hIs, hIl, hIw, hIr, hIt, hIs2, hIs3, hIz⟩ := id hI
  obtain ⟨s0, s1, s2, s3, s4, s5, sH, sA, sE, sM, sS, sL, sW, sRo, sF⟩ := id hS
  refine mo_il1 (pc := 0) X dX4_planWeek_0 ?_
  refine mo_cSI (pc := 1) (As := [_]) X mo_k_X4_145 mo_y_yX4_isWeek dX4_planWeek_1 (ct4_isWeek hw) rfl (by decide) (by decide) (Nat.le_of_ble_eq_true rfl) ?_
  rintro r_1 _ ⟨h_1, rfl⟩
  refine mo_if_ne (pc := 4) (tgt := 17) X dX4_planWeek_4 (by decide) ?_ (fun c_4 => ?_) (fun c_4 => ?_)
  · omega
  · skip
    refine mo_al0 (pc := 17) X dX4_planWeek_17 ?_
    refine mo_f_X4_12 (pc := 18) X dX4_planWeek_18 (mo_Ms_o hx) (mo_Ms_p0 hx) ?_
    refine mo_il1 (pc := 21) X dX4_planWeek_21 ?_
    refine mo_cVI (pc := 22) (As := [_]) X mo_k_X4_164 mo_y_yX2_isOver rfl dX4_planWeek_22 (ct2_isOver (mo_Ms_r0 hx) hw (by omega)) (mo_St_o (mo_Ms_r0 hx)) rfl (by decide) (by decide) (Nat.le_of_ble_eq_true rfl) ?_
    rintro r_22 _ ⟨h_22, rfl⟩
    refine mo_if_eq (pc := 25) (tgt := 38) X dX4_planWeek_25 (by decide) ?_ (fun c_25 => ?_) (fun c_25 => ?_)
    · omega
    · skip
      refine mo_toN X Y (fun κ X Y => ?_)
      obtain ⟨wn, rfl⟩ := Int.eq_ofNat_of_zero_le (show 0 ≤ w by omega)
      refine mo_al0 (pc := 38) X dX4_planWeek_38 ?_
      refine mo_callVr (pc := 39) (As := []) X mo_k_X4_63 mo_y_yX4_save rfl dX4_planWeek_39 (ct4_save (n := sv) (s := s) hx hg hsv h5 hS hI) (mo_Ms_o hx) rfl (by decide) (by decide) (Nat.le_of_ble_eq_true rfl) (mo_rm0 κ) ?_
      rintro v1 G1 M1 t1 ⟨rfl, rfl, hq⟩
      show mo_V κ 0 0 _ _ _ _ _ _
      obtain ⟨⟨s9, hC1⟩, hG1, hF1⟩ := mo_CI_sv hC hq hsv
      have hx := hC1.1
      have hS1 := hC1.2.2.1
      refine mo_al0 (pc := 42) X dX4_planWeek_42 ?_
      refine mo_f_X4_26 (pc := 43) X dX4_planWeek_43 (mo_Ms_o hx) (mo_Ms_p3 hx) ?_
      refine mo_al0 (pc := 46) X dX4_planWeek_46 ?_
      refine mo_f_X4_12 (pc := 47) X dX4_planWeek_47 (mo_Ms_o hx) (mo_Ms_p0 hx) ?_
      refine mo_il1 (pc := 50) X dX4_planWeek_50 ?_
      refine mo_cVI (pc := 51) (As := [_, _]) X mo_k_X4_169 mo_y_yX3_planAll rfl dX4_planWeek_51 (ct3_planAll (w := wn) (mo_Ms_r3 hx) (mo_Ms_r0 hx) (by omega) hS1 hI (by omega) (by omega) (by omega)) (mo_Bk_o (mo_Ms_r3 hx)) rfl (by decide) (by decide) (Nat.le_of_ble_eq_true rfl) ?_
      rintro r_9 M_9 ⟨u_9, s_9, f_9⟩
      refine mo_wd (k2 := 1) (n2 := 6) (Nat.zero_le _) (Nat.zero_le _) ?_
      refine mo_iret (pc := 54) X Y rfl dX4_planWeek_54 ⟨hG1, rfl, by omega, by omega, ?_, fun a ha => Eq.trans (f_9 a (by omega) (by omega)) (hF1 a ha), s9, mo_CI_up hC1 (by simp only [Int.toNat_natCast]; exact s_9) fun a a1 a2 => f_9 a (by omega) (by omega)⟩
      rw [u_9]; simp only [Int.toNat_natCast]
    · skip
      refine mo_thrS (pc := 28) (names := mo_nm) (text := "the week is before the present one") X Y hlf (by decide +kernel) mo_fitN mo_wq_X4_58 mo_wz_IllegalStateException (by decide) mo_hatT mo_vtT dX4_planWeek_28 dX4_planWeek_31 dX4_planWeek_32 dX4_planWeek_34 dX4_planWeek_37 (by decide) (Nat.le_of_ble_eq_true rfl) (by decide) (by decide) (fun t9 h9 => ?_)
      exact ⟨rfl, rfl, h9, Or.inr ⟨rfl, by omega, by omega⟩⟩
  · skip
    refine mo_thrS (pc := 7) (names := mo_nm) (text := "week is out of range") X Y hlf (by decide +kernel) mo_fitN mo_wq_X4_48 mo_wz_IllegalArgumentException (by decide) mo_hatA mo_vtA dX4_planWeek_7 dX4_planWeek_10 dX4_planWeek_11 dX4_planWeek_13 dX4_planWeek_16 (by decide) (Nat.le_of_ble_eq_true rfl) (by decide) (by decide) (fun t9 h9 => ?_)
    exact ⟨rfl, rfl, h9, Or.inl ⟨rfl, by omega⟩⟩
