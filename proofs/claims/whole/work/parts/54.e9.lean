set_option maxHeartbeats 4000000 in
set_option maxRecDepth 100000 in
theorem ct4_addVenue {lf : Launch} {ρf : mo_E} {G : mo_G} {M : mo_M} {t : Nat} (hlf : lf.stackTraces = false) {x n sv s : Nat} {g T : Nat → Int} {S : Nat → Nat → Int} {B : Int} (hC : mo_CI G M x g n T sv S s) (hI : mo_Iv g B) (hB : B ≤ 700000000) (hsv : sv ≤ 4) {v : Int} (hv : mo_In v) : mo_Cv lf ρf yX4_addVenue cX4_addVenue 2 (some .int) 6 1 6 [.ref x, mo_iv v] G M t (fun u G' M' t' => (G'.1 = G.1 ∧ ∀ b, b ≠ x + 39 → G'.2 b = G.2 b) ∧ t' = t ∧ (1 ≤ v ∧ v ≤ 4) ∧ (g 6 < 5) ∧ u = some (mo_iv (g 6)) ∧ (∀ a, mo_oz x a → M' a = M a) ∧ ∃ s', mo_CI G' M' x (mo_gAV g v) n T (mo_svq sv + 1) (mo_Sn sv g S) s') (fun E G' M' t' => G' = G ∧ M' = M ∧ t ≤ t' ∧ ((E = mo_IAE ∧ ¬ (1 ≤ v ∧ v ≤ 4)) ∨ (E = mo_ISE ∧ (1 ≤ v ∧ v ≤ 4) ∧ ¬ (g 6 < 5)))) := by
  refine mo_ofWX (ls0 := [some (.ref x), some (mo_iv v)]) (by decide) rfl (Nat.le_of_ble_eq_true rfl) ?_
  intro κ X Y
  have X : mo_Cx κ lf ρf cX4_addVenue 2 RX4 (some .int) 6 := X
  obtain ⟨hx, hg, hS, h5, hSv, ht, hT⟩ := id hC
  obtain ⟨hI0, hI1, hI2, hI3, hI4, hI5, hI6, hI7, hIh, hIa, hIe, hIm, hIs, hIl, hIw, hIr, hIt, hIs2, hIs3, hIz⟩ := id hI
  obtain ⟨s0, s1, s2, s3, s4, s5, sH, sA, sE, sM, sS, sL, sW, sRo, sF⟩ := id hS
  refine mo_il1 (pc := 0) X dX4_addVenue_0 ?_
  refine mo_iconst (pc := 1) X dX4_addVenue_1 ?_
  refine mo_ic_lt (pc := 2) (tgt := 10) X dX4_addVenue_2 (by decide) ?_ ?_ (fun c_2 => ?_) (fun c_2 => ?_)
  · omega
  · omega
  · skip
    refine mo_thrS (pc := 10) (names := mo_nm) (text := "rooms is out of range") X Y hlf (by decide +kernel) mo_fitN mo_wq_X4_48 mo_wz_IllegalArgumentException (by decide) mo_hatA mo_vtA dX4_addVenue_10 dX4_addVenue_13 dX4_addVenue_14 dX4_addVenue_16 dX4_addVenue_19 (by decide) (Nat.le_of_ble_eq_true rfl) (by decide) (by decide) (fun t9 h9 => ?_)
    exact ⟨rfl, rfl, h9, Or.inl ⟨rfl, by omega⟩⟩
  · skip
    refine mo_il1 (pc := 5) X dX4_addVenue_5 ?_
    refine mo_iconst (pc := 6) X dX4_addVenue_6 ?_
    refine mo_ic_le (pc := 7) (tgt := 20) X dX4_addVenue_7 (by decide) ?_ ?_ (fun c_7 => ?_) (fun c_7 => ?_)
    · omega
    · omega
    · skip
      refine mo_al0 (pc := 20) X dX4_addVenue_20 ?_
      refine mo_f_X4_12 (pc := 21) X dX4_addVenue_21 (mo_Ms_o hx) (mo_Ms_p0 hx) ?_
      refine mo_f_X4_132 (pc := 24) X dX4_addVenue_24 (mo_St_o (mo_Ms_r0 hx)) ?_
      rw [s2]
      refine mo_iconst (pc := 27) X dX4_addVenue_27 ?_
      refine mo_ic_lt (pc := 28) (tgt := 41) X dX4_addVenue_28 (by decide) ?_ ?_ (fun c_28 => ?_) (fun c_28 => ?_)
      · omega
      · omega
      · skip
        refine mo_toN X Y (fun κ X Y => ?_)
        refine mo_al0 (pc := 41) X dX4_addVenue_41 ?_
        refine mo_callVr (pc := 42) (As := []) X mo_k_X4_63 mo_y_yX4_save rfl dX4_addVenue_42 (ct4_save (n := sv) (s := s) hx hg hsv h5 hS hI) (mo_Ms_o hx) rfl (by decide) (by decide) (Nat.le_of_ble_eq_true rfl) (mo_rm0 κ) ?_
        rintro v1 G1 M1 t1 ⟨rfl, rfl, hq⟩
        show mo_V κ 0 0 _ _ _ _ _ _
        obtain ⟨⟨s1, hC1⟩, hG1, hF1⟩ := mo_CI_sv hC hq hsv
        have hx := hC1.1
        have hS1 := hC1.2.2.1
        refine mo_al0 (pc := 45) X dX4_addVenue_45 ?_
        refine mo_f_X4_12 (pc := 46) X dX4_addVenue_46 (mo_Ms_o hx) (mo_Ms_p0 hx) ?_
        refine mo_il1 (pc := 49) X dX4_addVenue_49 ?_
        refine mo_cVI (pc := 50) (As := [_]) X mo_k_X4_137 mo_y_yX2_enterVenue rfl dX4_addVenue_50 (ct2_enterVenue (mo_Ms_r0 hx) hS1 hI (by omega) (by omega)) (mo_St_o (mo_Ms_r0 hx)) rfl (by decide) (by decide) (Nat.le_of_ble_eq_true rfl) ?_
        rintro r_9 M_9 ⟨u_9, s_9, f_9⟩
        refine mo_wd (k2 := 1) (n2 := 6) (Nat.zero_le _) (Nat.zero_le _) ?_
        refine mo_iret (pc := 53) X Y rfl dX4_addVenue_53 ⟨hG1, rfl, by omega, by omega, ?_, fun a ha => Eq.trans (f_9 a (by omega)) (hF1 a ha), s1, mo_CI_up hC1 s_9 fun a a1 a2 => f_9 a (by omega)⟩
        rw [u_9]
      · skip
        refine mo_thrS (pc := 31) (names := mo_nm) (text := "there are 5 venues") X Y hlf (by decide +kernel) mo_fitN mo_wq_X4_58 mo_wz_IllegalStateException (by decide) mo_hatT mo_vtT dX4_addVenue_31 dX4_addVenue_34 dX4_addVenue_35 dX4_addVenue_37 dX4_addVenue_40 (by decide) (Nat.le_of_ble_eq_true rfl) (by decide) (by decide) (fun t9 h9 => ?_)
        exact ⟨rfl, rfl, h9, Or.inr ⟨rfl, by omega, by omega⟩⟩
    · skip
      refine mo_thrS (pc := 10) (names := mo_nm) (text := "rooms is out of range") X Y hlf (by decide +kernel) mo_fitN mo_wq_X4_48 mo_wz_IllegalArgumentException (by decide) mo_hatA mo_vtA dX4_addVenue_10 dX4_addVenue_13 dX4_addVenue_14 dX4_addVenue_16 dX4_addVenue_19 (by decide) (Nat.le_of_ble_eq_true rfl) (by decide) (by decide) (fun t9 h9 => ?_)
      exact ⟨rfl, rfl, h9, Or.inl ⟨rfl, by omega⟩⟩
