set_option maxHeartbeats 4000000 in
set_option maxRecDepth 100000 in
theorem ct4_cancel {lf : Launch} {ρf : mo_E} {G : mo_G} {M : mo_M} {t : Nat} (hlf : lf.stackTraces = false) {x n sv s : Nat} {g T : Nat → Int} {S : Nat → Nat → Int} {B : Int} (hC : mo_CI G M x g n T sv S s) (hI : mo_Iv g B) (hB : B ≤ 700000000) (hsv : sv ≤ 4) {o pl : Int} (ho : mo_In o) (hpl : pl = mo_ff (fun k => decide (mo_fld g k 0 = o)) (mo_nk g)) : mo_Cv lf ρf yX4_cancel cX4_cancel 4 (some .int) 6 1 6 [.ref x, mo_iv o] G M t (fun u G' M' t' => (G'.1 = G.1 ∧ ∀ b, b ≠ x + 39 → G'.2 b = G.2 b) ∧ t' = t ∧ (pl ≠ -1) ∧ (mo_fld g pl.toNat 6 = 0) ∧ u = some (mo_iv (mo_fld g pl.toNat 2)) ∧ (∀ a, mo_oz x a → M' a = M a) ∧ ∃ s', mo_CI G' M' x (mo_to g pl.toNat) n T (mo_svq sv + 1) (mo_Sn sv g S) s') (fun E G' M' t' => G' = G ∧ M' = M ∧ t ≤ t' ∧ ((E = mo_IOE ∧ ¬ (pl ≠ -1)) ∨ (E = mo_ISE ∧ (pl ≠ -1) ∧ ¬ (mo_fld g pl.toNat 6 = 0)))) := by
  refine mo_ofWX (ls0 := [some (.ref x), some (mo_iv o), none, none]) (by decide) rfl (Nat.le_of_ble_eq_true rfl) ?_
  intro κ X Y
  have X : mo_Cx κ lf ρf cX4_cancel 4 RX4 (some .int) 6 := X
  obtain ⟨hx, hg, hS, h5, hSv, ht, hT⟩ := id hC
  obtain ⟨hI0, hI1, hI2, hI3, hI4, hI5, hI6, hI7, hIh, hIa, hIe, hIm, hIs, hIl, hIw, hIr, hIt, hIs2, hIs3, hIz⟩ := id hI
  obtain ⟨s0, s1, s2, s3, s4, s5, sH, sA, sE, sM, sS, sL, sW, sRo, sF⟩ := id hS
  have hnk : ((mo_nk g : Nat) : Int) = g 7 := by unfold mo_nk; omega
  have hplb : pl = -1 ∨ (0 ≤ pl ∧ pl < g 7) := by
    rw [hpl]
    rcases mo_ff_cases (fun k => decide (mo_fld g k 0 = o)) (mo_nk g) with ⟨pf1, pf2⟩ | ⟨pk, pf1, pf2, pf3, pf4⟩
    · exact Or.inl pf1
    · exact Or.inr (by omega)
  refine mo_al0 (pc := 0) X dX4_cancel_0 ?_
  refine mo_f_X4_12 (pc := 1) X dX4_cancel_1 (mo_Ms_o hx) (mo_Ms_p0 hx) ?_
  refine mo_il1 (pc := 4) X dX4_cancel_4 ?_
  refine mo_cVI (pc := 5) (As := [_]) X mo_k_X4_173 mo_y_yX2_placeOf rfl dX4_cancel_5 (ct2_placeOf (mo_Ms_r0 hx) hS hI (by omega) ho) (mo_St_o (mo_Ms_r0 hx)) rfl (by decide) (by decide) (Nat.le_of_ble_eq_true rfl) ?_
  rintro r_5 _ ⟨h_5, rfl⟩
  rw [← hpl] at h_5
  have h_5 := h_5.symm
  subst h_5
  refine mo_is2 (pc := 8) X dX4_cancel_8 rfl (by decide) ?_
  refine mo_il2 (pc := 9) X dX4_cancel_9 ?_
  refine mo_iconst (pc := 10) X dX4_cancel_10 ?_
  refine mo_ic_ne (pc := 11) (tgt := 24) X dX4_cancel_11 (by decide) ?_ ?_ (fun c_11 => ?_) (fun c_11 => ?_)
  · omega
  · omega
  · skip
    refine mo_al0 (pc := 24) X dX4_cancel_24 ?_
    refine mo_f_X4_12 (pc := 25) X dX4_cancel_25 (mo_Ms_o hx) (mo_Ms_p0 hx) ?_
    refine mo_il2 (pc := 28) X dX4_cancel_28 ?_
    refine mo_iconst (pc := 29) X dX4_cancel_29 ?_
    obtain ⟨pk, rfl⟩ := Int.eq_ofNat_of_zero_le (show 0 ≤ pl by omega)
    have hmt := hIt pk (by omega)
    unfold mo_Mt at hmt
    refine mo_cVI (pc := 30) (As := [_, _]) X mo_k_X4_178 mo_y_yX2_fact rfl dX4_cancel_30 (ct2_fld (g := g) (k := pk) (j := 5) (q := 6) (mo_Ms_r0 hx) hS (by omega) (by omega) (by omega) rfl) (mo_St_o (mo_Ms_r0 hx)) rfl (by decide) (by decide) (Nat.le_of_ble_eq_true rfl) ?_
    rintro r_30 _ ⟨h_30, rfl⟩
    refine mo_if_eq (pc := 33) (tgt := 46) X dX4_cancel_33 (by decide) ?_ (fun c_33 => ?_) (fun c_33 => ?_)
    · omega
    · skip
      refine mo_toN X Y (fun κ X Y => ?_)
      refine mo_al0 (pc := 46) X dX4_cancel_46 ?_
      refine mo_callVr (pc := 47) (As := []) X mo_k_X4_63 mo_y_yX4_save rfl dX4_cancel_47 (ct4_save (n := sv) (s := s) hx hg hsv h5 hS hI) (mo_Ms_o hx) rfl (by decide) (by decide) (Nat.le_of_ble_eq_true rfl) (mo_rm0 κ) ?_
      rintro v1 G1 M1 t1 ⟨rfl, rfl, hq⟩
      show mo_V κ 0 0 _ _ _ _ _ _
      obtain ⟨⟨s9, hC1⟩, hG1, hF1⟩ := mo_CI_sv hC hq hsv
      have hx := hC1.1
      have hS1 := hC1.2.2.1
      refine mo_al0 (pc := 50) X dX4_cancel_50 ?_
      refine mo_f_X4_12 (pc := 51) X dX4_cancel_51 (mo_Ms_o hx) (mo_Ms_p0 hx) ?_
      refine mo_il2 (pc := 54) X dX4_cancel_54 ?_
      refine mo_iconst (pc := 55) X dX4_cancel_55 ?_
      refine mo_cVI (pc := 56) (As := [_, _]) X mo_k_X4_178 mo_y_yX2_fact rfl dX4_cancel_56 (ct2_fld (g := g) (k := pk) (j := 1) (q := 2) (mo_Ms_r0 hx) hS1 (by omega) (by omega) (by omega) rfl) (mo_St_o (mo_Ms_r0 hx)) rfl (by decide) (by decide) (Nat.le_of_ble_eq_true rfl) ?_
      rintro r_a _ ⟨u_a, rfl⟩
      refine mo_is3 (pc := 59) X dX4_cancel_59 rfl (by decide) ?_
      refine mo_al0 (pc := 60) X dX4_cancel_60 ?_
      refine mo_f_X4_12 (pc := 61) X dX4_cancel_61 (mo_Ms_o hx) (mo_Ms_p0 hx) ?_
      refine mo_il2 (pc := 64) X dX4_cancel_64 ?_
      refine mo_cVV (pc := 65) (As := [_]) X mo_k_X4_183 mo_y_yX2_dropMeeting rfl dX4_cancel_65 (ct2_dropMeeting (p := pk) (mo_Ms_r0 hx) hS1 hI (by omega) (by omega)) (mo_St_o (mo_Ms_r0 hx)) rfl (by decide) (by decide) (Nat.le_of_ble_eq_true rfl) ?_
      rintro M_b ⟨s_b, f_b⟩
      refine mo_il3 (pc := 68) X dX4_cancel_68 ?_
      refine mo_wd (k2 := 1) (n2 := 6) (Nat.zero_le _) (Nat.zero_le _) ?_
      refine mo_iret (pc := 69) X Y rfl dX4_cancel_69 ⟨hG1, rfl, by omega, by simp only [Int.toNat_natCast]; omega, ?_, fun a ha => by rw [f_b a (by omega), hF1 a ha], s9, mo_CI_up hC1 (by simp only [Int.toNat_natCast]; exact s_b) fun a a1 a2 => f_b a (by omega)⟩
      simp only [Int.toNat_natCast]
      rw [u_a]
    · skip
      refine mo_thrS (pc := 36) (names := mo_nm) (text := "the meeting is not planned") X Y hlf (by decide +kernel) mo_fitN mo_wq_X4_58 mo_wz_IllegalStateException (by decide) mo_hatT mo_vtT dX4_cancel_36 dX4_cancel_39 dX4_cancel_40 dX4_cancel_42 dX4_cancel_45 (by decide) (Nat.le_of_ble_eq_true rfl) (by decide) (by decide) (fun t9 h9 => ?_)
      exact ⟨rfl, rfl, h9, Or.inr ⟨rfl, by omega, by simp only [Int.toNat_natCast]; omega⟩⟩
  · skip
    refine mo_thrS (pc := 14) (names := mo_nm) (text := "no such meeting is kept") X Y hlf (by decide +kernel) mo_fitN mo_wq_X4_73 mo_wz_IndexOutOfBoundsException (by decide) mo_hatI mo_vtI dX4_cancel_14 dX4_cancel_17 dX4_cancel_18 dX4_cancel_20 dX4_cancel_23 (by decide) (Nat.le_of_ble_eq_true rfl) (by decide) (by decide) (fun t9 h9 => ?_)
    exact ⟨rfl, rfl, h9, Or.inl ⟨rfl, by omega⟩⟩
