set_option maxHeartbeats 4000000 in
set_option maxRecDepth 100000 in
theorem ct4_addEscort {lf : Launch} {ρf : mo_E} {G : mo_G} {M : mo_M} {t : Nat} (hlf : lf.stackTraces = false) {x n sv s : Nat} {g T : Nat → Int} {S : Nat → Nat → Int} {B : Int} (hC : mo_CI G M x g n T sv S s) (hI : mo_Iv g B) (hB : B ≤ 700000000) (hsv : sv ≤ 4) {p v : Int} (hp : mo_In p) (hv : mo_In v) : mo_Cv lf ρf yX4_addEscort cX4_addEscort 3 (some .int) 6 1 6 [.ref x, mo_iv p, mo_iv v] G M t (fun u G' M' t' => (G'.1 = G.1 ∧ ∀ b, b ≠ x + 39 → G'.2 b = G.2 b) ∧ t' = t ∧ ((0 ≤ p ∧ p ≤ 268435455) ∧ (1 ≤ v ∧ v ≤ 20)) ∧ (g 5 < 6) ∧ u = some (mo_iv (g 5)) ∧ (∀ a, mo_oz x a → M' a = M a) ∧ ∃ s', mo_CI G' M' x (mo_gAE g p v) n T (mo_svq sv + 1) (mo_Sn sv g S) s') (fun E G' M' t' => G' = G ∧ M' = M ∧ t ≤ t' ∧ ((E = mo_IAE ∧ ¬ ((0 ≤ p ∧ p ≤ 268435455) ∧ (1 ≤ v ∧ v ≤ 20))) ∨ (E = mo_ISE ∧ ((0 ≤ p ∧ p ≤ 268435455) ∧ (1 ≤ v ∧ v ≤ 20)) ∧ ¬ (g 5 < 6)))) := by
  refine mo_ofWX (ls0 := [some (.ref x), some (mo_iv p), some (mo_iv v)]) (by decide) rfl (Nat.le_of_ble_eq_true rfl) ?_
  intro κ X Y
  have X : mo_Cx κ lf ρf cX4_addEscort 3 RX4 (some .int) 6 := X
  obtain ⟨hx, hg, hS, h5, hSv, ht, hT⟩ := id hC
  obtain ⟨hI0, hI1, hI2, hI3, hI4, hI5, hI6, hI7, hIh, hIa, hIe, hIm, hIs, hIl, hIw, hIr, hIt, hIs2, hIs3, hIz⟩ := id hI
  obtain ⟨s0, s1, s2, s3, s4, s5, sH, sA, sE, sM, sS, sL, sW, sRo, sF⟩ := id hS
  refine mo_il1 (pc := 0) X dX4_addEscort_0 ?_
  refine mo_cSI (pc := 1) (As := [_]) X mo_k_X4_107 mo_y_yX4_isSetOfSlots dX4_addEscort_1 (ct4_isSetOfSlots hp) rfl (by decide) (by decide) (Nat.le_of_ble_eq_true rfl) ?_
  rintro r_1 _ ⟨h_1, rfl⟩
  refine mo_if_eq (pc := 4) (tgt := 18) X dX4_addEscort_4 (by decide) ?_ (fun c_4 => ?_) (fun c_4 => ?_)
  · omega
  · skip
    refine mo_thrS (pc := 18) (names := mo_nm) (text := "slots or limit is out of range") X Y hlf (by decide +kernel) mo_fitN mo_wq_X4_48 mo_wz_IllegalArgumentException (by decide) mo_hatA mo_vtA dX4_addEscort_18 dX4_addEscort_21 dX4_addEscort_22 dX4_addEscort_24 dX4_addEscort_27 (by decide) (Nat.le_of_ble_eq_true rfl) (by decide) (by decide) (fun t9 h9 => ?_)
    exact ⟨rfl, rfl, h9, Or.inl ⟨rfl, by omega⟩⟩
  · skip
    refine mo_il2 (pc := 7) X dX4_addEscort_7 ?_
    refine mo_iconst (pc := 8) X dX4_addEscort_8 ?_
    refine mo_ic_lt (pc := 9) (tgt := 18) X dX4_addEscort_9 (by decide) ?_ ?_ (fun c_9 => ?_) (fun c_9 => ?_)
    · omega
    · omega
    · skip
      refine mo_thrS (pc := 18) (names := mo_nm) (text := "slots or limit is out of range") X Y hlf (by decide +kernel) mo_fitN mo_wq_X4_48 mo_wz_IllegalArgumentException (by decide) mo_hatA mo_vtA dX4_addEscort_18 dX4_addEscort_21 dX4_addEscort_22 dX4_addEscort_24 dX4_addEscort_27 (by decide) (Nat.le_of_ble_eq_true rfl) (by decide) (by decide) (fun t9 h9 => ?_)
      exact ⟨rfl, rfl, h9, Or.inl ⟨rfl, by omega⟩⟩
    · skip
      refine mo_il2 (pc := 12) X dX4_addEscort_12 ?_
      refine mo_bipush (pc := 13) X dX4_addEscort_13 (by decide) ?_
      refine mo_ic_le (pc := 15) (tgt := 28) X dX4_addEscort_15 (by decide) ?_ ?_ (fun c_15 => ?_) (fun c_15 => ?_)
      · omega
      · omega
      · skip
        refine mo_al0 (pc := 28) X dX4_addEscort_28 ?_
        refine mo_f_X4_12 (pc := 29) X dX4_addEscort_29 (mo_Ms_o hx) (mo_Ms_p0 hx) ?_
        refine mo_f_X4_112 (pc := 32) X dX4_addEscort_32 (mo_St_o (mo_Ms_r0 hx)) ?_
        rw [s1]
        refine mo_bipush (pc := 35) X dX4_addEscort_35 (by decide) ?_
        refine mo_ic_lt (pc := 37) (tgt := 50) X dX4_addEscort_37 (by decide) ?_ ?_ (fun c_37 => ?_) (fun c_37 => ?_)
        · omega
        · omega
        · skip
          refine mo_toN X Y (fun κ X Y => ?_)
          refine mo_al0 (pc := 50) X dX4_addEscort_50 ?_
          refine mo_callVr (pc := 51) (As := []) X mo_k_X4_63 mo_y_yX4_save rfl dX4_addEscort_51 (ct4_save (n := sv) (s := s) hx hg hsv h5 hS hI) (mo_Ms_o hx) rfl (by decide) (by decide) (Nat.le_of_ble_eq_true rfl) (mo_rm0 κ) ?_
          rintro v1 G1 M1 t1 ⟨rfl, rfl, hq⟩
          show mo_V κ 0 0 _ _ _ _ _ _
          obtain ⟨⟨s9, hC1⟩, hG1, hF1⟩ := mo_CI_sv hC hq hsv
          have hx := hC1.1
          have hS1 := hC1.2.2.1
          refine mo_al0 (pc := 54) X dX4_addEscort_54 ?_
          refine mo_f_X4_12 (pc := 55) X dX4_addEscort_55 (mo_Ms_o hx) (mo_Ms_p0 hx) ?_
          refine mo_il1 (pc := 58) X dX4_addEscort_58 ?_
          refine mo_il2 (pc := 59) X dX4_addEscort_59 ?_
          refine mo_cVI (pc := 60) (As := [_, _]) X mo_k_X4_117 mo_y_yX2_enterEscort rfl dX4_addEscort_60 (ct2_enterEscort (mo_Ms_r0 hx) hS1 hI (by omega) (by omega)) (mo_St_o (mo_Ms_r0 hx)) rfl (by decide) (by decide) (Nat.le_of_ble_eq_true rfl) ?_
          rintro r_9 M_9 ⟨u_9, s_9, f_9⟩
          refine mo_wd (k2 := 1) (n2 := 6) (Nat.zero_le _) (Nat.zero_le _) ?_
          refine mo_iret (pc := 63) X Y rfl dX4_addEscort_63 ⟨hG1, rfl, by omega, by omega, ?_, fun a ha => Eq.trans (f_9 a (by omega)) (hF1 a ha), s9, mo_CI_up hC1 s_9 fun a a1 a2 => f_9 a (by omega)⟩
          rw [u_9]
        · skip
          refine mo_thrS (pc := 40) (names := mo_nm) (text := "there are 6 escorts") X Y hlf (by decide +kernel) mo_fitN mo_wq_X4_58 mo_wz_IllegalStateException (by decide) mo_hatT mo_vtT dX4_addEscort_40 dX4_addEscort_43 dX4_addEscort_44 dX4_addEscort_46 dX4_addEscort_49 (by decide) (Nat.le_of_ble_eq_true rfl) (by decide) (by decide) (fun t9 h9 => ?_)
          exact ⟨rfl, rfl, h9, Or.inr ⟨rfl, by omega, by omega⟩⟩
      · skip
        refine mo_thrS (pc := 18) (names := mo_nm) (text := "slots or limit is out of range") X Y hlf (by decide +kernel) mo_fitN mo_wq_X4_48 mo_wz_IllegalArgumentException (by decide) mo_hatA mo_vtA dX4_addEscort_18 dX4_addEscort_21 dX4_addEscort_22 dX4_addEscort_24 dX4_addEscort_27 (by decide) (Nat.le_of_ble_eq_true rfl) (by decide) (by decide) (fun t9 h9 => ?_)
        exact ⟨rfl, rfl, h9, Or.inl ⟨rfl, by omega⟩⟩
