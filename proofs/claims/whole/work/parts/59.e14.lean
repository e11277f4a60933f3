set_option maxHeartbeats 4000000 in
set_option maxRecDepth 100000 in
theorem ct4_setSlots {lf : Launch} {ρf : mo_E} {G : mo_G} {M : mo_M} {t : Nat} (hlf : lf.stackTraces = false) {x n sv s : Nat} {g T : Nat → Int} {S : Nat → Nat → Int} {B : Int} (hC : mo_CI G M x g n T sv S s) (hI : mo_Iv g B) (hB : B ≤ 700000000) (hsv : sv ≤ 4) {o v : Int} (ho : mo_In o) (hv : mo_In v) : mo_Cv lf ρf yX4_setSlots cX4_setSlots 4 (some .int) 6 1 6 [.ref x, mo_iv o, mo_iv v] G M t (fun u G' M' t' => (G'.1 = G.1 ∧ ∀ b, b ≠ x + 39 → G'.2 b = G.2 b) ∧ t' = t ∧ (0 ≤ o ∧ o < g 5) ∧ (0 ≤ v ∧ v ≤ 268435455) ∧ u = some (mo_iv (g (192 + o.toNat))) ∧ (∀ a, mo_oz x a → M' a = M a) ∧ ∃ s', mo_CI G' M' x (va_up g (192 + o.toNat) v) n T (mo_svq sv + 1) (mo_Sn sv g S) s') (fun E G' M' t' => G' = G ∧ M' = M ∧ t ≤ t' ∧ ((E = mo_IOE ∧ ¬ (0 ≤ o ∧ o < g 5)) ∨ (E = mo_IAE ∧ (0 ≤ o ∧ o < g 5) ∧ ¬ (0 ≤ v ∧ v ≤ 268435455)))) := by
  refine mo_ofWX (ls0 := [some (.ref x), some (mo_iv o), some (mo_iv v), none]) (by decide) rfl (Nat.le_of_ble_eq_true rfl) ?_
  intro κ X Y
  have X : mo_Cx κ lf ρf cX4_setSlots 4 RX4 (some .int) 6 := X
  obtain ⟨hx, hg, hS, h5, hSv, ht, hT⟩ := id hC
  obtain ⟨hI0, hI1, hI2, hI3, hI4, hI5, hI6, hI7, hIh, hIa, hIe, hIm, hIs, hIl, hIw, hIr, hIt, hIs2, hIs3, hIz⟩ := id hI
  obtain ⟨s0, s1, s2, s3, s4, s5, sH, sA, sE, sM, sS, sL, sW, sRo, sF⟩ := id hS
  refine mo_al0 (pc := 0) X dX4_setSlots_0 ?_
  refine mo_f_X4_12 (pc := 1) X dX4_setSlots_1 (mo_Ms_o hx) (mo_Ms_p0 hx) ?_
  refine mo_il1 (pc := 4) X dX4_setSlots_4 ?_
  refine mo_cVI (pc := 5) (As := [_]) X mo_k_X4_120 mo_y_yX2_hasEscort rfl dX4_setSlots_5 (ct2_hasEscort (mo_Ms_r0 hx) ho (by omega)) (mo_St_o (mo_Ms_r0 hx)) rfl (by decide) (by decide) (Nat.le_of_ble_eq_true rfl) ?_
  rintro r_5 _ ⟨h_5, rfl⟩
  refine mo_if_ne (pc := 8) (tgt := 21) X dX4_setSlots_8 (by decide) ?_ (fun c_8 => ?_) (fun c_8 => ?_)
  · omega
  · skip
    refine mo_il2 (pc := 21) X dX4_setSlots_21 ?_
    refine mo_cSI (pc := 22) (As := [_]) X mo_k_X4_107 mo_y_yX4_isSetOfSlots dX4_setSlots_22 (ct4_isSetOfSlots hv) rfl (by decide) (by decide) (Nat.le_of_ble_eq_true rfl) ?_
    rintro r_22 _ ⟨h_22, rfl⟩
    refine mo_if_ne (pc := 25) (tgt := 38) X dX4_setSlots_25 (by decide) ?_ (fun c_25 => ?_) (fun c_25 => ?_)
    · omega
    · skip
      refine mo_toN X Y (fun κ X Y => ?_)
      obtain ⟨on, rfl⟩ := Int.eq_ofNat_of_zero_le (show 0 ≤ o by omega)
      refine mo_al0 (pc := 38) X dX4_setSlots_38 ?_
      refine mo_callVr (pc := 39) (As := []) X mo_k_X4_63 mo_y_yX4_save rfl dX4_setSlots_39 (ct4_save (n := sv) (s := s) hx hg hsv h5 hS hI) (mo_Ms_o hx) rfl (by decide) (by decide) (Nat.le_of_ble_eq_true rfl) (mo_rm0 κ) ?_
      rintro v1 G1 M1 t1 ⟨rfl, rfl, hq⟩
      show mo_V κ 0 0 _ _ _ _ _ _
      obtain ⟨⟨s9, hC1⟩, hG1, hF1⟩ := mo_CI_sv hC hq hsv
      have hx := hC1.1
      have hS1 := hC1.2.2.1
      obtain ⟨t0, t1, t2, t3, t4, t5, t0H, t0A, t0E, t0M, t0S, t0L, t0W, t0Ro, t0F⟩ := id hS1
      refine mo_al0 (pc := 42) X dX4_setSlots_42 ?_
      refine mo_f_X4_12 (pc := 43) X dX4_setSlots_43 (mo_Ms_o hx) (mo_Ms_p0 hx) ?_
      refine mo_f_X4_127 (pc := 46) X dX4_setSlots_46 (mo_St_o (mo_Ms_r0 hx)) (mo_St_p10 (mo_Ms_r0 hx)) ?_
      refine mo_il1 (pc := 49) X dX4_setSlots_49 ?_
      refine mo_cVI (pc := 50) (As := [_]) X mo_k_X4_97 mo_y_yX1_get rfl dX4_setSlots_50 (ct_get (a := x + 1 + 10) (j := on) (mo_St_r10 (mo_Ms_r0 hx)) rfl (by omega) (by omega) (by omega) (by omega)) (mo_St_r10 (mo_Ms_r0 hx)).1 rfl (by decide) (by decide) (Nat.le_of_ble_eq_true rfl) ?_
      rintro r_a _ ⟨u_a, rfl⟩
      refine mo_is3 (pc := 53) X dX4_setSlots_53 rfl (by decide) ?_
      refine mo_al0 (pc := 54) X dX4_setSlots_54 ?_
      refine mo_f_X4_12 (pc := 55) X dX4_setSlots_55 (mo_Ms_o hx) (mo_Ms_p0 hx) ?_
      refine mo_f_X4_127 (pc := 58) X dX4_setSlots_58 (mo_St_o (mo_Ms_r0 hx)) (mo_St_p10 (mo_Ms_r0 hx)) ?_
      refine mo_il1 (pc := 61) X dX4_setSlots_61 ?_
      refine mo_il2 (pc := 62) X dX4_setSlots_62 ?_
      refine mo_cVV (pc := 63) (As := [_, _]) X mo_k_X4_103 mo_y_yX1_set rfl dX4_setSlots_63 (ct_set (a := x + 1 + 10) (j := on) (mo_St_r10 (mo_Ms_r0 hx)) rfl (by omega) (by omega) (by omega) (by omega)) (mo_St_r10 (mo_Ms_r0 hx)).1 rfl (by decide) (by decide) (Nat.le_of_ble_eq_true rfl) ?_
      rintro M_b h_b
      refine mo_il3 (pc := 66) X dX4_setSlots_66 ?_
      refine mo_wd (k2 := 1) (n2 := 6) (Nat.zero_le _) (Nat.zero_le _) ?_
      refine mo_iret (pc := 67) X Y rfl dX4_setSlots_67 ⟨hG1, rfl, by omega, by omega, ?_, fun a ha => by rw [h_b, mo_ur_n (by omega), hF1 a ha], s9, mo_CI_up hC1 (g' := va_up g (192 + ((on : Nat) : Int).toNat) v) ?_ fun a a1 a2 => by rw [h_b, mo_ur_n (by omega)]⟩
      · simp only [Int.toNat_natCast]
        rw [u_a, t0S on (by omega)]
      · simp only [Int.toNat_natCast]
        rw [h_b]
        have lo : ∀ j, j ≠ 192 + on → va_up g (192 + on) v j = g j := fun j a => mo_up_n a
        refine ⟨?_, ?_, ?_, ?_, ?_, ?_, ?_, ?_, ?_, ?_, ?_, ?_, ?_, ?_, ?_⟩
        · rw [mo_ur_n (by omega), lo _ (by omega)]
          exact t0
        · rw [mo_ur_n (by omega), lo _ (by omega)]
          exact t1
        · rw [mo_ur_n (by omega), lo _ (by omega)]
          exact t2
        · rw [mo_ur_n (by omega), lo _ (by omega)]
          exact t3
        · rw [mo_ur_n (by omega), lo _ (by omega)]
          exact t4
        · rw [mo_ur_n (by omega), lo _ (by omega)]
          exact t5
        · intro j hj
          rw [mo_ur_n (by omega), lo _ (by omega)]
          exact t0H j hj
        · intro j hj
          rw [mo_ur_n (by omega), lo _ (by omega)]
          exact t0A j hj
        · intro j hj
          rw [mo_ur_n (by omega), lo _ (by omega)]
          exact t0E j hj
        · intro j hj
          rw [mo_ur_n (by omega), lo _ (by omega)]
          exact t0M j hj
        · intro j hj
          rw [mo_ur_s]
          by_cases c : j = on
          · rw [c, mo_up_s, mo_up_s]
          · rw [mo_up_n c, lo _ (by omega)]
            exact t0S j hj
        · intro j hj
          rw [mo_ur_n (by omega), lo _ (by omega)]
          exact t0L j hj
        · intro j hj
          rw [mo_ur_n (by omega), lo _ (by omega)]
          exact t0W j hj
        · intro j hj
          rw [mo_ur_n (by omega), lo _ (by omega)]
          exact t0Ro j hj
        · intro k j hk hj
          rw [lo 7 (by omega)] at hk
          unfold mo_fld
          rw [mo_ur_n (by omega), lo _ (by omega)]
          exact t0F k j hk hj
    · skip
      refine mo_thrS (pc := 28) (names := mo_nm) (text := "slots is out of range") X Y hlf (by decide +kernel) mo_fitN mo_wq_X4_48 mo_wz_IllegalArgumentException (by decide) mo_hatA mo_vtA dX4_setSlots_28 dX4_setSlots_31 dX4_setSlots_32 dX4_setSlots_34 dX4_setSlots_37 (by decide) (Nat.le_of_ble_eq_true rfl) (by decide) (by decide) (fun t9 h9 => ?_)
      exact ⟨rfl, rfl, h9, Or.inr ⟨rfl, by omega, by omega⟩⟩
  · skip
    refine mo_thrS (pc := 11) (names := mo_nm) (text := "no such escort") X Y hlf (by decide +kernel) mo_fitN mo_wq_X4_73 mo_wz_IndexOutOfBoundsException (by decide) mo_hatI mo_vtI dX4_setSlots_11 dX4_setSlots_14 dX4_setSlots_15 dX4_setSlots_17 dX4_setSlots_20 (by decide) (Nat.le_of_ble_eq_true rfl) (by decide) (by decide) (fun t9 h9 => ?_)
    exact ⟨rfl, rfl, h9, Or.inl ⟨rfl, by omega⟩⟩
