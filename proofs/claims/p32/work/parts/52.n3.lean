set_option maxHeartbeats 4000000 in
set_option maxRecDepth 100000 in
theorem nt4_addVenue {lf : Launch} {ρf : mo_E} {G : mo_G} {M : mo_M} {t : Nat} {x n sv s : Nat} {g T : Nat → Int} {S : Nat → Nat → Int} {B : Int} (hC : mo_CI G M x g n T sv S s) (hI : mo_Iv g B) (hB : B ≤ 700000000) (hsv : sv ≤ 4) {v : Int} (hv : mo_In v) (hok : (1 ≤ v ∧ v ≤ 4) ∧ (g 6 < 5)) : mo_Ct lf ρf yX4_addVenue cX4_addVenue 2 (some .int) 6 0 0 [.ref x, mo_iv v] G M t (fun u G' M' t' => (G'.1 = G.1 ∧ ∀ b, b ≠ x + 39 → G'.2 b = G.2 b) ∧ t' = t ∧ (1 ≤ v ∧ v ≤ 4) ∧ (g 6 < 5) ∧ u = some (mo_iv (g 6)) ∧ (∀ a, mo_oz x a → M' a = M a) ∧ ∃ s', mo_CI G' M' x (mo_gAV g v) n T (mo_svq sv + 1) (mo_Sn sv g S) s') := by
  refine mo_ofW (ls0 := [some (.ref x), some (mo_iv v)]) (by decide) rfl (Nat.le_of_ble_eq_true rfl) ?_
  intro κ X Y
  have X : mo_Cx κ lf ρf cX4_addVenue 2 RX4 (some .int) 6 := X
  obtain ⟨hx, hg, hS, h5, hSv, ht, hT⟩ := id hC
  obtain ⟨hI0, hI1, hI2, hI3, hI4, hI5, hI6, hI7, hIh, hIa, hIe, hIm, hIs, hIl, hIw, hIr, hIt, hIs2, hIs3, hIz⟩ := id hI
  obtain ⟨s0, s1, s2, s3, s4, s5, sH, sA, sE, sM, sS, sL, sW, sRo, sF⟩ := id hS
  refine mo_il1 (pc := 0) X dX4_addVenue_0 ?_
  refine mo_iconst (pc := 1) X dX4_addVenue_1 ?_
  refine mo_ic_lt (pc := 2) (tgt := 10) X dX4_addVenue_2 (by decide) ?_ ?_ (fun c_2 => ?_) (fun c_2 => ?_)
  · omega
  · omega
  · skip
    exfalso
    omega
  · skip
    refine mo_il1 (pc := 5) X dX4_addVenue_5 ?_
    refine mo_iconst (pc := 6) X dX4_addVenue_6 ?_
    refine mo_ic_le (pc := 7) (tgt := 20) X dX4_addVenue_7 (by decide) ?_ ?_ (fun c_7 => ?_) (fun c_7 => ?_)
    · omega
    · omega
    · skip
      refine mo_al0 (pc := 20) X dX4_addVenue_20 ?_
      refine mo_f_X4_12 (pc := 21) X dX4_addVenue_21 (mo_Ms_o hx) (mo_Ms_p0 hx) ?_
      refine mo_f_X4_132 (pc := 24) X dX4_addVenue_24 (mo_St_o (mo_Ms_r0 hx)) ?_
      rw [s2]
      refine mo_iconst (pc := 27) X dX4_addVenue_27 ?_
      refine mo_ic_lt (pc := 28) (tgt := 41) X dX4_addVenue_28 (by decide) ?_ ?_ (fun c_28 => ?_) (fun c_28 => ?_)
      · omega
      · omega
      · skip
        refine mo_al0 (pc := 41) X dX4_addVenue_41 ?_
        refine mo_callVr (pc := 42) (As := []) X mo_k_X4_63 mo_y_yX4_save rfl dX4_addVenue_42 (ct4_save (n := sv) (s := s) hx hg hsv h5 hS hI) (mo_Ms_o hx) rfl (by decide) (by decide) (Nat.le_of_ble_eq_true rfl) (mo_rm0 κ) ?_
        rintro v1 G1 M1 t1 ⟨rfl, rfl, hq⟩
        show mo_V κ 0 0 _ _ _ _ _ _
        obtain ⟨⟨s1, hC1⟩, hG1, hF1⟩ := mo_CI_sv hC hq hsv
        have hx := hC1.1
        have hS1 := hC1.2.2.1
        refine mo_al0 (pc := 45) X dX4_addVenue_45 ?_
        refine mo_f_X4_12 (pc := 46) X dX4_addVenue_46 (mo_Ms_o hx) (mo_Ms_p0 hx) ?_
        refine mo_il1 (pc := 49) X dX4_addVenue_49 ?_
        refine mo_cVI (pc := 50) (As := [_]) X mo_k_X4_137 mo_y_yX2_enterVenue rfl dX4_addVenue_50 (ct2_enterVenue (mo_Ms_r0 hx) hS1 hI (by omega) (by omega)) (mo_St_o (mo_Ms_r0 hx)) rfl (by decide) (by decide) (Nat.le_of_ble_eq_true rfl) ?_
        rintro r_9 M_9 ⟨u_9, s_9, f_9⟩
        refine mo_iret (pc := 53) X Y rfl dX4_addVenue_53 ⟨hG1, rfl, by omega, by omega, ?_, fun a ha => Eq.trans (f_9 a (by omega)) (hF1 a ha), s1, mo_CI_up hC1 s_9 fun a a1 a2 => f_9 a (by omega)⟩
        rw [u_9]
      · skip
        exfalso
        omega
    · skip
      exfalso
      omega
set_option maxHeartbeats 4000000 in
set_option maxRecDepth 100000 in
theorem nt4_addEscort {lf : Launch} {ρf : mo_E} {G : mo_G} {M : mo_M} {t : Nat} {x n sv s : Nat} {g T : Nat → Int} {S : Nat → Nat → Int} {B : Int} (hC : mo_CI G M x g n T sv S s) (hI : mo_Iv g B) (hB : B ≤ 700000000) (hsv : sv ≤ 4) {p v : Int} (hp : mo_In p) (hv : mo_In v) (hok : ((0 ≤ p ∧ p ≤ 268435455) ∧ (1 ≤ v ∧ v ≤ 20)) ∧ (g 5 < 6)) : mo_Ct lf ρf yX4_addEscort cX4_addEscort 3 (some .int) 6 0 0 [.ref x, mo_iv p, mo_iv v] G M t (fun u G' M' t' => (G'.1 = G.1 ∧ ∀ b, b ≠ x + 39 → G'.2 b = G.2 b) ∧ t' = t ∧ ((0 ≤ p ∧ p ≤ 268435455) ∧ (1 ≤ v ∧ v ≤ 20)) ∧ (g 5 < 6) ∧ u = some (mo_iv (g 5)) ∧ (∀ a, mo_oz x a → M' a = M a) ∧ ∃ s', mo_CI G' M' x (mo_gAE g p v) n T (mo_svq sv + 1) (mo_Sn sv g S) s') := by
  refine mo_ofW (ls0 := [some (.ref x), some (mo_iv p), some (mo_iv v)]) (by decide) rfl (Nat.le_of_ble_eq_true rfl) ?_
  intro κ X Y
  have X : mo_Cx κ lf ρf cX4_addEscort 3 RX4 (some .int) 6 := X
  obtain ⟨hx, hg, hS, h5, hSv, ht, hT⟩ := id hC
  obtain ⟨hI0, hI1, hI2, hI3, hI4, hI5, hI6, hI7, hIh, hIa, hIe, hIm, hIs, hIl, hIw, hIr, hIt, hIs2, hIs3, hIz⟩ := id hI
  obtain ⟨s0, s1, s2, s3, s4, s5, sH, sA, sE, sM, sS, sL, sW, sRo, sF⟩ := id hS
  refine mo_il1 (pc := 0) X dX4_addEscort_0 ?_
  refine mo_cSI (pc := 1) (As := [_]) X mo_k_X4_107 mo_y_yX4_isSetOfSlots dX4_addEscort_1 (ct4_isSetOfSlots hp) rfl (by decide) (by decide) (Nat.le_of_ble_eq_true rfl) ?_
  rintro r_1 _ ⟨h_1, rfl⟩
  refine mo_if_eq (pc := 4) (tgt := 18) X dX4_addEscort_4 (by decide) ?_ (fun c_4 => ?_) (fun c_4 => ?_)
  · omega
  · skip
    exfalso
    omega
  · skip
    refine mo_il2 (pc := 7) X dX4_addEscort_7 ?_
    refine mo_iconst (pc := 8) X dX4_addEscort_8 ?_
    refine mo_ic_lt (pc := 9) (tgt := 18) X dX4_addEscort_9 (by decide) ?_ ?_ (fun c_9 => ?_) (fun c_9 => ?_)
    · omega
    · omega
    · skip
      exfalso
      omega
    · skip
      refine mo_il2 (pc := 12) X dX4_addEscort_12 ?_
      refine mo_bipush (pc := 13) X dX4_addEscort_13 (by decide) ?_
      refine mo_ic_le (pc := 15) (tgt := 28) X dX4_addEscort_15 (by decide) ?_ ?_ (fun c_15 => ?_) (fun c_15 => ?_)
      · omega
      · omega
      · skip
        refine mo_al0 (pc := 28) X dX4_addEscort_28 ?_
        refine mo_f_X4_12 (pc := 29) X dX4_addEscort_29 (mo_Ms_o hx) (mo_Ms_p0 hx) ?_
        refine mo_f_X4_112 (pc := 32) X dX4_addEscort_32 (mo_St_o (mo_Ms_r0 hx)) ?_
        rw [s1]
        refine mo_bipush (pc := 35) X dX4_addEscort_35 (by decide) ?_
        refine mo_ic_lt (pc := 37) (tgt := 50) X dX4_addEscort_37 (by decide) ?_ ?_ (fun c_37 => ?_) (fun c_37 => ?_)
        · omega
        · omega
        · skip
          refine mo_al0 (pc := 50) X dX4_addEscort_50 ?_
          refine mo_callVr (pc := 51) (As := []) X mo_k_X4_63 mo_y_yX4_save rfl dX4_addEscort_51 (ct4_save (n := sv) (s := s) hx hg hsv h5 hS hI) (mo_Ms_o hx) rfl (by decide) (by decide) (Nat.le_of_ble_eq_true rfl) (mo_rm0 κ) ?_
          rintro v1 G1 M1 t1 ⟨rfl, rfl, hq⟩
          show mo_V κ 0 0 _ _ _ _ _ _
          obtain ⟨⟨s9, hC1⟩, hG1, hF1⟩ := mo_CI_sv hC hq hsv
          have hx := hC1.1
          have hS1 := hC1.2.2.1
          refine mo_al0 (pc := 54) X dX4_addEscort_54 ?_
          refine mo_f_X4_12 (pc := 55) X dX4_addEscort_55 (mo_Ms_o hx) (mo_Ms_p0 hx) ?_
          refine mo_il1 (pc := 58) X dX4_addEscort_58 ?_
          refine mo_il2 (pc := 59) X dX4_addEscort_59 ?_
          refine mo_cVI (pc := 60) (As := [_, _]) X mo_k_X4_117 mo_y_yX2_enterEscort rfl dX4_addEscort_60 (ct2_enterEscort (mo_Ms_r0 hx) hS1 hI (by omega) (by omega)) (mo_St_o (mo_Ms_r0 hx)) rfl (by decide) (by decide) (Nat.le_of_ble_eq_true rfl) ?_
          rintro r_9 M_9 ⟨u_9, s_9, f_9⟩
          refine mo_iret (pc := 63) X Y rfl dX4_addEscort_63 ⟨hG1, rfl, by omega, by omega, ?_, fun a ha => Eq.trans (f_9 a (by omega)) (hF1 a ha), s9, mo_CI_up hC1 s_9 fun a a1 a2 => f_9 a (by omega)⟩
          rw [u_9]
        · skip
          exfalso
          omega
      · skip
        exfalso
        omega
set_option maxHeartbeats 4000000 in
set_option maxRecDepth 100000 in
theorem nt4_endWeek {lf : Launch} {ρf : mo_E} {G : mo_G} {M : mo_M} {t : Nat} {x n sv s : Nat} {g T : Nat → Int} {S : Nat → Nat → Int} {B : Int} (hC : mo_CI G M x g n T sv S s) (hI : mo_Iv g B) (hB : B ≤ 700000000) (hsv : sv ≤ 4) (hok : g 0 < 19) : mo_Ct lf ρf yX4_endWeek cX4_endWeek 2 (some .int) 6 0 0 [.ref x] G M t (fun u G' M' t' => (G'.1 = G.1 ∧ ∀ b, b ≠ x + 39 → G'.2 b = G.2 b) ∧ t' = t ∧ g 0 < 19 ∧ u = some (mo_iv (mo_eN g)) ∧ (∀ a, mo_oz x a → M' a = M a) ∧ ∃ s', mo_CI G' M' x (mo_eR g) n T (mo_svq sv + 1) (mo_Sn sv g S) s') := by
  refine mo_ofW (ls0 := [some (.ref x), none]) (by decide) rfl (Nat.le_of_ble_eq_true rfl) ?_
  intro κ X Y
  have X : mo_Cx κ lf ρf cX4_endWeek 2 RX4 (some .int) 6 := X
  obtain ⟨hx, hg, hS, h5, hSv, ht, hT⟩ := id hC
  obtain ⟨hI0, hI1, hI2, hI3, hI4, hI5, hI6, hI7, hIh, hIa, hIe, hIm, hIs, hIl, hIw, hIr, hIt, hIs2, hIs3, hIz⟩ := id hI
  obtain ⟨s0, s1, s2, s3, s4, s5, sH, sA, sE, sM, sS, sL, sW, sRo, sF⟩ := id hS
  refine mo_al0 (pc := 0) X dX4_endWeek_0 ?_
  refine mo_f_X4_12 (pc := 1) X dX4_endWeek_1 (mo_Ms_o hx) (mo_Ms_p0 hx) ?_
  refine mo_cVI (pc := 4) (As := []) X mo_k_X4_201 mo_y_yX2_isLastWeek rfl dX4_endWeek_4 (ct2_isLastWeek (mo_Ms_r0 hx) (by omega)) (mo_St_o (mo_Ms_r0 hx)) rfl (by decide) (by decide) (Nat.le_of_ble_eq_true rfl) ?_
  rintro r_4 _ ⟨h_4, rfl⟩
  refine mo_if_eq (pc := 7) (tgt := 20) X dX4_endWeek_7 (by decide) ?_ (fun c_7 => ?_) (fun c_7 => ?_)
  · omega
  · skip
    refine mo_al0 (pc := 20) X dX4_endWeek_20 ?_
    refine mo_callVr (pc := 21) (As := []) X mo_k_X4_63 mo_y_yX4_save rfl dX4_endWeek_21 (ct4_save (n := sv) (s := s) hx hg hsv h5 hS hI) (mo_Ms_o hx) rfl (by decide) (by decide) (Nat.le_of_ble_eq_true rfl) (mo_rm0 κ) ?_
    rintro v1 G1 M1 t1 ⟨rfl, rfl, hq⟩
    show mo_V κ 0 0 _ _ _ _ _ _
    obtain ⟨⟨s9, hC1⟩, hG1, hF1⟩ := mo_CI_sv hC hq hsv
    have hx := hC1.1
    have hS1 := hC1.2.2.1
    refine mo_al0 (pc := 24) X dX4_endWeek_24 ?_
    refine mo_f_X4_12 (pc := 25) X dX4_endWeek_25 (mo_Ms_o hx) (mo_Ms_p0 hx) ?_
    refine mo_iconst (pc := 28) X dX4_endWeek_28 ?_
    refine mo_cVI (pc := 29) (As := [_]) X mo_k_X4_207 mo_y_yX2_settleWeek rfl dX4_endWeek_29 (ct2_settleWeek2 (mo_Ms_r0 hx) hS1 hI (by omega)) (mo_St_o (mo_Ms_r0 hx)) rfl (by decide) (by decide) (Nat.le_of_ble_eq_true rfl) ?_
    rintro r_a M_a ⟨u_a, s_a, f_a⟩
    refine mo_is1 (pc := 32) X dX4_endWeek_32 rfl (by decide) ?_
    refine mo_al0 (pc := 33) X dX4_endWeek_33 ?_
    refine mo_f_X4_12 (pc := 34) X dX4_endWeek_34 (mo_Ms_o hx) (mo_Ms_p0 hx) ?_
    refine mo_cVV (pc := 37) (As := []) X mo_k_X4_210 mo_y_yX2_beginNextWeek rfl dX4_endWeek_37 (ct2_beginNextWeek (mo_Ms_r0 hx) s_a (mo_mw_b hI (mo_nk g) (Nat.le_refl _)).1 (by unfold mo_nk; omega)) (mo_St_o (mo_Ms_r0 hx)) rfl (by decide) (by decide) (Nat.le_of_ble_eq_true rfl) ?_
    rintro M_b ⟨s_b, f_b⟩
    rw [mo_mw_k hI] at s_b
    refine mo_il1 (pc := 40) X dX4_endWeek_40 ?_
    refine mo_iret (pc := 41) X Y rfl dX4_endWeek_41 ⟨hG1, rfl, by omega, ?_, fun a ha => by rw [f_b a (by omega), f_a a (by omega), hF1 a ha], s9, mo_CI_up hC1 s_b fun a a1 a2 => by rw [f_b a (by omega), f_a a (by omega)]⟩
    rw [u_a]
    rfl
  · skip
    exfalso
    omega
set_option maxHeartbeats 4000000 in
set_option maxRecDepth 100000 in
theorem nt4_planWeek {lf : Launch} {ρf : mo_E} {G : mo_G} {M : mo_M} {t : Nat} {x n sv s : Nat} {g T : Nat → Int} {S : Nat → Nat → Int} {B : Int} (hC : mo_CI G M x g n T sv S s) (hI : mo_Iv g B) (hB : B ≤ 700000000) (hsv : sv ≤ 4) {w : Int} (hw : mo_In w) (hok : (0 ≤ w ∧ w ≤ 19) ∧ (g 0 ≤ w)) : mo_Ct lf ρf yX4_planWeek cX4_planWeek 2 (some .int) 6 0 0 [.ref x, mo_iv w] G M t (fun u G' M' t' => (G'.1 = G.1 ∧ ∀ b, b ≠ x + 39 → G'.2 b = G.2 b) ∧ t' = t ∧ (0 ≤ w ∧ w ≤ 19) ∧ (g 0 ≤ w) ∧ u = some (mo_iv ((mo_pl w.toNat 61 g).1)) ∧ (∀ a, mo_oz x a → M' a = M a) ∧ ∃ s', mo_CI G' M' x ((mo_pl w.toNat 61 g).2) n T (mo_svq sv + 1) (mo_Sn sv g S) s') := by
  refine mo_ofW (ls0 := [some (.ref x), some (mo_iv w)]) (by decide) rfl (Nat.le_of_ble_eq_true rfl) ?_
  intro κ X Y
  have X : mo_Cx κ lf ρf cX4_planWeek 2 RX4 (some .int) 6 := X
  obtain ⟨hx, hg, hS, h5, hSv, ht, hT⟩ := id hC
  obtain ⟨hI0, hI1, hI2, hI3, hI4, hI5, hI6, hI7, hIh, hIa, hIe, hIm, hIs, hIl, hIw, hIr, hIt, hIs2, hIs3, hIz⟩ := id hI
  obtain ⟨s0, s1, s2, s3, s4, s5, sH, sA, sE, sM, sS, sL, sW, sRo, sF⟩ := id hS
  refine mo_il1 (pc := 0) X dX4_planWeek_0 ?_
  refine mo_cSI (pc := 1) (As := [_]) X mo_k_X4_145 mo_y_yX4_isWeek dX4_planWeek_1 (ct4_isWeek hw) rfl (by decide) (by decide) (Nat.le_of_ble_eq_true rfl) ?_
  rintro r_1 _ ⟨h_1, rfl⟩
  refine mo_if_ne (pc := 4) (tgt := 17) X dX4_planWeek_4 (by decide) ?_ (fun c_4 => ?_) (fun c_4 => ?_)
  · omega
  · skip
    refine mo_al0 (pc := 17) X dX4_planWeek_17 ?_
    refine mo_f_X4_12 (pc := 18) X dX4_planWeek_18 (mo_Ms_o hx) (mo_Ms_p0 hx) ?_
    refine mo_il1 (pc := 21) X dX4_planWeek_21 ?_
    refine mo_cVI (pc := 22) (As := [_]) X mo_k_X4_164 mo_y_yX2_isOver rfl dX4_planWeek_22 (ct2_isOver (mo_Ms_r0 hx) hw (by omega)) (mo_St_o (mo_Ms_r0 hx)) rfl (by decide) (by decide) (Nat.le_of_ble_eq_true rfl) ?_
    rintro r_22 _ ⟨h_22, rfl⟩
    refine mo_if_eq (pc := 25) (tgt := 38) X dX4_planWeek_25 (by decide) ?_ (fun c_25 => ?_) (fun c_25 => ?_)
    · omega
    · skip
      obtain ⟨wn, rfl⟩ := Int.eq_ofNat_of_zero_le (show 0 ≤ w by omega)
      refine mo_al0 (pc := 38) X dX4_planWeek_38 ?_
      refine mo_callVr (pc := 39) (As := []) X mo_k_X4_63 mo_y_yX4_save rfl dX4_planWeek_39 (ct4_save (n := sv) (s := s) hx hg hsv h5 hS hI) (mo_Ms_o hx) rfl (by decide) (by decide) (Nat.le_of_ble_eq_true rfl) (mo_rm0 κ) ?_
      rintro v1 G1 M1 t1 ⟨rfl, rfl, hq⟩
      show mo_V κ 0 0 _ _ _ _ _ _
      obtain ⟨⟨s9, hC1⟩, hG1, hF1⟩ := mo_CI_sv hC hq hsv
      have hx := hC1.1
      have hS1 := hC1.2.2.1
      refine mo_al0 (pc := 42) X dX4_planWeek_42 ?_
      refine mo_f_X4_26 (pc := 43) X dX4_planWeek_43 (mo_Ms_o hx) (mo_Ms_p3 hx) ?_
      refine mo_al0 (pc := 46) X dX4_planWeek_46 ?_
      refine mo_f_X4_12 (pc := 47) X dX4_planWeek_47 (mo_Ms_o hx) (mo_Ms_p0 hx) ?_
      refine mo_il1 (pc := 50) X dX4_planWeek_50 ?_
      refine mo_cVI (pc := 51) (As := [_, _]) X mo_k_X4_169 mo_y_yX3_planAll rfl dX4_planWeek_51 (ct3_planAll (w := wn) (mo_Ms_r3 hx) (mo_Ms_r0 hx) (by omega) hS1 hI (by omega) (by omega) (by omega)) (mo_Bk_o (mo_Ms_r3 hx)) rfl (by decide) (by decide) (Nat.le_of_ble_eq_true rfl) ?_
      rintro r_9 M_9 ⟨u_9, s_9, f_9⟩
      refine mo_iret (pc := 54) X Y rfl dX4_planWeek_54 ⟨hG1, rfl, by omega, by omega, ?_, fun a ha => Eq.trans (f_9 a (by omega) (by omega)) (hF1 a ha), s9, mo_CI_up hC1 (by simp only [Int.toNat_natCast]; exact s_9) fun a a1 a2 => f_9 a (by omega) (by omega)⟩
      rw [u_9]; simp only [Int.toNat_natCast]
    · skip
      exfalso
      omega
  · skip
    exfalso
    omega
set_option maxHeartbeats 4000000 in
set_option maxRecDepth 100000 in
theorem nt4_cancel {lf : Launch} {ρf : mo_E} {G : mo_G} {M : mo_M} {t : Nat} {x n sv s : Nat} {g T : Nat → Int} {S : Nat → Nat → Int} {B : Int} (hC : mo_CI G M x g n T sv S s) (hI : mo_Iv g B) (hB : B ≤ 700000000) (hsv : sv ≤ 4) {o pl : Int} (ho : mo_In o) (hpl : pl = mo_ff (fun k => decide (mo_fld g k 0 = o)) (mo_nk g)) (hok : (pl ≠ -1) ∧ (mo_fld g pl.toNat 6 = 0)) : mo_Ct lf ρf yX4_cancel cX4_cancel 4 (some .int) 6 0 0 [.ref x, mo_iv o] G M t (fun u G' M' t' => (G'.1 = G.1 ∧ ∀ b, b ≠ x + 39 → G'.2 b = G.2 b) ∧ t' = t ∧ (pl ≠ -1) ∧ (mo_fld g pl.toNat 6 = 0) ∧ u = some (mo_iv (mo_fld g pl.toNat 2)) ∧ (∀ a, mo_oz x a → M' a = M a) ∧ ∃ s', mo_CI G' M' x (mo_to g pl.toNat) n T (mo_svq sv + 1) (mo_Sn sv g S) s') := by
  refine mo_ofW (ls0 := [some (.ref x), some (mo_iv o), none, none]) (by decide) rfl (Nat.le_of_ble_eq_true rfl) ?_
  intro κ X Y
  have X : mo_Cx κ lf ρf cX4_cancel 4 RX4 (some .int) 6 := X
  obtain ⟨hx, hg, hS, h5, hSv, ht, hT⟩ := id hC
  obtain ⟨hI0, hI1, hI2, hI3, hI4, hI5, hI6, hI7, hIh, hIa, hIe, hIm, hIs, hIl, hIw, hIr, hIt, hIs2, hIs3, hIz⟩ := id hI
  obtain ⟨s0, s1, s2, s3, s4, s5, sH, sA, sE, sM, sS, sL, sW, sRo, sF⟩ := id hS
  have hnk : ((mo_nk g : Nat) : Int) = g 7 := by unfold mo_nk; omega
  have hplb : pl = -1 ∨ (0 ≤ pl ∧ pl < g 7) := by
    rw [hpl]
    rcases mo_ff_cases (fun k => decide (mo_fld g k 0 = o)) (mo_nk g) with ⟨pf1, pf2⟩ | ⟨pk, pf1, pf2, pf3, pf4⟩
    · exact Or.inl pf1
    · exact Or.inr (by omega)
  refine mo_al0 (pc := 0) X dX4_cancel_0 ?_
  refine mo_f_X4_12 (pc := 1) X dX4_cancel_1 (mo_Ms_o hx) (mo_Ms_p0 hx) ?_
  refine mo_il1 (pc := 4) X dX4_cancel_4 ?_
  refine mo_cVI (pc := 5) (As := [_]) X mo_k_X4_173 mo_y_yX2_placeOf rfl dX4_cancel_5 (ct2_placeOf (mo_Ms_r0 hx) hS hI (by omega) ho) (mo_St_o (mo_Ms_r0 hx)) rfl (by decide) (by decide) (Nat.le_of_ble_eq_true rfl) ?_
  rintro r_5 _ ⟨h_5, rfl⟩
  rw [← hpl] at h_5
  have h_5 := h_5.symm
  subst h_5
  refine mo_is2 (pc := 8) X dX4_cancel_8 rfl (by decide) ?_
  refine mo_il2 (pc := 9) X dX4_cancel_9 ?_
  refine mo_iconst (pc := 10) X dX4_cancel_10 ?_
  refine mo_ic_ne (pc := 11) (tgt := 24) X dX4_cancel_11 (by decide) ?_ ?_ (fun c_11 => ?_) (fun c_11 => ?_)
  · omega
  · omega
  · skip
    refine mo_al0 (pc := 24) X dX4_cancel_24 ?_
    refine mo_f_X4_12 (pc := 25) X dX4_cancel_25 (mo_Ms_o hx) (mo_Ms_p0 hx) ?_
    refine mo_il2 (pc := 28) X dX4_cancel_28 ?_
    refine mo_iconst (pc := 29) X dX4_cancel_29 ?_
    obtain ⟨pk, rfl⟩ := Int.eq_ofNat_of_zero_le (show 0 ≤ pl by omega)
    have hmt := hIt pk (by omega)
    unfold mo_Mt at hmt
    refine mo_cVI (pc := 30) (As := [_, _]) X mo_k_X4_178 mo_y_yX2_fact rfl dX4_cancel_30 (ct2_fld (g := g) (k := pk) (j := 5) (q := 6) (mo_Ms_r0 hx) hS (by omega) (by omega) (by omega) rfl) (mo_St_o (mo_Ms_r0 hx)) rfl (by decide) (by decide) (Nat.le_of_ble_eq_true rfl) ?_
    rintro r_30 _ ⟨h_30, rfl⟩
    refine mo_if_eq (pc := 33) (tgt := 46) X dX4_cancel_33 (by decide) ?_ (fun c_33 => ?_) (fun c_33 => ?_)
    · omega
    · skip
      refine mo_al0 (pc := 46) X dX4_cancel_46 ?_
      refine mo_callVr (pc := 47) (As := []) X mo_k_X4_63 mo_y_yX4_save rfl dX4_cancel_47 (ct4_save (n := sv) (s := s) hx hg hsv h5 hS hI) (mo_Ms_o hx) rfl (by decide) (by decide) (Nat.le_of_ble_eq_true rfl) (mo_rm0 κ) ?_
      rintro v1 G1 M1 t1 ⟨rfl, rfl, hq⟩
      show mo_V κ 0 0 _ _ _ _ _ _
      obtain ⟨⟨s9, hC1⟩, hG1, hF1⟩ := mo_CI_sv hC hq hsv
      have hx := hC1.1
      have hS1 := hC1.2.2.1
      refine mo_al0 (pc := 50) X dX4_cancel_50 ?_
      refine mo_f_X4_12 (pc := 51) X dX4_cancel_51 (mo_Ms_o hx) (mo_Ms_p0 hx) ?_
      refine mo_il2 (pc := 54) X dX4_cancel_54 ?_
      refine mo_iconst (pc := 55) X dX4_cancel_55 ?_
      refine mo_cVI (pc := 56) (As := [_, _]) X mo_k_X4_178 mo_y_yX2_fact rfl dX4_cancel_56 (ct2_fld (g := g) (k := pk) (j := 1) (q := 2) (mo_Ms_r0 hx) hS1 (by omega) (by omega) (by omega) rfl) (mo_St_o (mo_Ms_r0 hx)) rfl (by decide) (by decide) (Nat.le_of_ble_eq_true rfl) ?_
      rintro r_a _ ⟨u_a, rfl⟩
      refine mo_is3 (pc := 59) X dX4_cancel_59 rfl (by decide) ?_
      refine mo_al0 (pc := 60) X dX4_cancel_60 ?_
      refine mo_f_X4_12 (pc := 61) X dX4_cancel_61 (mo_Ms_o hx) (mo_Ms_p0 hx) ?_
      refine mo_il2 (pc := 64) X dX4_cancel_64 ?_
      refine mo_cVV (pc := 65) (As := [_]) X mo_k_X4_183 mo_y_yX2_dropMeeting rfl dX4_cancel_65 (ct2_dropMeeting (p := pk) (mo_Ms_r0 hx) hS1 hI (by omega) (by omega)) (mo_St_o (mo_Ms_r0 hx)) rfl (by decide) (by decide) (Nat.le_of_ble_eq_true rfl) ?_
      rintro M_b ⟨s_b, f_b⟩
      refine mo_il3 (pc := 68) X dX4_cancel_68 ?_
      refine mo_iret (pc := 69) X Y rfl dX4_cancel_69 ⟨hG1, rfl, by omega, by simp only [Int.toNat_natCast]; omega, ?_, fun a ha => by rw [f_b a (by omega), hF1 a ha], s9, mo_CI_up hC1 (by simp only [Int.toNat_natCast]; exact s_b) fun a a1 a2 => f_b a (by omega)⟩
      simp only [Int.toNat_natCast]
      rw [u_a]
    · skip
      have h9 := hok.2
      simp only [Int.toNat_natCast] at h9
      exfalso
      omega
  · skip
    exfalso
    omega
set_option maxHeartbeats 4000000 in
set_option maxRecDepth 100000 in
theorem nt4_setSlots {lf : Launch} {ρf : mo_E} {G : mo_G} {M : mo_M} {t : Nat} {x n sv s : Nat} {g T : Nat → Int} {S : Nat → Nat → Int} {B : Int} (hC : mo_CI G M x g n T sv S s) (hI : mo_Iv g B) (hB : B ≤ 700000000) (hsv : sv ≤ 4) {o v : Int} (ho : mo_In o) (hv : mo_In v) (hok : (0 ≤ o ∧ o < g 5) ∧ (0 ≤ v ∧ v ≤ 268435455)) : mo_Ct lf ρf yX4_setSlots cX4_setSlots 4 (some .int) 6 0 0 [.ref x, mo_iv o, mo_iv v] G M t (fun u G' M' t' => (G'.1 = G.1 ∧ ∀ b, b ≠ x + 39 → G'.2 b = G.2 b) ∧ t' = t ∧ (0 ≤ o ∧ o < g 5) ∧ (0 ≤ v ∧ v ≤ 268435455) ∧ u = some (mo_iv (g (192 + o.toNat))) ∧ (∀ a, mo_oz x a → M' a = M a) ∧ ∃ s', mo_CI G' M' x (va_up g (192 + o.toNat) v) n T (mo_svq sv + 1) (mo_Sn sv g S) s') := by
  refine mo_ofW (ls0 := [some (.ref x), some (mo_iv o), some (mo_iv v), none]) (by decide) rfl (Nat.le_of_ble_eq_true rfl) ?_
  intro κ X Y
  have X : mo_Cx κ lf ρf cX4_setSlots 4 RX4 (some .int) 6 := X
  obtain ⟨hx, hg, hS, h5, hSv, ht, hT⟩ := id hC
  obtain ⟨hI0, hI1, hI2, hI3, hI4, hI5, hI6, hI7, hIh, hIa, hIe, hIm, hIs, hIl, hIw, hIr, hIt, hIs2, hIs3, hIz⟩ := id hI
  obtain ⟨s0, s1, s2, s3, s4, s5, sH, sA, sE, sM, sS, sL, sW, sRo, sF⟩ := id hS
  refine mo_al0 (pc := 0) X dX4_setSlots_0 ?_
  refine mo_f_X4_12 (pc := 1) X dX4_setSlots_1 (mo_Ms_o hx) (mo_Ms_p0 hx) ?_
  refine mo_il1 (pc := 4) X dX4_setSlots_4 ?_
  refine mo_cVI (pc := 5) (As := [_]) X mo_k_X4_120 mo_y_yX2_hasEscort rfl dX4_setSlots_5 (ct2_hasEscort (mo_Ms_r0 hx) ho (by omega)) (mo_St_o (mo_Ms_r0 hx)) rfl (by decide) (by decide) (Nat.le_of_ble_eq_true rfl) ?_
  rintro r_5 _ ⟨h_5, rfl⟩
  refine mo_if_ne (pc := 8) (tgt := 21) X dX4_setSlots_8 (by decide) ?_ (fun c_8 => ?_) (fun c_8 => ?_)
  · omega
  · skip
    refine mo_il2 (pc := 21) X dX4_setSlots_21 ?_
    refine mo_cSI (pc := 22) (As := [_]) X mo_k_X4_107 mo_y_yX4_isSetOfSlots dX4_setSlots_22 (ct4_isSetOfSlots hv) rfl (by decide) (by decide) (Nat.le_of_ble_eq_true rfl) ?_
    rintro r_22 _ ⟨h_22, rfl⟩
    refine mo_if_ne (pc := 25) (tgt := 38) X dX4_setSlots_25 (by decide) ?_ (fun c_25 => ?_) (fun c_25 => ?_)
    · omega
    · skip
      obtain ⟨on, rfl⟩ := Int.eq_ofNat_of_zero_le (show 0 ≤ o by omega)
      refine mo_al0 (pc := 38) X dX4_setSlots_38 ?_
      refine mo_callVr (pc := 39) (As := []) X mo_k_X4_63 mo_y_yX4_save rfl dX4_setSlots_39 (ct4_save (n := sv) (s := s) hx hg hsv h5 hS hI) (mo_Ms_o hx) rfl (by decide) (by decide) (Nat.le_of_ble_eq_true rfl) (mo_rm0 κ) ?_
      rintro v1 G1 M1 t1 ⟨rfl, rfl, hq⟩
      show mo_V κ 0 0 _ _ _ _ _ _
      obtain ⟨⟨s9, hC1⟩, hG1, hF1⟩ := mo_CI_sv hC hq hsv
      have hx := hC1.1
      have hS1 := hC1.2.2.1
      obtain ⟨t0, t1, t2, t3, t4, t5, t0H, t0A, t0E, t0M, t0S, t0L, t0W, t0Ro, t0F⟩ := id hS1
      refine mo_al0 (pc := 42) X dX4_setSlots_42 ?_
      refine mo_f_X4_12 (pc := 43) X dX4_setSlots_43 (mo_Ms_o hx) (mo_Ms_p0 hx) ?_
      refine mo_f_X4_127 (pc := 46) X dX4_setSlots_46 (mo_St_o (mo_Ms_r0 hx)) (mo_St_p10 (mo_Ms_r0 hx)) ?_
      refine mo_il1 (pc := 49) X dX4_setSlots_49 ?_
      refine mo_cVI (pc := 50) (As := [_]) X mo_k_X4_97 mo_y_yX1_get rfl dX4_setSlots_50 (ct_get (a := x + 1 + 10) (j := on) (mo_St_r10 (mo_Ms_r0 hx)) rfl (by omega) (by omega) (by omega) (by omega)) (mo_St_r10 (mo_Ms_r0 hx)).1 rfl (by decide) (by decide) (Nat.le_of_ble_eq_true rfl) ?_
      rintro r_a _ ⟨u_a, rfl⟩
      refine mo_is3 (pc := 53) X dX4_setSlots_53 rfl (by decide) ?_
      refine mo_al0 (pc := 54) X dX4_setSlots_54 ?_
      refine mo_f_X4_12 (pc := 55) X dX4_setSlots_55 (mo_Ms_o hx) (mo_Ms_p0 hx) ?_
      refine mo_f_X4_127 (pc := 58) X dX4_setSlots_58 (mo_St_o (mo_Ms_r0 hx)) (mo_St_p10 (mo_Ms_r0 hx)) ?_
      refine mo_il1 (pc := 61) X dX4_setSlots_61 ?_
      refine mo_il2 (pc := 62) X dX4_setSlots_62 ?_
      refine mo_cVV (pc := 63) (As := [_, _]) X mo_k_X4_103 mo_y_yX1_set rfl dX4_setSlots_63 (ct_set (a := x + 1 + 10) (j := on) (mo_St_r10 (mo_Ms_r0 hx)) rfl (by omega) (by omega) (by omega) (by omega)) (mo_St_r10 (mo_Ms_r0 hx)).1 rfl (by decide) (by decide) (Nat.le_of_ble_eq_true rfl) ?_
      rintro M_b h_b
      refine mo_il3 (pc := 66) X dX4_setSlots_66 ?_
      refine mo_iret (pc := 67) X Y rfl dX4_setSlots_67 ⟨hG1, rfl, by omega, by omega, ?_, fun a ha => by rw [h_b, mo_ur_n (by omega), hF1 a ha], s9, mo_CI_up hC1 (g' := va_up g (192 + ((on : Nat) : Int).toNat) v) ?_ fun a a1 a2 => by rw [h_b, mo_ur_n (by omega)]⟩
      · simp only [Int.toNat_natCast]
        rw [u_a, t0S on (by omega)]
      · simp only [Int.toNat_natCast]
        rw [h_b]
        have lo : ∀ j, j ≠ 192 + on → va_up g (192 + on) v j = g j := fun j a => mo_up_n a
        refine ⟨?_, ?_, ?_, ?_, ?_, ?_, ?_, ?_, ?_, ?_, ?_, ?_, ?_, ?_, ?_⟩
        · rw [mo_ur_n (by omega), lo _ (by omega)]
          exact t0
        · rw [mo_ur_n (by omega), lo _ (by omega)]
          exact t1
        · rw [mo_ur_n (by omega), lo _ (by omega)]
          exact t2
        · rw [mo_ur_n (by omega), lo _ (by omega)]
          exact t3
        · rw [mo_ur_n (by omega), lo _ (by omega)]
          exact t4
        · rw [mo_ur_n (by omega), lo _ (by omega)]
          exact t5
        · intro j hj
          rw [mo_ur_n (by omega), lo _ (by omega)]
          exact t0H j hj
        · intro j hj
          rw [mo_ur_n (by omega), lo _ (by omega)]
          exact t0A j hj
        · intro j hj
          rw [mo_ur_n (by omega), lo _ (by omega)]
          exact t0E j hj
        · intro j hj
          rw [mo_ur_n (by omega), lo _ (by omega)]
          exact t0M j hj
        · intro j hj
          rw [mo_ur_s]
          by_cases c : j = on
          · rw [c, mo_up_s, mo_up_s]
          · rw [mo_up_n c, lo _ (by omega)]
            exact t0S j hj
        · intro j hj
          rw [mo_ur_n (by omega), lo _ (by omega)]
          exact t0L j hj
        · intro j hj
          rw [mo_ur_n (by omega), lo _ (by omega)]
          exact t0W j hj
        · intro j hj
          rw [mo_ur_n (by omega), lo _ (by omega)]
          exact t0Ro j hj
        · intro k j hk hj
          rw [lo 7 (by omega)] at hk
          unfold mo_fld
          rw [mo_ur_n (by omega), lo _ (by omega)]
          exact t0F k j hk hj
    · skip
      exfalso
      omega
  · skip
    exfalso
    omega
