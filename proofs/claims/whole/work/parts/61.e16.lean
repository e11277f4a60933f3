set_option maxHeartbeats 4000000 in
set_option maxRecDepth 100000 in
theorem ct4_addOrder {lf : Launch} {ρf : mo_E} {G : mo_G} {M : mo_M} {t : Nat} (hlf : lf.stackTraces = false) {x n sv s : Nat} {g T : Nat → Int} {S : Nat → Nat → Int} {B : Int} (hC : mo_CI G M x g n T sv S s) (hI : mo_Iv g B) (hB : B ≤ 700000000) (hsv : sv ≤ 4) {p v : Int} (hp : mo_In p) (hv : mo_In v) : mo_Cv lf ρf yX4_addOrder cX4_addOrder 3 (some .int) 6 1 6 [.ref x, mo_iv p, mo_iv v] G M t (fun u G' M' t' => (G'.1 = G.1 ∧ ∀ b, b ≠ x + 39 → G'.2 b = G.2 b) ∧ t' = t ∧ ((0 ≤ p ∧ p ≤ 7) ∧ (0 ≤ v ∧ v < 2 ^ (g 6).toNat)) ∧ (g 4 < 8) ∧ u = some (mo_iv (g 4)) ∧ (∀ a, mo_oz x a → M' a = M a) ∧ ∃ s', mo_CI G' M' x (mo_gAO g p v) n T (mo_svq sv + 1) (mo_Sn sv g S) s') (fun E G' M' t' => G' = G ∧ (M' = M) ∧ t ≤ t' ∧ ((E = mo_IAE ∧ ¬ ((0 ≤ p ∧ p ≤ 7) ∧ (0 ≤ v ∧ v < 2 ^ (g 6).toNat))) ∨ (E = mo_ISE ∧ ((0 ≤ p ∧ p ≤ 7) ∧ (0 ≤ v ∧ v < 2 ^ (g 6).toNat)) ∧ ¬ (g 4 < 8)))) := by
  refine mo_ofWX (ls0 := [some (.ref x), some (mo_iv p), some (mo_iv v)]) (by decide) rfl (Nat.le_of_ble_eq_true rfl) ?_
  intro κ X Y
  have X : mo_Cx κ lf ρf cX4_addOrder 3 RX4 (some .int) 6 := X
  obtain ⟨hx, hg, hS, h5, hSv, ht, hT⟩ := id hC
  obtain ⟨hI0, hI1, hI2, hI3, hI4, hI5, hI6, hI7, hIh, hIa, hIe, hIm, hIs, hIl, hIw, hIr, hIt, hIs2, hIs3, hIz⟩ := id hI
  obtain ⟨s0, s1, s2, s3, s4, s5, sH, sA, sE, sM, sS, sL, sW, sRo, sF⟩ := id hS
  refine mo_il1 (pc := 0) X dX4_addOrder_0 ?_
  refine mo_cSI (pc := 1) (As := [_]) X mo_k_X4_41 mo_y_yX4_isHours dX4_addOrder_1 (ct4_isHours hp) rfl (by decide) (by decide) (Nat.le_of_ble_eq_true rfl) ?_
  rintro r_1 _ ⟨h_1, rfl⟩
  refine mo_if_eq (pc := 4) (tgt := 18) X dX4_addOrder_4 (by decide) ?_ (fun c_4 => ?_) (fun c_4 => ?_)
  · omega
  · skip
    refine mo_thrS (pc := 18) (names := mo_nm) (text := "hours or venues is out of range") X Y hlf (by decide +kernel) mo_fitN mo_wq_X4_48 mo_wz_IllegalArgumentException (by decide) mo_hatA mo_vtA dX4_addOrder_18 dX4_addOrder_21 dX4_addOrder_22 dX4_addOrder_24 dX4_addOrder_27 (by decide) (Nat.le_of_ble_eq_true rfl) (by decide) (by decide) (fun t9 h9 => ?_)
    exact ⟨rfl, rfl, h9, Or.inl ⟨rfl, by omega⟩⟩
  · skip
    refine mo_al0 (pc := 7) X dX4_addOrder_7 ?_
    refine mo_f_X4_12 (pc := 8) X dX4_addOrder_8 (mo_Ms_o hx) (mo_Ms_p0 hx) ?_
    refine mo_il2 (pc := 11) X dX4_addOrder_11 ?_
    refine mo_cVI (pc := 12) (As := [_]) X mo_k_X4_45 mo_y_yX2_hasAllVenues rfl dX4_addOrder_12 (ct2_hasAllVenues (mo_Ms_r0 hx) hv (by omega)) (mo_St_o (mo_Ms_r0 hx)) rfl (by decide) (by decide) (Nat.le_of_ble_eq_true rfl) ?_
    rintro r_12 _ ⟨h_12, rfl⟩
    rw [s2] at h_12
    refine mo_if_ne (pc := 15) (tgt := 28) X dX4_addOrder_15 (by decide) ?_ (fun c_15 => ?_) (fun c_15 => ?_)
    · omega
    · skip
      refine mo_al0 (pc := 28) X dX4_addOrder_28 ?_
      refine mo_f_X4_12 (pc := 29) X dX4_addOrder_29 (mo_Ms_o hx) (mo_Ms_p0 hx) ?_
      refine mo_f_X4_55 (pc := 32) X dX4_addOrder_32 (mo_St_o (mo_Ms_r0 hx)) ?_
      rw [s0]
      refine mo_bipush (pc := 35) X dX4_addOrder_35 (by decide) ?_
      refine mo_ic_lt (pc := 37) (tgt := 50) X dX4_addOrder_37 (by decide) ?_ ?_ (fun c_37 => ?_) (fun c_37 => ?_)
      · omega
      · omega
      · skip
        refine mo_toN X Y (fun κ X Y => ?_)
        refine mo_al0 (pc := 50) X dX4_addOrder_50 ?_
        refine mo_callVr (pc := 51) (As := []) X mo_k_X4_63 mo_y_yX4_save rfl dX4_addOrder_51 (ct4_save (n := sv) (s := s) hx hg hsv h5 hS hI) (mo_Ms_o hx) rfl (by decide) (by decide) (Nat.le_of_ble_eq_true rfl) (mo_rm0 κ) ?_
        rintro v1 G1 M1 t1 ⟨rfl, rfl, hq⟩
        show mo_V κ 0 0 _ _ _ _ _ _
        obtain ⟨⟨s9, hC1⟩, hG1, hF1⟩ := mo_CI_sv hC hq hsv
        have hx := hC1.1
        have hS1 := hC1.2.2.1
        refine mo_al0 (pc := 54) X dX4_addOrder_54 ?_
        refine mo_f_X4_12 (pc := 55) X dX4_addOrder_55 (mo_Ms_o hx) (mo_Ms_p0 hx) ?_
        refine mo_il1 (pc := 58) X dX4_addOrder_58 ?_
        refine mo_il2 (pc := 59) X dX4_addOrder_59 ?_
        refine mo_cVI (pc := 60) (As := [_, _]) X mo_k_X4_66 mo_y_yX2_enterOrder rfl dX4_addOrder_60 (ct2_enterOrder (mo_Ms_r0 hx) hS1 hI (by omega) (by omega)) (mo_St_o (mo_Ms_r0 hx)) rfl (by decide) (by decide) (Nat.le_of_ble_eq_true rfl) ?_
        rintro r_9 M_9 ⟨u_9, s_9, f_9⟩
        refine mo_wd (k2 := 1) (n2 := 6) (Nat.zero_le _) (Nat.zero_le _) ?_
        refine mo_iret (pc := 63) X Y rfl dX4_addOrder_63 ⟨hG1, rfl, by omega, by omega, ?_, fun a ha => Eq.trans (f_9 a (by omega)) (hF1 a ha), s9, mo_CI_up hC1 s_9 fun a a1 a2 => f_9 a (by omega)⟩
        rw [u_9]
      · skip
        refine mo_thrS (pc := 40) (names := mo_nm) (text := "there are 8 orders") X Y hlf (by decide +kernel) mo_fitN mo_wq_X4_58 mo_wz_IllegalStateException (by decide) mo_hatT mo_vtT dX4_addOrder_40 dX4_addOrder_43 dX4_addOrder_44 dX4_addOrder_46 dX4_addOrder_49 (by decide) (Nat.le_of_ble_eq_true rfl) (by decide) (by decide) (fun t9 h9 => ?_)
        exact ⟨rfl, rfl, h9, Or.inr (⟨rfl, by omega, by omega⟩)⟩
    · skip
      refine mo_thrS (pc := 18) (names := mo_nm) (text := "hours or venues is out of range") X Y hlf (by decide +kernel) mo_fitN mo_wq_X4_48 mo_wz_IllegalArgumentException (by decide) mo_hatA mo_vtA dX4_addOrder_18 dX4_addOrder_21 dX4_addOrder_22 dX4_addOrder_24 dX4_addOrder_27 (by decide) (Nat.le_of_ble_eq_true rfl) (by decide) (by decide) (fun t9 h9 => ?_)
      exact ⟨rfl, rfl, h9, Or.inl ⟨rfl, by omega⟩⟩
set_option maxHeartbeats 4000000 in
set_option maxRecDepth 100000 in
theorem ct4_change {lf : Launch} {ρf : mo_E} {G : mo_G} {M : mo_M} {t : Nat} (hlf : lf.stackTraces = false) {x n sv s : Nat} {g T : Nat → Int} {S : Nat → Nat → Int} {B : Int} (hC : mo_CI G M x g n T sv S s) (hI : mo_Iv g B) (hB : B ≤ 700000000) (hsv : sv ≤ 4) {o w h : Int} (ho : mo_In o) (hw : mo_In w) (hh : mo_In h) : mo_Cv lf ρf yX4_change cX4_change 5 (some .int) 6 1 6 [.ref x, mo_iv o, mo_iv w, mo_iv h] G M t (fun u G' M' t' => (G'.1 = G.1 ∧ ∀ b, b ≠ x + 39 → G'.2 b = G.2 b) ∧ t' = t ∧ (0 ≤ o ∧ o < g 4) ∧ ((g 0 ≤ w ∧ w ≤ 19) ∧ (0 ≤ h ∧ h ≤ 7)) ∧ u = some (mo_iv (g (8 + 20 * o.toNat + w.toNat))) ∧ (∀ a, mo_oz x a → M' a = M a) ∧ ∃ s', mo_CI G' M' x (mo_gCH g o.toNat w.toNat h) n T (mo_svq sv + 1) (mo_Sn sv g S) s') (fun E G' M' t' => G' = G ∧ (M' = M) ∧ t ≤ t' ∧ ((E = mo_IOE ∧ ¬ (0 ≤ o ∧ o < g 4)) ∨ (E = mo_IAE ∧ (0 ≤ o ∧ o < g 4) ∧ ¬ ((g 0 ≤ w ∧ w ≤ 19) ∧ (0 ≤ h ∧ h ≤ 7))))) := by
  refine mo_ofWX (ls0 := [some (.ref x), some (mo_iv o), some (mo_iv w), some (mo_iv h), none]) (by decide) rfl (Nat.le_of_ble_eq_true rfl) ?_
  intro κ X Y
  have X : mo_Cx κ lf ρf cX4_change 5 RX4 (some .int) 6 := X
  obtain ⟨hx, hg, hS, h5, hSv, ht, hT⟩ := id hC
  obtain ⟨hI0, hI1, hI2, hI3, hI4, hI5, hI6, hI7, hIh, hIa, hIe, hIm, hIs, hIl, hIw, hIr, hIt, hIs2, hIs3, hIz⟩ := id hI
  obtain ⟨s0, s1, s2, s3, s4, s5, sH, sA, sE, sM, sS, sL, sW, sRo, sF⟩ := id hS
  refine mo_al0 (pc := 0) X dX4_change_0 ?_
  refine mo_f_X4_12 (pc := 1) X dX4_change_1 (mo_Ms_o hx) (mo_Ms_p0 hx) ?_
  refine mo_il1 (pc := 4) X dX4_change_4 ?_
  refine mo_cVI (pc := 5) (As := [_]) X mo_k_X4_70 mo_y_yX2_hasOrder rfl dX4_change_5 (ct2_hasOrder (mo_Ms_r0 hx) ho (by omega)) (mo_St_o (mo_Ms_r0 hx)) rfl (by decide) (by decide) (Nat.le_of_ble_eq_true rfl) ?_
  rintro r_5 _ ⟨h_5, rfl⟩
  refine mo_if_ne (pc := 8) (tgt := 21) X dX4_change_8 (by decide) ?_ (fun c_8 => ?_) (fun c_8 => ?_)
  · omega
  · skip
    refine mo_al0 (pc := 21) X dX4_change_21 ?_
    refine mo_il2 (pc := 22) X dX4_change_22 ?_
    refine mo_il3 (pc := 23) X dX4_change_23 ?_
    refine mo_cVI (pc := 24) (As := [_, _]) X mo_k_X4_78 mo_y_yX4_mayChange rfl dX4_change_24 (ct4_mayChange hx hS hI (by omega) hw hh) (mo_Ms_o hx) rfl (by decide) (by decide) (Nat.le_of_ble_eq_true rfl) ?_
    rintro r_24 _ ⟨h_24, rfl⟩
    refine mo_if_ne (pc := 27) (tgt := 40) X dX4_change_27 (by decide) ?_ (fun c_27 => ?_) (fun c_27 => ?_)
    · omega
    · skip
      refine mo_toN X Y (fun κ X Y => ?_)
      obtain ⟨on, rfl⟩ := Int.eq_ofNat_of_zero_le (show 0 ≤ o by omega)
      obtain ⟨wn, rfl⟩ := Int.eq_ofNat_of_zero_le (show 0 ≤ w by omega)
      refine mo_al0 (pc := 40) X dX4_change_40 ?_
      refine mo_callVr (pc := 41) (As := []) X mo_k_X4_63 mo_y_yX4_save rfl dX4_change_41 (ct4_save (n := sv) (s := s) hx hg hsv h5 hS hI) (mo_Ms_o hx) rfl (by decide) (by decide) (Nat.le_of_ble_eq_true rfl) (mo_rm0 κ) ?_
      rintro v1 G1 M1 t1 ⟨rfl, rfl, hq⟩
      show mo_V κ 0 0 _ _ _ _ _ _
      obtain ⟨⟨s9, hC1⟩, hG1, hF1⟩ := mo_CI_sv hC hq hsv
      have hx := hC1.1
      have hS1 := hC1.2.2.1
      refine mo_al0 (pc := 44) X dX4_change_44 ?_
      refine mo_f_X4_12 (pc := 45) X dX4_change_45 (mo_Ms_o hx) (mo_Ms_p0 hx) ?_
      refine mo_il1 (pc := 48) X dX4_change_48 ?_
      refine mo_il2 (pc := 49) X dX4_change_49 ?_
      refine mo_cVI (pc := 50) (As := [_, _]) X mo_k_X4_84 mo_y_yX2_hoursIn rfl dX4_change_50 (ct2_hoursIn (o := on) (w := wn) (mo_Ms_r0 hx) (by omega) (by omega)) (mo_St_o (mo_Ms_r0 hx)) rfl (by decide) (by decide) (Nat.le_of_ble_eq_true rfl) ?_
      rintro r_50 _ ⟨u_50, rfl⟩
      refine mo_is4 (pc := 53) X dX4_change_53 rfl (by decide) ?_
      refine mo_al0 (pc := 55) X dX4_change_55 ?_
      refine mo_f_X4_12 (pc := 56) X dX4_change_56 (mo_Ms_o hx) (mo_Ms_p0 hx) ?_
      refine mo_il1 (pc := 59) X dX4_change_59 ?_
      refine mo_il2 (pc := 60) X dX4_change_60 ?_
      refine mo_il3 (pc := 61) X dX4_change_61 ?_
      refine mo_cVV (pc := 62) (As := [_, _, _]) X mo_k_X4_87 mo_y_yX2_setHoursFrom rfl dX4_change_62 (ct2_setHoursFrom (o := on) (w := wn) (mo_Ms_r0 hx) (by omega) (by omega)) (mo_St_o (mo_Ms_r0 hx)) rfl (by decide) (by decide) (Nat.le_of_ble_eq_true rfl) ?_
      rintro M_62 h_62
      refine mo_il4 (pc := 65) X dX4_change_65 ?_
      refine mo_wd (k2 := 1) (n2 := 6) (Nat.zero_le _) (Nat.zero_le _) ?_
      refine mo_iret (pc := 67) X Y rfl dX4_change_67 ⟨hG1, rfl, by omega, by omega, ?_, fun a ha => by rw [h_62, mo_ur_n (by omega), hF1 a ha], s9, mo_CI_up hC1 (by simp only [Int.toNat_natCast]; rw [h_62]; exact mo_SR_CH hS1 (by omega)) fun a a1 a2 => by rw [h_62, mo_ur_n (by omega)]⟩
      simp only [Int.toNat_natCast]
      rw [u_50, hS1.2.2.2.2.2.2.1 _ (by omega), show 8 + (20 * on + wn) = 8 + 20 * on + wn by omega]
    · skip
      refine mo_thrS (pc := 30) (names := mo_nm) (text := "week or hours is out of range") X Y hlf (by decide +kernel) mo_fitN mo_wq_X4_48 mo_wz_IllegalArgumentException (by decide) mo_hatA mo_vtA dX4_change_30 dX4_change_33 dX4_change_34 dX4_change_36 dX4_change_39 (by decide) (Nat.le_of_ble_eq_true rfl) (by decide) (by decide) (fun t9 h9 => ?_)
      exact ⟨rfl, rfl, h9, Or.inr (⟨rfl, by omega, by omega⟩)⟩
  · skip
    refine mo_thrS (pc := 11) (names := mo_nm) (text := "no such order") X Y hlf (by decide +kernel) mo_fitN mo_wq_X4_73 mo_wz_IndexOutOfBoundsException (by decide) mo_hatI mo_vtI dX4_change_11 dX4_change_14 dX4_change_15 dX4_change_17 dX4_change_20 (by decide) (Nat.le_of_ble_eq_true rfl) (by decide) (by decide) (fun t9 h9 => ?_)
    exact ⟨rfl, rfl, h9, Or.inl ⟨rfl, by omega⟩⟩
set_option maxHeartbeats 4000000 in
set_option maxRecDepth 100000 in
theorem ct4_allow {lf : Launch} {ρf : mo_E} {G : mo_G} {M : mo_M} {t : Nat} (hlf : lf.stackTraces = false) {x n sv s : Nat} {g T : Nat → Int} {S : Nat → Nat → Int} {B : Int} (hC : mo_CI G M x g n T sv S s) (hI : mo_Iv g B) (hB : B ≤ 700000000) (hsv : sv ≤ 4) {o v : Int} (ho : mo_In o) (hv : mo_In v) : mo_Cv lf ρf yX4_allow cX4_allow 4 (some .int) 6 1 6 [.ref x, mo_iv o, mo_iv v] G M t (fun u G' M' t' => (G'.1 = G.1 ∧ ∀ b, b ≠ x + 39 → G'.2 b = G.2 b) ∧ t' = t ∧ (0 ≤ o ∧ o < g 4) ∧ (0 ≤ v ∧ v < 2 ^ (g 6).toNat) ∧ u = some (mo_iv (g (168 + o.toNat))) ∧ (∀ a, mo_oz x a → M' a = M a) ∧ ∃ s', mo_CI G' M' x (va_up g (168 + o.toNat) v) n T (mo_svq sv + 1) (mo_Sn sv g S) s') (fun E G' M' t' => G' = G ∧ (M' = M) ∧ t ≤ t' ∧ ((E = mo_IOE ∧ ¬ (0 ≤ o ∧ o < g 4)) ∨ (E = mo_IAE ∧ (0 ≤ o ∧ o < g 4) ∧ ¬ (0 ≤ v ∧ v < 2 ^ (g 6).toNat)))) := by
  refine mo_ofWX (ls0 := [some (.ref x), some (mo_iv o), some (mo_iv v), none]) (by decide) rfl (Nat.le_of_ble_eq_true rfl) ?_
  intro κ X Y
  have X : mo_Cx κ lf ρf cX4_allow 4 RX4 (some .int) 6 := X
  obtain ⟨hx, hg, hS, h5, hSv, ht, hT⟩ := id hC
  obtain ⟨hI0, hI1, hI2, hI3, hI4, hI5, hI6, hI7, hIh, hIa, hIe, hIm, hIs, hIl, hIw, hIr, hIt, hIs2, hIs3, hIz⟩ := id hI
  obtain ⟨s0, s1, s2, s3, s4, s5, sH, sA, sE, sM, sS, sL, sW, sRo, sF⟩ := id hS
  refine mo_al0 (pc := 0) X dX4_allow_0 ?_
  refine mo_f_X4_12 (pc := 1) X dX4_allow_1 (mo_Ms_o hx) (mo_Ms_p0 hx) ?_
  refine mo_il1 (pc := 4) X dX4_allow_4 ?_
  refine mo_cVI (pc := 5) (As := [_]) X mo_k_X4_70 mo_y_yX2_hasOrder rfl dX4_allow_5 (ct2_hasOrder (mo_Ms_r0 hx) ho (by omega)) (mo_St_o (mo_Ms_r0 hx)) rfl (by decide) (by decide) (Nat.le_of_ble_eq_true rfl) ?_
  rintro r_5 _ ⟨h_5, rfl⟩
  refine mo_if_ne (pc := 8) (tgt := 21) X dX4_allow_8 (by decide) ?_ (fun c_8 => ?_) (fun c_8 => ?_)
  · omega
  · skip
    refine mo_al0 (pc := 21) X dX4_allow_21 ?_
    refine mo_f_X4_12 (pc := 22) X dX4_allow_22 (mo_Ms_o hx) (mo_Ms_p0 hx) ?_
    refine mo_il2 (pc := 25) X dX4_allow_25 ?_
    refine mo_cVI (pc := 26) (As := [_]) X mo_k_X4_45 mo_y_yX2_hasAllVenues rfl dX4_allow_26 (ct2_hasAllVenues (mo_Ms_r0 hx) hv (by omega)) (mo_St_o (mo_Ms_r0 hx)) rfl (by decide) (by decide) (Nat.le_of_ble_eq_true rfl) ?_
    rintro r_26 _ ⟨h_26, rfl⟩
    rw [s2] at h_26
    refine mo_if_ne (pc := 29) (tgt := 42) X dX4_allow_29 (by decide) ?_ (fun c_29 => ?_) (fun c_29 => ?_)
    · omega
    · skip
      refine mo_toN X Y (fun κ X Y => ?_)
      obtain ⟨on, rfl⟩ := Int.eq_ofNat_of_zero_le (show 0 ≤ o by omega)
      refine mo_al0 (pc := 42) X dX4_allow_42 ?_
      refine mo_callVr (pc := 43) (As := []) X mo_k_X4_63 mo_y_yX4_save rfl dX4_allow_43 (ct4_save (n := sv) (s := s) hx hg hsv h5 hS hI) (mo_Ms_o hx) rfl (by decide) (by decide) (Nat.le_of_ble_eq_true rfl) (mo_rm0 κ) ?_
      rintro v1 G1 M1 t1 ⟨rfl, rfl, hq⟩
      show mo_V κ 0 0 _ _ _ _ _ _
      obtain ⟨⟨s9, hC1⟩, hG1, hF1⟩ := mo_CI_sv hC hq hsv
      have hx := hC1.1
      have hS1 := hC1.2.2.1
      obtain ⟨t0, t1, t2, t3, t4, t5, t0H, t0A, t0E, t0M, t0S, t0L, t0W, t0Ro, t0F⟩ := id hS1
      refine mo_al0 (pc := 46) X dX4_allow_46 ?_
      refine mo_f_X4_12 (pc := 47) X dX4_allow_47 (mo_Ms_o hx) (mo_Ms_p0 hx) ?_
      refine mo_f_X4_93 (pc := 50) X dX4_allow_50 (mo_St_o (mo_Ms_r0 hx)) (mo_St_p7 (mo_Ms_r0 hx)) ?_
      refine mo_il1 (pc := 53) X dX4_allow_53 ?_
      refine mo_cVI (pc := 54) (As := [_]) X mo_k_X4_97 mo_y_yX1_get rfl dX4_allow_54 (ct_get (a := x + 1 + 4) (j := on) (mo_St_r7 (mo_Ms_r0 hx)) rfl (by omega) (by omega) (by omega) (by omega)) (mo_St_r7 (mo_Ms_r0 hx)).1 rfl (by decide) (by decide) (Nat.le_of_ble_eq_true rfl) ?_
      rintro r_a _ ⟨u_a, rfl⟩
      refine mo_is3 (pc := 57) X dX4_allow_57 rfl (by decide) ?_
      refine mo_al0 (pc := 58) X dX4_allow_58 ?_
      refine mo_f_X4_12 (pc := 59) X dX4_allow_59 (mo_Ms_o hx) (mo_Ms_p0 hx) ?_
      refine mo_f_X4_93 (pc := 62) X dX4_allow_62 (mo_St_o (mo_Ms_r0 hx)) (mo_St_p7 (mo_Ms_r0 hx)) ?_
      refine mo_il1 (pc := 65) X dX4_allow_65 ?_
      refine mo_il2 (pc := 66) X dX4_allow_66 ?_
      refine mo_cVV (pc := 67) (As := [_, _]) X mo_k_X4_103 mo_y_yX1_set rfl dX4_allow_67 (ct_set (a := x + 1 + 4) (j := on) (mo_St_r7 (mo_Ms_r0 hx)) rfl (by omega) (by omega) (by omega) (by omega)) (mo_St_r7 (mo_Ms_r0 hx)).1 rfl (by decide) (by decide) (Nat.le_of_ble_eq_true rfl) ?_
      rintro M_b h_b
      refine mo_il3 (pc := 70) X dX4_allow_70 ?_
      refine mo_wd (k2 := 1) (n2 := 6) (Nat.zero_le _) (Nat.zero_le _) ?_
      refine mo_iret (pc := 71) X Y rfl dX4_allow_71 ⟨hG1, rfl, by omega, by omega, ?_, fun a ha => by rw [h_b, mo_ur_n (by omega), hF1 a ha], s9, mo_CI_up hC1 (g' := va_up g (168 + ((on : Nat) : Int).toNat) v) ?_ fun a a1 a2 => by rw [h_b, mo_ur_n (by omega)]⟩
      · simp only [Int.toNat_natCast]
        rw [u_a, t0A on (by omega)]
      · simp only [Int.toNat_natCast]
        rw [h_b]
        have lo : ∀ j, j ≠ 168 + on → va_up g (168 + on) v j = g j := fun j a => mo_up_n a
        refine ⟨?_, ?_, ?_, ?_, ?_, ?_, ?_, ?_, ?_, ?_, ?_, ?_, ?_, ?_, ?_⟩
        · rw [mo_ur_n (by omega), lo _ (by omega)]
          exact t0
        · rw [mo_ur_n (by omega), lo _ (by omega)]
          exact t1
        · rw [mo_ur_n (by omega), lo _ (by omega)]
          exact t2
        · rw [mo_ur_n (by omega), lo _ (by omega)]
          exact t3
        · rw [mo_ur_n (by omega), lo _ (by omega)]
          exact t4
        · rw [mo_ur_n (by omega), lo _ (by omega)]
          exact t5
        · intro j hj
          rw [mo_ur_n (by omega), lo _ (by omega)]
          exact t0H j hj
        · intro j hj
          rw [mo_ur_s]
          by_cases c : j = on
          · rw [c, mo_up_s, mo_up_s]
          · rw [mo_up_n c, lo _ (by omega)]
            exact t0A j hj
        · intro j hj
          rw [mo_ur_n (by omega), lo _ (by omega)]
          exact t0E j hj
        · intro j hj
          rw [mo_ur_n (by omega), lo _ (by omega)]
          exact t0M j hj
        · intro j hj
          rw [mo_ur_n (by omega), lo _ (by omega)]
          exact t0S j hj
        · intro j hj
          rw [mo_ur_n (by omega), lo _ (by omega)]
          exact t0L j hj
        · intro j hj
          rw [mo_ur_n (by omega), lo _ (by omega)]
          exact t0W j hj
        · intro j hj
          rw [mo_ur_n (by omega), lo _ (by omega)]
          exact t0Ro j hj
        · intro k j hk hj
          rw [lo 7 (by omega)] at hk
          unfold mo_fld
          rw [mo_ur_n (by omega), lo _ (by omega)]
          exact t0F k j hk hj
    · skip
      refine mo_thrS (pc := 32) (names := mo_nm) (text := "venues is out of range") X Y hlf (by decide +kernel) mo_fitN mo_wq_X4_48 mo_wz_IllegalArgumentException (by decide) mo_hatA mo_vtA dX4_allow_32 dX4_allow_35 dX4_allow_36 dX4_allow_38 dX4_allow_41 (by decide) (Nat.le_of_ble_eq_true rfl) (by decide) (by decide) (fun t9 h9 => ?_)
      exact ⟨rfl, rfl, h9, Or.inr (⟨rfl, by omega, by omega⟩)⟩
  · skip
    refine mo_thrS (pc := 11) (names := mo_nm) (text := "no such order") X Y hlf (by decide +kernel) mo_fitN mo_wq_X4_73 mo_wz_IndexOutOfBoundsException (by decide) mo_hatI mo_vtI dX4_allow_11 dX4_allow_14 dX4_allow_15 dX4_allow_17 dX4_allow_20 (by decide) (Nat.le_of_ble_eq_true rfl) (by decide) (by decide) (fun t9 h9 => ?_)
    exact ⟨rfl, rfl, h9, Or.inl ⟨rfl, by omega⟩⟩
theorem mo_rs_b8 (g : Nat → Int) (o : Nat) (w : Int) (q e v : Nat) : 0 ≤ mo_rs g o w q e v ∧ mo_rs g o w q e v ≤ 8 := by
  have hwe : 0 ≤ mo_we g w e q ∧ mo_we g w e q ≤ 6 := by
    unfold mo_we
    repeat' split
    all_goals omega
  unfold mo_rs
  repeat' split
  all_goals omega
theorem mo_rs_7 {g : Nat → Int} {B : Int} {o : Nat} {w : Int} {q e v : Nat} (hI : mo_Iv g B) (h : mo_rs g o w q e v = 0) : g 7 < 60 := by
  have h7 := hI.2.2.2.2.2.2.2.1
  unfold mo_rs at h
  repeat' split at h
  all_goals omega
set_option maxHeartbeats 4000000 in
set_option maxRecDepth 100000 in
theorem ct4_plan {lf : Launch} {ρf : mo_E} {G : mo_G} {M : mo_M} {t : Nat} (hlf : lf.stackTraces = false) {x n sv s : Nat} {g T : Nat → Int} {S : Nat → Nat → Int} {B : Int} (hC : mo_CI G M x g n T sv S s) (hI : mo_Iv g B) (hB : B ≤ 700000000) (hsv : sv ≤ 4) {a w q e v : Int} (ha : mo_In a) (hw : mo_In w) (hq : mo_In q) (he : mo_In e) (hv : mo_In v) : mo_Cv lf ρf yX4_plan cX4_plan 6 (some .int) 6 1 6 [.ref x, mo_iv a, mo_iv w, mo_iv q, mo_iv e, mo_iv v] G M t (fun u G' M' t' => (G'.1 = G.1 ∧ ∀ b, b ≠ x + 39 → G'.2 b = G.2 b) ∧ t' = t ∧ ((0 ≤ a ∧ a < g 4) ∧ (0 ≤ e ∧ e < g 5) ∧ (0 ≤ v ∧ v < g 6)) ∧ ((0 ≤ w ∧ w ≤ 19) ∧ (0 ≤ q ∧ q ≤ 27)) ∧ (mo_rs g a.toNat w.toNat q.toNat e.toNat v.toNat = 0) ∧ u = some (mo_iv (g 1)) ∧ (∀ a, mo_oz x a → M' a = M a) ∧ ∃ s', mo_CI G' M' x (mo_ly g a w q e v) n T (mo_svq sv + 1) (mo_Sn sv g S) s') (fun E G' M' t' => G' = G ∧ (∀ a, (a < x + 118 ∨ x + 124 < a) → M' a = M a) ∧ t ≤ t' ∧ ((E = mo_IOE ∧ ¬ ((0 ≤ a ∧ a < g 4) ∧ (0 ≤ e ∧ e < g 5) ∧ (0 ≤ v ∧ v < g 6))) ∨ (E = mo_IAE ∧ ((0 ≤ a ∧ a < g 4) ∧ (0 ≤ e ∧ e < g 5) ∧ (0 ≤ v ∧ v < g 6)) ∧ ¬ ((0 ≤ w ∧ w ≤ 19) ∧ (0 ≤ q ∧ q ≤ 27))) ∨ (E = mo_ISE ∧ ((0 ≤ a ∧ a < g 4) ∧ (0 ≤ e ∧ e < g 5) ∧ (0 ≤ v ∧ v < g 6)) ∧ ((0 ≤ w ∧ w ≤ 19) ∧ (0 ≤ q ∧ q ≤ 27)) ∧ ¬ (mo_rs g a.toNat w.toNat q.toNat e.toNat v.toNat = 0)))) := by
  refine mo_ofWX (ls0 := [some (.ref x), some (mo_iv a), some (mo_iv w), some (mo_iv q), some (mo_iv e), some (mo_iv v)]) (by decide) rfl (Nat.le_of_ble_eq_true rfl) ?_
  intro κ X Y
  have X : mo_Cx κ lf ρf cX4_plan 6 RX4 (some .int) 6 := X
  obtain ⟨hx, hg, hS, h5, hSv, ht, hT⟩ := id hC
  obtain ⟨hI0, hI1, hI2, hI3, hI4, hI5, hI6, hI7, hIh, hIa, hIe, hIm, hIs, hIl, hIw, hIr, hIt, hIs2, hIs3, hIz⟩ := id hI
  obtain ⟨s0, s1, s2, s3, s4, s5, sH, sA, sE, sM, sS, sL, sW, sRo, sF⟩ := id hS
  refine mo_al0 (pc := 0) X dX4_plan_0 ?_
  refine mo_f_X4_12 (pc := 1) X dX4_plan_1 (mo_Ms_o hx) (mo_Ms_p0 hx) ?_
  refine mo_il1 (pc := 4) X dX4_plan_4 ?_
  refine mo_cVI (pc := 5) (As := [_]) X mo_k_X4_70 mo_y_yX2_hasOrder rfl dX4_plan_5 (ct2_hasOrder (mo_Ms_r0 hx) ha (by omega)) (mo_St_o (mo_Ms_r0 hx)) rfl (by decide) (by decide) (Nat.le_of_ble_eq_true rfl) ?_
  rintro r_5 _ ⟨h_5, rfl⟩
  refine mo_if_eq (pc := 8) (tgt := 35) X dX4_plan_8 (by decide) ?_ (fun c_8 => ?_) (fun c_8 => ?_)
  · omega
  · skip
    refine mo_thrS (pc := 35) (names := mo_nm) (text := "no such order, escort or venue") X Y hlf (by decide +kernel) mo_fitN mo_wq_X4_73 mo_wz_IndexOutOfBoundsException (by decide) mo_hatI mo_vtI dX4_plan_35 dX4_plan_38 dX4_plan_39 dX4_plan_41 dX4_plan_44 (by decide) (Nat.le_of_ble_eq_true rfl) (by decide) (by decide) (fun t9 h9 => ?_)
    exact ⟨rfl, fun a q => rfl, h9, Or.inl ⟨rfl, by omega⟩⟩
  · skip
    refine mo_al0 (pc := 11) X dX4_plan_11 ?_
    refine mo_f_X4_12 (pc := 12) X dX4_plan_12 (mo_Ms_o hx) (mo_Ms_p0 hx) ?_
    refine mo_il4 (pc := 15) X dX4_plan_15 ?_
    refine mo_cVI (pc := 17) (As := [_]) X mo_k_X4_120 mo_y_yX2_hasEscort rfl dX4_plan_17 (ct2_hasEscort (mo_Ms_r0 hx) he (by omega)) (mo_St_o (mo_Ms_r0 hx)) rfl (by decide) (by decide) (Nat.le_of_ble_eq_true rfl) ?_
    rintro r_17 _ ⟨h_17, rfl⟩
    refine mo_if_eq (pc := 20) (tgt := 35) X dX4_plan_20 (by decide) ?_ (fun c_20 => ?_) (fun c_20 => ?_)
    · omega
    · skip
      refine mo_thrS (pc := 35) (names := mo_nm) (text := "no such order, escort or venue") X Y hlf (by decide +kernel) mo_fitN mo_wq_X4_73 mo_wz_IndexOutOfBoundsException (by decide) mo_hatI mo_vtI dX4_plan_35 dX4_plan_38 dX4_plan_39 dX4_plan_41 dX4_plan_44 (by decide) (Nat.le_of_ble_eq_true rfl) (by decide) (by decide) (fun t9 h9 => ?_)
      exact ⟨rfl, fun a q => rfl, h9, Or.inl ⟨rfl, by omega⟩⟩
    · skip
      refine mo_al0 (pc := 23) X dX4_plan_23 ?_
      refine mo_f_X4_12 (pc := 24) X dX4_plan_24 (mo_Ms_o hx) (mo_Ms_p0 hx) ?_
      refine mo_il5 (pc := 27) X dX4_plan_27 ?_
      refine mo_cVI (pc := 29) (As := [_]) X mo_k_X4_140 mo_y_yX2_hasVenue rfl dX4_plan_29 (ct2_hasVenue (mo_Ms_r0 hx) hv (by omega)) (mo_St_o (mo_Ms_r0 hx)) rfl (by decide) (by decide) (Nat.le_of_ble_eq_true rfl) ?_
      rintro r_29 _ ⟨h_29, rfl⟩
      refine mo_if_ne (pc := 32) (tgt := 45) X dX4_plan_32 (by decide) ?_ (fun c_32 => ?_) (fun c_32 => ?_)
      · omega
      · skip
        refine mo_il2 (pc := 45) X dX4_plan_45 ?_
        refine mo_cSI (pc := 46) (As := [_]) X mo_k_X4_145 mo_y_yX4_isWeek dX4_plan_46 (ct4_isWeek hw) rfl (by decide) (by decide) (Nat.le_of_ble_eq_true rfl) ?_
        rintro r_46 _ ⟨h_46, rfl⟩
        refine mo_if_eq (pc := 49) (tgt := 59) X dX4_plan_49 (by decide) ?_ (fun c_49 => ?_) (fun c_49 => ?_)
        · omega
        · skip
          refine mo_thrS (pc := 59) (names := mo_nm) (text := "week or slot is out of range") X Y hlf (by decide +kernel) mo_fitN mo_wq_X4_48 mo_wz_IllegalArgumentException (by decide) mo_hatA mo_vtA dX4_plan_59 dX4_plan_62 dX4_plan_63 dX4_plan_65 dX4_plan_68 (by decide) (Nat.le_of_ble_eq_true rfl) (by decide) (by decide) (fun t9 h9 => ?_)
          exact ⟨rfl, fun a q => rfl, h9, Or.inr (Or.inl ⟨rfl, by omega, by omega⟩)⟩
        · skip
          refine mo_il3 (pc := 52) X dX4_plan_52 ?_
          refine mo_cSI (pc := 53) (As := [_]) X mo_k_X4_148 mo_y_yX4_isSlot dX4_plan_53 (ct4_isSlot hq) rfl (by decide) (by decide) (Nat.le_of_ble_eq_true rfl) ?_
          rintro r_53 _ ⟨h_53, rfl⟩
          refine mo_if_ne (pc := 56) (tgt := 69) X dX4_plan_56 (by decide) ?_ (fun c_56 => ?_) (fun c_56 => ?_)
          · omega
          · skip
            obtain ⟨an, rfl⟩ := Int.eq_ofNat_of_zero_le (show 0 ≤ a by omega)
            obtain ⟨wn, rfl⟩ := Int.eq_ofNat_of_zero_le (show 0 ≤ w by omega)
            obtain ⟨qn, rfl⟩ := Int.eq_ofNat_of_zero_le (show 0 ≤ q by omega)
            obtain ⟨en, rfl⟩ := Int.eq_ofNat_of_zero_le (show 0 ≤ e by omega)
            obtain ⟨vn, rfl⟩ := Int.eq_ofNat_of_zero_le (show 0 ≤ v by omega)
            refine mo_al0 (pc := 69) X dX4_plan_69 ?_
            refine mo_il1 (pc := 70) X dX4_plan_70 ?_
            refine mo_il2 (pc := 71) X dX4_plan_71 ?_
            refine mo_il3 (pc := 72) X dX4_plan_72 ?_
            refine mo_il4 (pc := 73) X dX4_plan_73 ?_
            refine mo_il5 (pc := 75) X dX4_plan_75 ?_
            refine mo_cVI (pc := 77) (As := [_, _, _, _, _]) X mo_k_X4_153 mo_y_yX4_reasonAgainst rfl dX4_plan_77 (ct4_reasonAgainst (o := an) (w := wn) (q := qn) (e := en) (v := vn) hx hS hI (by omega) (by omega) (by omega) (by omega) (by omega) (by omega)) (mo_Ms_o hx) rfl (by decide) (by decide) (Nat.le_of_ble_eq_true rfl) ?_
            rintro r_77 M_77 ⟨h_77, f_77⟩
            have hrb := mo_rs_b8 g an wn qn en vn
            rw [← h_77] at hrb
            refine mo_if_eq (pc := 80) (tgt := 93) X dX4_plan_80 (by decide) ?_ (fun c_80 => ?_) (fun c_80 => ?_)
            · omega
            · skip
              refine mo_toN X Y (fun κ X Y => ?_)
              have hC : mo_CI G M_77 x g n T sv S s := mo_CI_up hC (mo_SR_fr hS fun a a1 a2 => f_77 a (by omega)) fun a a1 a2 => f_77 a (by omega)
              have hx := hC.1
              have hg := hC.2.1
              have hS := hC.2.2.1
              have h5 := hC.2.2.2.1
              have h7 : g 7 < 60 := by
                have e := h_77.symm.trans c_80
                exact mo_rs_7 hI e
              refine mo_al0 (pc := 93) X dX4_plan_93 ?_
              refine mo_callVr (pc := 94) (As := []) X mo_k_X4_63 mo_y_yX4_save rfl dX4_plan_94 (ct4_save (n := sv) (s := s) hx hg hsv h5 hS hI) (mo_Ms_o hx) rfl (by decide) (by decide) (Nat.le_of_ble_eq_true rfl) (mo_rm0 κ) ?_
              rintro v1 G1 M1 t1 ⟨rfl, rfl, hq⟩
              show mo_V κ 0 0 _ _ _ _ _ _
              obtain ⟨⟨s9, hC1⟩, hG1, hF1⟩ := mo_CI_sv hC hq hsv
              have hx := hC1.1
              have hS1 := hC1.2.2.1
              refine mo_al0 (pc := 97) X dX4_plan_97 ?_
              refine mo_f_X4_12 (pc := 98) X dX4_plan_98 (mo_Ms_o hx) (mo_Ms_p0 hx) ?_
              refine mo_il1 (pc := 101) X dX4_plan_101 ?_
              refine mo_il2 (pc := 102) X dX4_plan_102 ?_
              refine mo_il3 (pc := 103) X dX4_plan_103 ?_
              refine mo_il4 (pc := 104) X dX4_plan_104 ?_
              refine mo_il5 (pc := 106) X dX4_plan_106 ?_
              refine mo_cVI (pc := 108) (As := [_, _, _, _, _]) X mo_k_X4_159 mo_y_yX2_keepMeeting rfl dX4_plan_108 (ct2_keepMeeting (mo_Ms_r0 hx) hS1 hI (by omega) (by omega)) (mo_St_o (mo_Ms_r0 hx)) rfl (by decide) (by decide) (Nat.le_of_ble_eq_true rfl) ?_
              rintro r_9 M_9 ⟨u_9, s_9, f_9⟩
              refine mo_wd (k2 := 1) (n2 := 6) (Nat.zero_le _) (Nat.zero_le _) ?_
              refine mo_iret (pc := 111) X Y rfl dX4_plan_111 ⟨hG1, rfl, by omega, by omega, by simp only [Int.toNat_natCast]; rw [← h_77]; exact c_80, ?_, fun a ha => Eq.trans (f_9 a (by omega)) ((hF1 a ha).trans (f_77 a (by omega))), s9, mo_CI_up hC1 s_9 fun a a1 a2 => f_9 a (by omega)⟩
              rw [u_9]
            · skip
              refine mo_thrS (pc := 83) (names := mo_nm) (text := "the meeting cannot be planned") X Y hlf (by decide +kernel) mo_fitN mo_wq_X4_58 mo_wz_IllegalStateException (by decide) mo_hatT mo_vtT dX4_plan_83 dX4_plan_86 dX4_plan_87 dX4_plan_89 dX4_plan_92 (by decide) (Nat.le_of_ble_eq_true rfl) (by decide) (by decide) (fun t9 h9 => ?_)
              exact ⟨rfl, fun a q => f_77 a q, h9, Or.inr (Or.inr ⟨rfl, by omega, by omega, by simp only [Int.toNat_natCast]; rw [← h_77]; exact c_80⟩)⟩
          · skip
            refine mo_thrS (pc := 59) (names := mo_nm) (text := "week or slot is out of range") X Y hlf (by decide +kernel) mo_fitN mo_wq_X4_48 mo_wz_IllegalArgumentException (by decide) mo_hatA mo_vtA dX4_plan_59 dX4_plan_62 dX4_plan_63 dX4_plan_65 dX4_plan_68 (by decide) (Nat.le_of_ble_eq_true rfl) (by decide) (by decide) (fun t9 h9 => ?_)
            exact ⟨rfl, fun a q => rfl, h9, Or.inr (Or.inl ⟨rfl, by omega, by omega⟩)⟩
      · skip
        refine mo_thrS (pc := 35) (names := mo_nm) (text := "no such order, escort or venue") X Y hlf (by decide +kernel) mo_fitN mo_wq_X4_73 mo_wz_IndexOutOfBoundsException (by decide) mo_hatI mo_vtI dX4_plan_35 dX4_plan_38 dX4_plan_39 dX4_plan_41 dX4_plan_44 (by decide) (Nat.le_of_ble_eq_true rfl) (by decide) (by decide) (fun t9 h9 => ?_)
        exact ⟨rfl, fun a q => rfl, h9, Or.inl ⟨rfl, by omega⟩⟩
set_option maxHeartbeats 4000000 in
set_option maxRecDepth 100000 in
theorem ct4_tell {lf : Launch} {ρf : mo_E} {G : mo_G} {M : mo_M} {t : Nat} (hlf : lf.stackTraces = false) {x n sv s : Nat} {g T : Nat → Int} {S : Nat → Nat → Int} {B : Int} (hC : mo_CI G M x g n T sv S s) (hI : mo_Iv g B) (hB : B ≤ 700000000) (hsv : sv ≤ 4) {o pl v : Int} (ho : mo_In o) (hv : mo_In v) (hpl : pl = mo_ff (fun k => decide (mo_fld g k 0 = o)) (mo_nk g)) : mo_Cv lf ρf yX4_tell cX4_tell 4 (some .int) 6 1 6 [.ref x, mo_iv o, mo_iv v] G M t (fun u G' M' t' => (G'.1 = G.1 ∧ ∀ b, b ≠ x + 39 → G'.2 b = G.2 b) ∧ t' = t ∧ (pl ≠ -1) ∧ (mo_op g pl.toNat = true) ∧ u = some (mo_iv (mo_ow (if v = 0 then mo_ms g pl.toNat else mo_hd g pl.toNat) (mo_fld g pl.toNat 1).toNat (g 0).toNat)) ∧ (∀ a, mo_oz x a → M' a = M a) ∧ ∃ s', mo_CI G' M' x ((if v = 0 then mo_ms g pl.toNat else mo_hd g pl.toNat)) n T (mo_svq sv + 1) (mo_Sn sv g S) s') (fun E G' M' t' => G' = G ∧ (M' = M) ∧ t ≤ t' ∧ ((E = mo_IOE ∧ ¬ (pl ≠ -1)) ∨ (E = mo_ISE ∧ (pl ≠ -1) ∧ ¬ (mo_op g pl.toNat = true)))) := by
  refine mo_ofWX (ls0 := [some (.ref x), some (mo_iv o), some (mo_iv v), none]) (by decide) rfl (Nat.le_of_ble_eq_true rfl) ?_
  intro κ X Y
  have X : mo_Cx κ lf ρf cX4_tell 4 RX4 (some .int) 6 := X
  obtain ⟨hx, hg, hS, h5, hSv, ht, hT⟩ := id hC
  obtain ⟨hI0, hI1, hI2, hI3, hI4, hI5, hI6, hI7, hIh, hIa, hIe, hIm, hIs, hIl, hIw, hIr, hIt, hIs2, hIs3, hIz⟩ := id hI
  obtain ⟨s0, s1, s2, s3, s4, s5, sH, sA, sE, sM, sS, sL, sW, sRo, sF⟩ := id hS
  have hnk : ((mo_nk g : Nat) : Int) = g 7 := by unfold mo_nk; omega
  have hplb : pl = -1 ∨ (0 ≤ pl ∧ pl < g 7) := by
    rw [hpl]
    rcases mo_ff_cases (fun k => decide (mo_fld g k 0 = o)) (mo_nk g) with ⟨pf1, pf2⟩ | ⟨pk, pf1, pf2, pf3, pf4⟩
    · exact Or.inl pf1
    · exact Or.inr (by omega)
  refine mo_al0 (pc := 0) X dX4_tell_0 ?_
  refine mo_f_X4_12 (pc := 1) X dX4_tell_1 (mo_Ms_o hx) (mo_Ms_p0 hx) ?_
  refine mo_il1 (pc := 4) X dX4_tell_4 ?_
  refine mo_cVI (pc := 5) (As := [_]) X mo_k_X4_173 mo_y_yX2_placeOf rfl dX4_tell_5 (ct2_placeOf (mo_Ms_r0 hx) hS hI (by omega) ho) (mo_St_o (mo_Ms_r0 hx)) rfl (by decide) (by decide) (Nat.le_of_ble_eq_true rfl) ?_
  rintro r_5 _ ⟨h_5, rfl⟩
  rw [← hpl] at h_5
  have h_5 := h_5.symm
  subst h_5
  refine mo_is3 (pc := 8) X dX4_tell_8 rfl (by decide) ?_
  refine mo_il3 (pc := 9) X dX4_tell_9 ?_
  refine mo_iconst (pc := 10) X dX4_tell_10 ?_
  refine mo_ic_ne (pc := 11) (tgt := 24) X dX4_tell_11 (by decide) ?_ ?_ (fun c_11 => ?_) (fun c_11 => ?_)
  · omega
  · omega
  · skip
    obtain ⟨pk, rfl⟩ := Int.eq_ofNat_of_zero_le (show 0 ≤ pl by omega)
    refine mo_al0 (pc := 24) X dX4_tell_24 ?_
    refine mo_f_X4_12 (pc := 25) X dX4_tell_25 (mo_Ms_o hx) (mo_Ms_p0 hx) ?_
    refine mo_il3 (pc := 28) X dX4_tell_28 ?_
    refine mo_cVI (pc := 29) (As := [_]) X mo_k_X4_187 mo_y_yX2_isOpen rfl dX4_tell_29 (ct2_isOpen (k := pk) (mo_Ms_r0 hx) hS hI (by omega) (by omega)) (mo_St_o (mo_Ms_r0 hx)) rfl (by decide) (by decide) (Nat.le_of_ble_eq_true rfl) ?_
    rintro r_29 _ ⟨h_29, rfl⟩
    refine mo_if_ne (pc := 32) (tgt := 45) X dX4_tell_32 (by decide) ?_ (fun c_32 => ?_) (fun c_32 => ?_)
    · omega
    · skip
      refine mo_toN X Y (fun κ X Y => ?_)
      refine mo_al0 (pc := 45) X dX4_tell_45 ?_
      refine mo_callVr (pc := 46) (As := []) X mo_k_X4_63 mo_y_yX4_save rfl dX4_tell_46 (ct4_save (n := sv) (s := s) hx hg hsv h5 hS hI) (mo_Ms_o hx) rfl (by decide) (by decide) (Nat.le_of_ble_eq_true rfl) (mo_rm0 κ) ?_
      rintro v1 G1 M1 t1 ⟨rfl, rfl, hq⟩
      show mo_V κ 0 0 _ _ _ _ _ _
      obtain ⟨⟨s9, hC1⟩, hG1, hF1⟩ := mo_CI_sv hC hq hsv
      have hx := hC1.1
      have hS1 := hC1.2.2.1
      refine mo_al0 (pc := 49) X dX4_tell_49 ?_
      refine mo_f_X4_12 (pc := 50) X dX4_tell_50 (mo_Ms_o hx) (mo_Ms_p0 hx) ?_
      refine mo_il3 (pc := 53) X dX4_tell_53 ?_
      refine mo_il2 (pc := 54) X dX4_tell_54 ?_
      refine mo_if_eq (pc := 55) (tgt := 62) X dX4_tell_55 (by decide) ?_ (fun c_55 => ?_) (fun c_55 => ?_)
      · omega
      · skip
        refine mo_iconst (pc := 62) X dX4_tell_62 ?_
        refine mo_cVV (pc := 63) (As := [_, _]) X mo_k_X4_192 mo_y_yX2_settle rfl dX4_tell_63 (ct2_settle2 (k := pk) (mo_Ms_r0 hx) hS1 hI (by omega) (by omega)) (mo_St_o (mo_Ms_r0 hx)) rfl (by decide) (by decide) (Nat.le_of_ble_eq_true rfl) ?_
        rintro M_63 ⟨s_63, f_63⟩
        obtain ⟨g2, hg2⟩ : ∃ g2, g2 = mo_ms g pk := ⟨_, rfl⟩
        rw [← hg2] at s_63
        have hf1 : mo_fld g2 pk 1 = mo_fld g pk 1 := by
          rw [hg2]
          rw [mo_ms_f (hIt pk (by omega)) hI4.2, if_neg (by omega)]
        have hf0 : g2 0 = g 0 := by
          rw [hg2]
          exact mo_ms_lo ⟨by omega, by omega, by omega⟩
        have hf7 : g2 7 = g 7 := by
          rw [hg2]
          exact mo_ms_lo ⟨by omega, by omega, by omega⟩
        have hI2 : mo_Iv g2 (B + 1) := by
          rw [hg2]
          exact mo_Iv_ms hI (by omega)
        have hgi : (if v = 0 then mo_ms g pk else mo_hd g pk) = g2 := by
          rw [if_pos c_55]
          exact hg2.symm
        have hmb := hIt pk (by omega)
        unfold mo_Mt at hmb
        have hw4 : M_63 (x + 1) 4 = g 0 := by
          obtain ⟨-, -, -, -, t4, -⟩ := id s_63
          rw [t4, hf0]
        refine mo_al0 (pc := 66) X dX4_tell_66 ?_
        refine mo_f_X4_12 (pc := 67) X dX4_tell_67 (mo_Ms_o hx) (mo_Ms_p0 hx) ?_
        refine mo_al0 (pc := 70) X dX4_tell_70 ?_
        refine mo_f_X4_12 (pc := 71) X dX4_tell_71 (mo_Ms_o hx) (mo_Ms_p0 hx) ?_
        refine mo_il3 (pc := 74) X dX4_tell_74 ?_
        refine mo_iconst (pc := 75) X dX4_tell_75 ?_
        refine mo_cVI (pc := 76) (As := [_, _]) X mo_k_X4_178 mo_y_yX2_fact rfl dX4_tell_76 (ct2_fld (g := g2) (k := pk) (j := 0) (q := 1) (mo_Ms_r0 hx) s_63 (by omega) (by omega) (by omega) rfl) (mo_St_o (mo_Ms_r0 hx)) rfl (by decide) (by decide) (Nat.le_of_ble_eq_true rfl) ?_
        rintro r_76 _ ⟨u_76, rfl⟩
        obtain rfl : r_76 = ((mo_fld g pk 1).toNat : Nat) := by omega
        refine mo_al0 (pc := 79) X dX4_tell_79 ?_
        refine mo_f_X4_12 (pc := 80) X dX4_tell_80 (mo_Ms_o hx) (mo_Ms_p0 hx) ?_
        refine mo_f_X4_195 (pc := 83) X dX4_tell_83 (mo_St_o (mo_Ms_r0 hx)) ?_
        rw [hw4, show g 0 = (((g 0).toNat : Nat) : Int) by omega]
        refine mo_cVI (pc := 86) (As := [_, _]) X mo_k_X4_198 mo_y_yX2_debt rfl dX4_tell_86 (ct2_debt (o := (mo_fld g pk 1).toNat) (w := (g 0).toNat) (mo_Ms_r0 hx) s_63 hI2 (by omega) (by omega) (by omega)) (mo_St_o (mo_Ms_r0 hx)) rfl (by decide) (by decide) (Nat.le_of_ble_eq_true rfl) ?_
        rintro r_86 _ ⟨u_86, rfl⟩
        refine mo_wd (k2 := 1) (n2 := 6) (Nat.zero_le _) (Nat.zero_le _) ?_
        refine mo_iret (pc := 89) X Y rfl dX4_tell_89 ⟨hG1, rfl, by omega, by simp only [Int.toNat_natCast]; rcases h_29 with q | q; { exact q.2 }; { exfalso; omega }, ?_, fun a ha => Eq.trans (f_63 a (by omega)) (hF1 a ha), s9, by simp only [Int.toNat_natCast]; rw [hgi]; exact mo_CI_up hC1 s_63 fun a a1 a2 => f_63 a (by omega)⟩
        simp only [Int.toNat_natCast]
        rw [hgi, u_86]
      · skip
        refine mo_iconst (pc := 58) X dX4_tell_58 ?_
        refine mo_goto (pc := 59) (tgt := 63) X dX4_tell_59 (by decide) ?_
        refine mo_cVV (pc := 63) (As := [_, _]) X mo_k_X4_192 mo_y_yX2_settle rfl dX4_tell_63 (ct2_settle1 (k := pk) (mo_Ms_r0 hx) hS1 hI (by omega) (by omega)) (mo_St_o (mo_Ms_r0 hx)) rfl (by decide) (by decide) (Nat.le_of_ble_eq_true rfl) ?_
        rintro M_63 ⟨s_63, f_63⟩
        obtain ⟨g2, hg2⟩ : ∃ g2, g2 = mo_hd g pk := ⟨_, rfl⟩
        rw [← hg2] at s_63
        have hf1 : mo_fld g2 pk 1 = mo_fld g pk 1 := by
          rw [hg2]
          rw [mo_hd_f (hIt pk (by omega)) hI4.2 hI5.2, if_neg (by omega)]
        have hf0 : g2 0 = g 0 := by
          rw [hg2]
          exact mo_hd_lo ⟨by omega, by omega, by omega, by omega⟩
        have hf7 : g2 7 = g 7 := by
          rw [hg2]
          exact mo_hd_lo ⟨by omega, by omega, by omega, by omega⟩
        have hI2 : mo_Iv g2 (B + 1) := by
          rw [hg2]
          exact mo_Iv_hd hI (by omega)
        have hgi : (if v = 0 then mo_ms g pk else mo_hd g pk) = g2 := by
          rw [if_neg c_55]
          exact hg2.symm
        have hmb := hIt pk (by omega)
        unfold mo_Mt at hmb
        have hw4 : M_63 (x + 1) 4 = g 0 := by
          obtain ⟨-, -, -, -, t4, -⟩ := id s_63
          rw [t4, hf0]
        refine mo_al0 (pc := 66) X dX4_tell_66 ?_
        refine mo_f_X4_12 (pc := 67) X dX4_tell_67 (mo_Ms_o hx) (mo_Ms_p0 hx) ?_
        refine mo_al0 (pc := 70) X dX4_tell_70 ?_
        refine mo_f_X4_12 (pc := 71) X dX4_tell_71 (mo_Ms_o hx) (mo_Ms_p0 hx) ?_
        refine mo_il3 (pc := 74) X dX4_tell_74 ?_
        refine mo_iconst (pc := 75) X dX4_tell_75 ?_
        refine mo_cVI (pc := 76) (As := [_, _]) X mo_k_X4_178 mo_y_yX2_fact rfl dX4_tell_76 (ct2_fld (g := g2) (k := pk) (j := 0) (q := 1) (mo_Ms_r0 hx) s_63 (by omega) (by omega) (by omega) rfl) (mo_St_o (mo_Ms_r0 hx)) rfl (by decide) (by decide) (Nat.le_of_ble_eq_true rfl) ?_
        rintro r_76 _ ⟨u_76, rfl⟩
        obtain rfl : r_76 = ((mo_fld g pk 1).toNat : Nat) := by omega
        refine mo_al0 (pc := 79) X dX4_tell_79 ?_
        refine mo_f_X4_12 (pc := 80) X dX4_tell_80 (mo_Ms_o hx) (mo_Ms_p0 hx) ?_
        refine mo_f_X4_195 (pc := 83) X dX4_tell_83 (mo_St_o (mo_Ms_r0 hx)) ?_
        rw [hw4, show g 0 = (((g 0).toNat : Nat) : Int) by omega]
        refine mo_cVI (pc := 86) (As := [_, _]) X mo_k_X4_198 mo_y_yX2_debt rfl dX4_tell_86 (ct2_debt (o := (mo_fld g pk 1).toNat) (w := (g 0).toNat) (mo_Ms_r0 hx) s_63 hI2 (by omega) (by omega) (by omega)) (mo_St_o (mo_Ms_r0 hx)) rfl (by decide) (by decide) (Nat.le_of_ble_eq_true rfl) ?_
        rintro r_86 _ ⟨u_86, rfl⟩
        refine mo_wd (k2 := 1) (n2 := 6) (Nat.zero_le _) (Nat.zero_le _) ?_
        refine mo_iret (pc := 89) X Y rfl dX4_tell_89 ⟨hG1, rfl, by omega, by simp only [Int.toNat_natCast]; rcases h_29 with q | q; { exact q.2 }; { exfalso; omega }, ?_, fun a ha => Eq.trans (f_63 a (by omega)) (hF1 a ha), s9, by simp only [Int.toNat_natCast]; rw [hgi]; exact mo_CI_up hC1 s_63 fun a a1 a2 => f_63 a (by omega)⟩
        simp only [Int.toNat_natCast]
        rw [hgi, u_86]
    · skip
      refine mo_thrS (pc := 35) (names := mo_nm) (text := "the meeting is not planned, or not in the present week") X Y hlf (by decide +kernel) mo_fitN mo_wq_X4_58 mo_wz_IllegalStateException (by decide) mo_hatT mo_vtT dX4_tell_35 dX4_tell_38 dX4_tell_39 dX4_tell_41 dX4_tell_44 (by decide) (Nat.le_of_ble_eq_true rfl) (by decide) (by decide) (fun t9 h9 => ?_)
      exact ⟨rfl, rfl, h9, Or.inr ⟨rfl, by omega, by simp only [Int.toNat_natCast]; rcases h_29 with q | q; { exfalso; omega }; { exact q.2 }⟩⟩
  · skip
    refine mo_thrS (pc := 14) (names := mo_nm) (text := "no such meeting is kept") X Y hlf (by decide +kernel) mo_fitN mo_wq_X4_73 mo_wz_IndexOutOfBoundsException (by decide) mo_hatI mo_vtI dX4_tell_14 dX4_tell_17 dX4_tell_18 dX4_tell_20 dX4_tell_23 (by decide) (Nat.le_of_ble_eq_true rfl) (by decide) (by decide) (fun t9 h9 => ?_)
    exact ⟨rfl, rfl, h9, Or.inl ⟨rfl, by omega⟩⟩
