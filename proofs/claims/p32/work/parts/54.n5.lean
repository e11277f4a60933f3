theorem mo_rs_b8 (g : Nat → Int) (o : Nat) (w : Int) (q e v : Nat) : 0 ≤ mo_rs g o w q e v ∧ mo_rs g o w q e v ≤ 8 := by
  have hwe : 0 ≤ mo_we g w e q ∧ mo_we g w e q ≤ 6 := by
    unfold mo_we
    repeat' split
    all_goals omega
  unfold mo_rs
  repeat' split
  all_goals omega
theorem mo_rs_7 {g : Nat → Int} {B : Int} {o : Nat} {w : Int} {q e v : Nat} (hI : mo_Iv g B) (h : mo_rs g o w q e v = 0) : g 7 < 60 := by
  have h7 := hI.2.2.2.2.2.2.2.1
  unfold mo_rs at h
  repeat' split at h
  all_goals omega
set_option maxHeartbeats 4000000 in
set_option maxRecDepth 100000 in
theorem nt4_addOrder {lf : Launch} {ρf : mo_E} {G : mo_G} {M : mo_M} {t : Nat} {x n sv s : Nat} {g T : Nat → Int} {S : Nat → Nat → Int} {B : Int} (hC : mo_CI G M x g n T sv S s) (hI : mo_Iv g B) (hB : B ≤ 700000000) (hsv : sv ≤ 4) {p v : Int} (hp : mo_In p) (hv : mo_In v) (hok : ((0 ≤ p ∧ p ≤ 7) ∧ (0 ≤ v ∧ v < 2 ^ (g 6).toNat)) ∧ (g 4 < 8)) : mo_Ct lf ρf yX4_addOrder cX4_addOrder 3 (some .int) 6 0 0 [.ref x, mo_iv p, mo_iv v] G M t (fun u G' M' t' => (G'.1 = G.1 ∧ ∀ b, b ≠ x + 39 → G'.2 b = G.2 b) ∧ t' = t ∧ ((0 ≤ p ∧ p ≤ 7) ∧ (0 ≤ v ∧ v < 2 ^ (g 6).toNat)) ∧ (g 4 < 8) ∧ u = some (mo_iv (g 4)) ∧ (∀ a, mo_oz x a → M' a = M a) ∧ ∃ s', mo_CI G' M' x (mo_gAO g p v) n T (mo_svq sv + 1) (mo_Sn sv g S) s') := by
  refine mo_ofW (ls0 := [some (.ref x), some (mo_iv p), some (mo_iv v)]) (by decide) rfl (Nat.le_of_ble_eq_true rfl) ?_
  intro κ X Y
  have X : mo_Cx κ lf ρf cX4_addOrder 3 RX4 (some .int) 6 := X
  obtain ⟨hx, hg, hS, h5, hSv, ht, hT⟩ := id hC
  obtain ⟨hI0, hI1, hI2, hI3, hI4, hI5, hI6, hI7, hIh, hIa, hIe, hIm, hIs, hIl, hIw, hIr, hIt, hIs2, hIs3, hIz⟩ := id hI
  obtain ⟨s0, s1, s2, s3, s4, s5, sH, sA, sE, sM, sS, sL, sW, sRo, sF⟩ := id hS
  refine mo_il1 (pc := 0) X dX4_addOrder_0 ?_
  refine mo_cSI (pc := 1) (As := [_]) X mo_k_X4_41 mo_y_yX4_isHours dX4_addOrder_1 (ct4_isHours hp) rfl (by decide) (by decide) (Nat.le_of_ble_eq_true rfl) ?_
  rintro r_1 _ ⟨h_1, rfl⟩
  refine mo_if_eq (pc := 4) (tgt := 18) X dX4_addOrder_4 (by decide) ?_ (fun c_4 => ?_) (fun c_4 => ?_)
  · omega
  · skip
    exfalso
    omega
  · skip
    refine mo_al0 (pc := 7) X dX4_addOrder_7 ?_
    refine mo_f_X4_12 (pc := 8) X dX4_addOrder_8 (mo_Ms_o hx) (mo_Ms_p0 hx) ?_
    refine mo_il2 (pc := 11) X dX4_addOrder_11 ?_
    refine mo_cVI (pc := 12) (As := [_]) X mo_k_X4_45 mo_y_yX2_hasAllVenues rfl dX4_addOrder_12 (ct2_hasAllVenues (mo_Ms_r0 hx) hv (by omega)) (mo_St_o (mo_Ms_r0 hx)) rfl (by decide) (by decide) (Nat.le_of_ble_eq_true rfl) ?_
    rintro r_12 _ ⟨h_12, rfl⟩
    rw [s2] at h_12
    refine mo_if_ne (pc := 15) (tgt := 28) X dX4_addOrder_15 (by decide) ?_ (fun c_15 => ?_) (fun c_15 => ?_)
    · omega
    · skip
      refine mo_al0 (pc := 28) X dX4_addOrder_28 ?_
      refine mo_f_X4_12 (pc := 29) X dX4_addOrder_29 (mo_Ms_o hx) (mo_Ms_p0 hx) ?_
      refine mo_f_X4_55 (pc := 32) X dX4_addOrder_32 (mo_St_o (mo_Ms_r0 hx)) ?_
      rw [s0]
      refine mo_bipush (pc := 35) X dX4_addOrder_35 (by decide) ?_
      refine mo_ic_lt (pc := 37) (tgt := 50) X dX4_addOrder_37 (by decide) ?_ ?_ (fun c_37 => ?_) (fun c_37 => ?_)
      · omega
      · omega
      · skip
        refine mo_al0 (pc := 50) X dX4_addOrder_50 ?_
        refine mo_callVr (pc := 51) (As := []) X mo_k_X4_63 mo_y_yX4_save rfl dX4_addOrder_51 (ct4_save (n := sv) (s := s) hx hg hsv h5 hS hI) (mo_Ms_o hx) rfl (by decide) (by decide) (Nat.le_of_ble_eq_true rfl) (mo_rm0 κ) ?_
        rintro v1 G1 M1 t1 ⟨rfl, rfl, hq⟩
        show mo_V κ 0 0 _ _ _ _ _ _
        obtain ⟨⟨s9, hC1⟩, hG1, hF1⟩ := mo_CI_sv hC hq hsv
        have hx := hC1.1
        have hS1 := hC1.2.2.1
        refine mo_al0 (pc := 54) X dX4_addOrder_54 ?_
        refine mo_f_X4_12 (pc := 55) X dX4_addOrder_55 (mo_Ms_o hx) (mo_Ms_p0 hx) ?_
        refine mo_il1 (pc := 58) X dX4_addOrder_58 ?_
        refine mo_il2 (pc := 59) X dX4_addOrder_59 ?_
        refine mo_cVI (pc := 60) (As := [_, _]) X mo_k_X4_66 mo_y_yX2_enterOrder rfl dX4_addOrder_60 (ct2_enterOrder (mo_Ms_r0 hx) hS1 hI (by omega) (by omega)) (mo_St_o (mo_Ms_r0 hx)) rfl (by decide) (by decide) (Nat.le_of_ble_eq_true rfl) ?_
        rintro r_9 M_9 ⟨u_9, s_9, f_9⟩
        refine mo_iret (pc := 63) X Y rfl dX4_addOrder_63 ⟨hG1, rfl, by omega, by omega, ?_, fun a ha => Eq.trans (f_9 a (by omega)) (hF1 a ha), s9, mo_CI_up hC1 s_9 fun a a1 a2 => f_9 a (by omega)⟩
        rw [u_9]
      · skip
        exfalso
        omega
    · skip
      exfalso
      omega
set_option maxHeartbeats 4000000 in
set_option maxRecDepth 100000 in
theorem nt4_change {lf : Launch} {ρf : mo_E} {G : mo_G} {M : mo_M} {t : Nat} {x n sv s : Nat} {g T : Nat → Int} {S : Nat → Nat → Int} {B : Int} (hC : mo_CI G M x g n T sv S s) (hI : mo_Iv g B) (hB : B ≤ 700000000) (hsv : sv ≤ 4) {o w h : Int} (ho : mo_In o) (hw : mo_In w) (hh : mo_In h) (hok : (0 ≤ o ∧ o < g 4) ∧ ((g 0 ≤ w ∧ w ≤ 19) ∧ (0 ≤ h ∧ h ≤ 7))) : mo_Ct lf ρf yX4_change cX4_change 5 (some .int) 6 0 0 [.ref x, mo_iv o, mo_iv w, mo_iv h] G M t (fun u G' M' t' => (G'.1 = G.1 ∧ ∀ b, b ≠ x + 39 → G'.2 b = G.2 b) ∧ t' = t ∧ (0 ≤ o ∧ o < g 4) ∧ ((g 0 ≤ w ∧ w ≤ 19) ∧ (0 ≤ h ∧ h ≤ 7)) ∧ u = some (mo_iv (g (8 + 20 * o.toNat + w.toNat))) ∧ (∀ a, mo_oz x a → M' a = M a) ∧ ∃ s', mo_CI G' M' x (mo_gCH g o.toNat w.toNat h) n T (mo_svq sv + 1) (mo_Sn sv g S) s') := by
  refine mo_ofW (ls0 := [some (.ref x), some (mo_iv o), some (mo_iv w), some (mo_iv h), none]) (by decide) rfl (Nat.le_of_ble_eq_true rfl) ?_
  intro κ X Y
  have X : mo_Cx κ lf ρf cX4_change 5 RX4 (some .int) 6 := X
  obtain ⟨hx, hg, hS, h5, hSv, ht, hT⟩ := id hC
  obtain ⟨hI0, hI1, hI2, hI3, hI4, hI5, hI6, hI7, hIh, hIa, hIe, hIm, hIs, hIl, hIw, hIr, hIt, hIs2, hIs3, hIz⟩ := id hI
  obtain ⟨s0, s1, s2, s3, s4, s5, sH, sA, sE, sM, sS, sL, sW, sRo, sF⟩ := id hS
  refine mo_al0 (pc := 0) X dX4_change_0 ?_
  refine mo_f_X4_12 (pc := 1) X dX4_change_1 (mo_Ms_o hx) (mo_Ms_p0 hx) ?_
  refine mo_il1 (pc := 4) X dX4_change_4 ?_
  refine mo_cVI (pc := 5) (As := [_]) X mo_k_X4_70 mo_y_yX2_hasOrder rfl dX4_change_5 (ct2_hasOrder (mo_Ms_r0 hx) ho (by omega)) (mo_St_o (mo_Ms_r0 hx)) rfl (by decide) (by decide) (Nat.le_of_ble_eq_true rfl) ?_
  rintro r_5 _ ⟨h_5, rfl⟩
  refine mo_if_ne (pc := 8) (tgt := 21) X dX4_change_8 (by decide) ?_ (fun c_8 => ?_) (fun c_8 => ?_)
  · omega
  · skip
    refine mo_al0 (pc := 21) X dX4_change_21 ?_
    refine mo_il2 (pc := 22) X dX4_change_22 ?_
    refine mo_il3 (pc := 23) X dX4_change_23 ?_
    refine mo_cVI (pc := 24) (As := [_, _]) X mo_k_X4_78 mo_y_yX4_mayChange rfl dX4_change_24 (ct4_mayChange hx hS hI (by omega) hw hh) (mo_Ms_o hx) rfl (by decide) (by decide) (Nat.le_of_ble_eq_true rfl) ?_
    rintro r_24 _ ⟨h_24, rfl⟩
    refine mo_if_ne (pc := 27) (tgt := 40) X dX4_change_27 (by decide) ?_ (fun c_27 => ?_) (fun c_27 => ?_)
    · omega
    · skip
      obtain ⟨on, rfl⟩ := Int.eq_ofNat_of_zero_le (show 0 ≤ o by omega)
      obtain ⟨wn, rfl⟩ := Int.eq_ofNat_of_zero_le (show 0 ≤ w by omega)
      refine mo_al0 (pc := 40) X dX4_change_40 ?_
      refine mo_callVr (pc := 41) (As := []) X mo_k_X4_63 mo_y_yX4_save rfl dX4_change_41 (ct4_save (n := sv) (s := s) hx hg hsv h5 hS hI) (mo_Ms_o hx) rfl (by decide) (by decide) (Nat.le_of_ble_eq_true rfl) (mo_rm0 κ) ?_
      rintro v1 G1 M1 t1 ⟨rfl, rfl, hq⟩
      show mo_V κ 0 0 _ _ _ _ _ _
      obtain ⟨⟨s9, hC1⟩, hG1, hF1⟩ := mo_CI_sv hC hq hsv
      have hx := hC1.1
      have hS1 := hC1.2.2.1
      refine mo_al0 (pc := 44) X dX4_change_44 ?_
      refine mo_f_X4_12 (pc := 45) X dX4_change_45 (mo_Ms_o hx) (mo_Ms_p0 hx) ?_
      refine mo_il1 (pc := 48) X dX4_change_48 ?_
      refine mo_il2 (pc := 49) X dX4_change_49 ?_
      refine mo_cVI (pc := 50) (As := [_, _]) X mo_k_X4_84 mo_y_yX2_hoursIn rfl dX4_change_50 (ct2_hoursIn (o := on) (w := wn) (mo_Ms_r0 hx) (by omega) (by omega)) (mo_St_o (mo_Ms_r0 hx)) rfl (by decide) (by decide) (Nat.le_of_ble_eq_true rfl) ?_
      rintro r_50 _ ⟨u_50, rfl⟩
      refine mo_is4 (pc := 53) X dX4_change_53 rfl (by decide) ?_
      refine mo_al0 (pc := 55) X dX4_change_55 ?_
      refine mo_f_X4_12 (pc := 56) X dX4_change_56 (mo_Ms_o hx) (mo_Ms_p0 hx) ?_
      refine mo_il1 (pc := 59) X dX4_change_59 ?_
      refine mo_il2 (pc := 60) X dX4_change_60 ?_
      refine mo_il3 (pc := 61) X dX4_change_61 ?_
      refine mo_cVV (pc := 62) (As := [_, _, _]) X mo_k_X4_87 mo_y_yX2_setHoursFrom rfl dX4_change_62 (ct2_setHoursFrom (o := on) (w := wn) (mo_Ms_r0 hx) (by omega) (by omega)) (mo_St_o (mo_Ms_r0 hx)) rfl (by decide) (by decide) (Nat.le_of_ble_eq_true rfl) ?_
      rintro M_62 h_62
      refine mo_il4 (pc := 65) X dX4_change_65 ?_
      refine mo_iret (pc := 67) X Y rfl dX4_change_67 ⟨hG1, rfl, by omega, by omega, ?_, fun a ha => by rw [h_62, mo_ur_n (by omega), hF1 a ha], s9, mo_CI_up hC1 (by simp only [Int.toNat_natCast]; rw [h_62]; exact mo_SR_CH hS1 (by omega)) fun a a1 a2 => by rw [h_62, mo_ur_n (by omega)]⟩
      simp only [Int.toNat_natCast]
      rw [u_50, hS1.2.2.2.2.2.2.1 _ (by omega), show 8 + (20 * on + wn) = 8 + 20 * on + wn by omega]
    · skip
      exfalso
      omega
  · skip
    exfalso
    omega
set_option maxHeartbeats 4000000 in
set_option maxRecDepth 100000 in
theorem nt4_plan {lf : Launch} {ρf : mo_E} {G : mo_G} {M : mo_M} {t : Nat} {x n sv s : Nat} {g T : Nat → Int} {S : Nat → Nat → Int} {B : Int} (hC : mo_CI G M x g n T sv S s) (hI : mo_Iv g B) (hB : B ≤ 700000000) (hsv : sv ≤ 4) {a w q e v : Int} (ha : mo_In a) (hw : mo_In w) (hq : mo_In q) (he : mo_In e) (hv : mo_In v) (hok : ((0 ≤ a ∧ a < g 4) ∧ (0 ≤ e ∧ e < g 5) ∧ (0 ≤ v ∧ v < g 6)) ∧ ((0 ≤ w ∧ w ≤ 19) ∧ (0 ≤ q ∧ q ≤ 27)) ∧ (mo_rs g a.toNat w.toNat q.toNat e.toNat v.toNat = 0)) : mo_Ct lf ρf yX4_plan cX4_plan 6 (some .int) 6 0 0 [.ref x, mo_iv a, mo_iv w, mo_iv q, mo_iv e, mo_iv v] G M t (fun u G' M' t' => (G'.1 = G.1 ∧ ∀ b, b ≠ x + 39 → G'.2 b = G.2 b) ∧ t' = t ∧ ((0 ≤ a ∧ a < g 4) ∧ (0 ≤ e ∧ e < g 5) ∧ (0 ≤ v ∧ v < g 6)) ∧ ((0 ≤ w ∧ w ≤ 19) ∧ (0 ≤ q ∧ q ≤ 27)) ∧ (mo_rs g a.toNat w.toNat q.toNat e.toNat v.toNat = 0) ∧ u = some (mo_iv (g 1)) ∧ (∀ a, mo_oz x a → M' a = M a) ∧ ∃ s', mo_CI G' M' x (mo_ly g a w q e v) n T (mo_svq sv + 1) (mo_Sn sv g S) s') := by
  refine mo_ofW (ls0 := [some (.ref x), some (mo_iv a), some (mo_iv w), some (mo_iv q), some (mo_iv e), some (mo_iv v)]) (by decide) rfl (Nat.le_of_ble_eq_true rfl) ?_
  intro κ X Y
  have X : mo_Cx κ lf ρf cX4_plan 6 RX4 (some .int) 6 := X
  obtain ⟨hx, hg, hS, h5, hSv, ht, hT⟩ := id hC
  obtain ⟨hI0, hI1, hI2, hI3, hI4, hI5, hI6, hI7, hIh, hIa, hIe, hIm, hIs, hIl, hIw, hIr, hIt, hIs2, hIs3, hIz⟩ := id hI
  obtain ⟨s0, s1, s2, s3, s4, s5, sH, sA, sE, sM, sS, sL, sW, sRo, sF⟩ := id hS
  refine mo_al0 (pc := 0) X dX4_plan_0 ?_
  refine mo_f_X4_12 (pc := 1) X dX4_plan_1 (mo_Ms_o hx) (mo_Ms_p0 hx) ?_
  refine mo_il1 (pc := 4) X dX4_plan_4 ?_
  refine mo_cVI (pc := 5) (As := [_]) X mo_k_X4_70 mo_y_yX2_hasOrder rfl dX4_plan_5 (ct2_hasOrder (mo_Ms_r0 hx) ha (by omega)) (mo_St_o (mo_Ms_r0 hx)) rfl (by decide) (by decide) (Nat.le_of_ble_eq_true rfl) ?_
  rintro r_5 _ ⟨h_5, rfl⟩
  refine mo_if_eq (pc := 8) (tgt := 35) X dX4_plan_8 (by decide) ?_ (fun c_8 => ?_) (fun c_8 => ?_)
  · omega
  · skip
    exfalso
    omega
  · skip
    refine mo_al0 (pc := 11) X dX4_plan_11 ?_
    refine mo_f_X4_12 (pc := 12) X dX4_plan_12 (mo_Ms_o hx) (mo_Ms_p0 hx) ?_
    refine mo_il4 (pc := 15) X dX4_plan_15 ?_
    refine mo_cVI (pc := 17) (As := [_]) X mo_k_X4_120 mo_y_yX2_hasEscort rfl dX4_plan_17 (ct2_hasEscort (mo_Ms_r0 hx) he (by omega)) (mo_St_o (mo_Ms_r0 hx)) rfl (by decide) (by decide) (Nat.le_of_ble_eq_true rfl) ?_
    rintro r_17 _ ⟨h_17, rfl⟩
    refine mo_if_eq (pc := 20) (tgt := 35) X dX4_plan_20 (by decide) ?_ (fun c_20 => ?_) (fun c_20 => ?_)
    · omega
    · skip
      exfalso
      omega
    · skip
      refine mo_al0 (pc := 23) X dX4_plan_23 ?_
      refine mo_f_X4_12 (pc := 24) X dX4_plan_24 (mo_Ms_o hx) (mo_Ms_p0 hx) ?_
      refine mo_il5 (pc := 27) X dX4_plan_27 ?_
      refine mo_cVI (pc := 29) (As := [_]) X mo_k_X4_140 mo_y_yX2_hasVenue rfl dX4_plan_29 (ct2_hasVenue (mo_Ms_r0 hx) hv (by omega)) (mo_St_o (mo_Ms_r0 hx)) rfl (by decide) (by decide) (Nat.le_of_ble_eq_true rfl) ?_
      rintro r_29 _ ⟨h_29, rfl⟩
      refine mo_if_ne (pc := 32) (tgt := 45) X dX4_plan_32 (by decide) ?_ (fun c_32 => ?_) (fun c_32 => ?_)
      · omega
      · skip
        refine mo_il2 (pc := 45) X dX4_plan_45 ?_
        refine mo_cSI (pc := 46) (As := [_]) X mo_k_X4_145 mo_y_yX4_isWeek dX4_plan_46 (ct4_isWeek hw) rfl (by decide) (by decide) (Nat.le_of_ble_eq_true rfl) ?_
        rintro r_46 _ ⟨h_46, rfl⟩
        refine mo_if_eq (pc := 49) (tgt := 59) X dX4_plan_49 (by decide) ?_ (fun c_49 => ?_) (fun c_49 => ?_)
        · omega
        · skip
          exfalso
          omega
        · skip
          refine mo_il3 (pc := 52) X dX4_plan_52 ?_
          refine mo_cSI (pc := 53) (As := [_]) X mo_k_X4_148 mo_y_yX4_isSlot dX4_plan_53 (ct4_isSlot hq) rfl (by decide) (by decide) (Nat.le_of_ble_eq_true rfl) ?_
          rintro r_53 _ ⟨h_53, rfl⟩
          refine mo_if_ne (pc := 56) (tgt := 69) X dX4_plan_56 (by decide) ?_ (fun c_56 => ?_) (fun c_56 => ?_)
          · omega
          · skip
            obtain ⟨an, rfl⟩ := Int.eq_ofNat_of_zero_le (show 0 ≤ a by omega)
            obtain ⟨wn, rfl⟩ := Int.eq_ofNat_of_zero_le (show 0 ≤ w by omega)
            obtain ⟨qn, rfl⟩ := Int.eq_ofNat_of_zero_le (show 0 ≤ q by omega)
            obtain ⟨en, rfl⟩ := Int.eq_ofNat_of_zero_le (show 0 ≤ e by omega)
            obtain ⟨vn, rfl⟩ := Int.eq_ofNat_of_zero_le (show 0 ≤ v by omega)
            refine mo_al0 (pc := 69) X dX4_plan_69 ?_
            refine mo_il1 (pc := 70) X dX4_plan_70 ?_
            refine mo_il2 (pc := 71) X dX4_plan_71 ?_
            refine mo_il3 (pc := 72) X dX4_plan_72 ?_
            refine mo_il4 (pc := 73) X dX4_plan_73 ?_
            refine mo_il5 (pc := 75) X dX4_plan_75 ?_
            refine mo_cVI (pc := 77) (As := [_, _, _, _, _]) X mo_k_X4_153 mo_y_yX4_reasonAgainst rfl dX4_plan_77 (ct4_reasonAgainst (o := an) (w := wn) (q := qn) (e := en) (v := vn) hx hS hI (by omega) (by omega) (by omega) (by omega) (by omega) (by omega)) (mo_Ms_o hx) rfl (by decide) (by decide) (Nat.le_of_ble_eq_true rfl) ?_
            rintro r_77 M_77 ⟨h_77, f_77⟩
            have hrb := mo_rs_b8 g an wn qn en vn
            rw [← h_77] at hrb
            refine mo_if_eq (pc := 80) (tgt := 93) X dX4_plan_80 (by decide) ?_ (fun c_80 => ?_) (fun c_80 => ?_)
            · omega
            · skip
              have hC : mo_CI G M_77 x g n T sv S s := mo_CI_up hC (mo_SR_fr hS fun a a1 a2 => f_77 a (by omega)) fun a a1 a2 => f_77 a (by omega)
              have hx := hC.1
              have hg := hC.2.1
              have hS := hC.2.2.1
              have h5 := hC.2.2.2.1
              have h7 : g 7 < 60 := by
                have e := h_77.symm.trans c_80
                exact mo_rs_7 hI e
              refine mo_al0 (pc := 93) X dX4_plan_93 ?_
              refine mo_callVr (pc := 94) (As := []) X mo_k_X4_63 mo_y_yX4_save rfl dX4_plan_94 (ct4_save (n := sv) (s := s) hx hg hsv h5 hS hI) (mo_Ms_o hx) rfl (by decide) (by decide) (Nat.le_of_ble_eq_true rfl) (mo_rm0 κ) ?_
              rintro v1 G1 M1 t1 ⟨rfl, rfl, hq⟩
              show mo_V κ 0 0 _ _ _ _ _ _
              obtain ⟨⟨s9, hC1⟩, hG1, hF1⟩ := mo_CI_sv hC hq hsv
              have hx := hC1.1
              have hS1 := hC1.2.2.1
              refine mo_al0 (pc := 97) X dX4_plan_97 ?_
              refine mo_f_X4_12 (pc := 98) X dX4_plan_98 (mo_Ms_o hx) (mo_Ms_p0 hx) ?_
              refine mo_il1 (pc := 101) X dX4_plan_101 ?_
              refine mo_il2 (pc := 102) X dX4_plan_102 ?_
              refine mo_il3 (pc := 103) X dX4_plan_103 ?_
              refine mo_il4 (pc := 104) X dX4_plan_104 ?_
              refine mo_il5 (pc := 106) X dX4_plan_106 ?_
              refine mo_cVI (pc := 108) (As := [_, _, _, _, _]) X mo_k_X4_159 mo_y_yX2_keepMeeting rfl dX4_plan_108 (ct2_keepMeeting (mo_Ms_r0 hx) hS1 hI (by omega) (by omega)) (mo_St_o (mo_Ms_r0 hx)) rfl (by decide) (by decide) (Nat.le_of_ble_eq_true rfl) ?_
              rintro r_9 M_9 ⟨u_9, s_9, f_9⟩
              refine mo_iret (pc := 111) X Y rfl dX4_plan_111 ⟨hG1, rfl, by omega, by omega, by simp only [Int.toNat_natCast]; rw [← h_77]; exact c_80, ?_, fun a ha => Eq.trans (f_9 a (by omega)) ((hF1 a ha).trans (f_77 a (by omega))), s9, mo_CI_up hC1 s_9 fun a a1 a2 => f_9 a (by omega)⟩
              rw [u_9]
            · skip
              exact absurd (h_77.trans (by simpa only [Int.toNat_natCast] using hok.2.2)) c_80
          · skip
            exfalso
            omega
      · skip
        exfalso
        omega
