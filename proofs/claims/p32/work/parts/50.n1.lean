set_option maxHeartbeats 4000000 in
set_option maxRecDepth 100000 in
theorem nt4_hours {lf : Launch} {ρf : mo_E} {G : mo_G} {M : mo_M} {t : Nat} {g : Nat → Int} {B : Int} {x : Nat} (hx : mo_Ms G x) (hS : mo_SR M (x + 1) g) (hI : mo_Iv g B) (hB : B ≤ 800000000) {o w : Int} (ho : mo_In o) (hw : mo_In w) (hok : (0 ≤ o ∧ o < g 4) ∧ (0 ≤ w ∧ w ≤ 19)) : mo_Ct lf ρf yX4_hours cX4_hours 3 (some .int) 6 0 0 [.ref x, mo_iv o, mo_iv w] G M t (fun u G' M' t' => G' = G ∧ t' = t ∧ M' = M ∧ (0 ≤ o ∧ o < g 4) ∧ (0 ≤ w ∧ w ≤ 19) ∧ u = some (mo_iv (g (8 + 20 * o.toNat + w.toNat)))) := by
  refine mo_ofW (ls0 := [some (.ref x), some (mo_iv o), some (mo_iv w)]) (by decide) rfl (Nat.le_of_ble_eq_true rfl) ?_
  intro κ X Y
  have X : mo_Cx κ lf ρf cX4_hours 3 RX4 (some .int) 6 := X
  obtain ⟨hI0, hI1, hI2, hI3, hI4, hI5, hI6, hI7, -⟩ := id hI
  obtain ⟨s0, s1, s2, s3, s4, s5, sH, -⟩ := id hS
  refine mo_al0 (pc := 0) X dX4_hours_0 ?_
  refine mo_f_X4_12 (pc := 1) X dX4_hours_1 (mo_Ms_o hx) (mo_Ms_p0 hx) ?_
  refine mo_il1 (pc := 4) X dX4_hours_4 ?_
  refine mo_cVI (pc := 5) (As := [_]) X mo_k_X4_70 mo_y_yX2_hasOrder rfl dX4_hours_5 (ct2_hasOrder (mo_Ms_r0 hx) ho (by omega)) (mo_St_o (mo_Ms_r0 hx)) rfl (by decide) (by decide) (Nat.le_of_ble_eq_true rfl) ?_
  rintro r_5 _ ⟨h_5, rfl⟩
  refine mo_if_ne (pc := 8) (tgt := 21) X dX4_hours_8 (by decide) ?_ (fun c_8 => ?_) (fun c_8 => ?_)
  · omega
  · skip
    refine mo_il2 (pc := 21) X dX4_hours_21 ?_
    refine mo_cSI (pc := 22) (As := [_]) X mo_k_X4_145 mo_y_yX4_isWeek dX4_hours_22 (ct4_isWeek hw) rfl (by decide) (by decide) (Nat.le_of_ble_eq_true rfl) ?_
    rintro r_22 _ ⟨h_22, rfl⟩
    refine mo_if_ne (pc := 25) (tgt := 38) X dX4_hours_25 (by decide) ?_ (fun c_25 => ?_) (fun c_25 => ?_)
    · omega
    · skip
      refine mo_al0 (pc := 38) X dX4_hours_38 ?_
      refine mo_f_X4_12 (pc := 39) X dX4_hours_39 (mo_Ms_o hx) (mo_Ms_p0 hx) ?_
      refine mo_il1 (pc := 42) X dX4_hours_42 ?_
      refine mo_il2 (pc := 43) X dX4_hours_43 ?_
      obtain ⟨on, rfl⟩ := Int.eq_ofNat_of_zero_le (show 0 ≤ o by omega)
      obtain ⟨wn, rfl⟩ := Int.eq_ofNat_of_zero_le (show 0 ≤ w by omega)
      refine mo_cVI (pc := 44) (As := [_, _]) X mo_k_X4_84 mo_y_yX2_hoursIn rfl dX4_hours_44 (ct2_hoursIn (o := on) (w := wn) (mo_Ms_r0 hx) (by omega) (by omega)) (mo_St_o (mo_Ms_r0 hx)) rfl (by decide) (by decide) (Nat.le_of_ble_eq_true rfl) ?_
      rintro r_44 _ ⟨h_44, rfl⟩
      refine mo_iret (pc := 47) X Y rfl dX4_hours_47 ⟨rfl, rfl, rfl, by omega, by omega, ?_⟩
      simp only [Int.toNat_natCast]
      rw [h_44, sH _ (by omega), show 8 + (20 * on + wn) = 8 + 20 * on + wn by omega]
    · skip
      exfalso
      omega
  · skip
    exfalso
    omega
set_option maxHeartbeats 4000000 in
set_option maxRecDepth 100000 in
theorem nt4_owed {lf : Launch} {ρf : mo_E} {G : mo_G} {M : mo_M} {t : Nat} {g : Nat → Int} {B : Int} {x : Nat} (hx : mo_Ms G x) (hS : mo_SR M (x + 1) g) (hI : mo_Iv g B) (hB : B ≤ 800000000) {o w : Int} (ho : mo_In o) (hw : mo_In w) (hok : (0 ≤ o ∧ o < g 4) ∧ (0 ≤ w ∧ w ≤ 19)) : mo_Ct lf ρf yX4_owed cX4_owed 3 (some .int) 6 0 0 [.ref x, mo_iv o, mo_iv w] G M t (fun u G' M' t' => G' = G ∧ t' = t ∧ M' = M ∧ (0 ≤ o ∧ o < g 4) ∧ (0 ≤ w ∧ w ≤ 19) ∧ u = some (mo_iv (mo_ow g o.toNat w.toNat))) := by
  refine mo_ofW (ls0 := [some (.ref x), some (mo_iv o), some (mo_iv w)]) (by decide) rfl (Nat.le_of_ble_eq_true rfl) ?_
  intro κ X Y
  have X : mo_Cx κ lf ρf cX4_owed 3 RX4 (some .int) 6 := X
  obtain ⟨hI0, hI1, hI2, hI3, hI4, hI5, hI6, hI7, -⟩ := id hI
  obtain ⟨s0, s1, s2, s3, s4, s5, sH, -⟩ := id hS
  refine mo_al0 (pc := 0) X dX4_owed_0 ?_
  refine mo_f_X4_12 (pc := 1) X dX4_owed_1 (mo_Ms_o hx) (mo_Ms_p0 hx) ?_
  refine mo_il1 (pc := 4) X dX4_owed_4 ?_
  refine mo_cVI (pc := 5) (As := [_]) X mo_k_X4_70 mo_y_yX2_hasOrder rfl dX4_owed_5 (ct2_hasOrder (mo_Ms_r0 hx) ho (by omega)) (mo_St_o (mo_Ms_r0 hx)) rfl (by decide) (by decide) (Nat.le_of_ble_eq_true rfl) ?_
  rintro r_5 _ ⟨h_5, rfl⟩
  refine mo_if_ne (pc := 8) (tgt := 21) X dX4_owed_8 (by decide) ?_ (fun c_8 => ?_) (fun c_8 => ?_)
  · omega
  · skip
    refine mo_il2 (pc := 21) X dX4_owed_21 ?_
    refine mo_cSI (pc := 22) (As := [_]) X mo_k_X4_145 mo_y_yX4_isWeek dX4_owed_22 (ct4_isWeek hw) rfl (by decide) (by decide) (Nat.le_of_ble_eq_true rfl) ?_
    rintro r_22 _ ⟨h_22, rfl⟩
    refine mo_if_ne (pc := 25) (tgt := 38) X dX4_owed_25 (by decide) ?_ (fun c_25 => ?_) (fun c_25 => ?_)
    · omega
    · skip
      refine mo_al0 (pc := 38) X dX4_owed_38 ?_
      refine mo_f_X4_12 (pc := 39) X dX4_owed_39 (mo_Ms_o hx) (mo_Ms_p0 hx) ?_
      refine mo_il1 (pc := 42) X dX4_owed_42 ?_
      refine mo_il2 (pc := 43) X dX4_owed_43 ?_
      obtain ⟨on, rfl⟩ := Int.eq_ofNat_of_zero_le (show 0 ≤ o by omega)
      obtain ⟨wn, rfl⟩ := Int.eq_ofNat_of_zero_le (show 0 ≤ w by omega)
      refine mo_cVI (pc := 44) (As := [_, _]) X mo_k_X4_198 mo_y_yX2_debt rfl dX4_owed_44 (ct2_debt (o := on) (w := wn) (mo_Ms_r0 hx) hS hI (by omega) (by omega) (by omega)) (mo_St_o (mo_Ms_r0 hx)) rfl (by decide) (by decide) (Nat.le_of_ble_eq_true rfl) ?_
      rintro r_44 _ ⟨h_44, rfl⟩
      refine mo_iret (pc := 47) X Y rfl dX4_owed_47 ⟨rfl, rfl, rfl, by omega, by omega, ?_⟩
      simp only [Int.toNat_natCast]
      rw [h_44]
    · skip
      exfalso
      omega
  · skip
    exfalso
    omega
set_option maxHeartbeats 4000000 in
set_option maxRecDepth 100000 in
theorem nt4_value {lf : Launch} {ρf : mo_E} {G : mo_G} {M : mo_M} {t : Nat} {g : Nat → Int} {B : Int} {x : Nat} (hx : mo_Ms G x) (hS : mo_SR M (x + 1) g) (hI : mo_Iv g B) (hB : B ≤ 800000000) {w : Int} (hw : mo_In w) (hok : (0 ≤ w ∧ w ≤ 9)) : mo_Ct lf ρf yX4_value cX4_value 2 (some .int) 6 0 0 [.ref x, mo_iv w] G M t (fun u G' M' t' => G' = G ∧ t' = t ∧ M' = M ∧ (0 ≤ w ∧ w ≤ 9) ∧ u = some (mo_iv (mo_nv g w))) := by
  refine mo_ofW (ls0 := [some (.ref x), some (mo_iv w)]) (by decide) rfl (Nat.le_of_ble_eq_true rfl) ?_
  intro κ X Y
  have X : mo_Cx κ lf ρf cX4_value 2 RX4 (some .int) 6 := X
  obtain ⟨hI0, hI1, hI2, hI3, hI4, hI5, hI6, hI7, hIh, hIa, hIe, hIm, hIs, hIl, hIw, hIr, hIt, hIs2, hIs3, hIz⟩ := id hI
  obtain ⟨s0, s1, s2, s3, s4, s5, sH, sA, sE, sM, sS, sL, sW, sRo, sF⟩ := id hS
  have hsh : mo_sum (M (x + 7)) 8 = g 2 := by rw [← hIs2]; exact mo_sum_congr fun j hj => sE j hj
  have hsm : mo_sum (M (x + 9)) 8 = g 3 := by rw [← hIs3]; exact mo_sum_congr fun j hj => sM j hj
  by_cases hwr : 0 ≤ w ∧ w ≤ 9
  · rcases (show w = 0 ∨ w = 1 ∨ w = 2 ∨ w = 3 ∨ w = 4 ∨ w = 5 ∨ w = 6 ∨ w = 7 ∨ w = 8 ∨ w = 9 by omega) with rfl | rfl | rfl | rfl | rfl | rfl | rfl | rfl | rfl | rfl
    · skip
      refine mo_il1 (pc := 0) X dX4_value_0 ?_
      refine mo_swIn (pc := 1) (tgt := 56) (off := 55) X dX4_value_1 (by decide) (by decide) (by decide) rfl (by decide) ?_
      refine mo_al0 (pc := 56) X dX4_value_56 ?_
      refine mo_f_X4_12 (pc := 57) X dX4_value_57 (mo_Ms_o hx) (mo_Ms_p0 hx) ?_
      refine mo_f_X4_55 (pc := 60) X dX4_value_60 (mo_St_o (mo_Ms_r0 hx)) ?_
      refine mo_iret (pc := 63) X Y rfl dX4_value_63 ⟨rfl, rfl, rfl, by omega, ?_⟩
      exact congrArg (fun q => some (mo_iv q)) (s0)
    · skip
      refine mo_il1 (pc := 0) X dX4_value_0 ?_
      refine mo_swIn (pc := 1) (tgt := 64) (off := 63) X dX4_value_1 (by decide) (by decide) (by decide) rfl (by decide) ?_
      refine mo_al0 (pc := 64) X dX4_value_64 ?_
      refine mo_f_X4_12 (pc := 65) X dX4_value_65 (mo_Ms_o hx) (mo_Ms_p0 hx) ?_
      refine mo_f_X4_112 (pc := 68) X dX4_value_68 (mo_St_o (mo_Ms_r0 hx)) ?_
      refine mo_iret (pc := 71) X Y rfl dX4_value_71 ⟨rfl, rfl, rfl, by omega, ?_⟩
      exact congrArg (fun q => some (mo_iv q)) (s1)
    · skip
      refine mo_il1 (pc := 0) X dX4_value_0 ?_
      refine mo_swIn (pc := 1) (tgt := 72) (off := 71) X dX4_value_1 (by decide) (by decide) (by decide) rfl (by decide) ?_
      refine mo_al0 (pc := 72) X dX4_value_72 ?_
      refine mo_f_X4_12 (pc := 73) X dX4_value_73 (mo_Ms_o hx) (mo_Ms_p0 hx) ?_
      refine mo_f_X4_132 (pc := 76) X dX4_value_76 (mo_St_o (mo_Ms_r0 hx)) ?_
      refine mo_iret (pc := 79) X Y rfl dX4_value_79 ⟨rfl, rfl, rfl, by omega, ?_⟩
      exact congrArg (fun q => some (mo_iv q)) (s2)
    · skip
      refine mo_il1 (pc := 0) X dX4_value_0 ?_
      refine mo_swIn (pc := 1) (tgt := 80) (off := 79) X dX4_value_1 (by decide) (by decide) (by decide) rfl (by decide) ?_
      refine mo_al0 (pc := 80) X dX4_value_80 ?_
      refine mo_f_X4_12 (pc := 81) X dX4_value_81 (mo_Ms_o hx) (mo_Ms_p0 hx) ?_
      refine mo_f_X4_246 (pc := 84) X dX4_value_84 (mo_St_o (mo_Ms_r0 hx)) ?_
      refine mo_iret (pc := 87) X Y rfl dX4_value_87 ⟨rfl, rfl, rfl, by omega, ?_⟩
      exact congrArg (fun q => some (mo_iv q)) (s3)
    · skip
      refine mo_il1 (pc := 0) X dX4_value_0 ?_
      refine mo_swIn (pc := 1) (tgt := 88) (off := 87) X dX4_value_1 (by decide) (by decide) (by decide) rfl (by decide) ?_
      refine mo_al0 (pc := 88) X dX4_value_88 ?_
      refine mo_f_X4_12 (pc := 89) X dX4_value_89 (mo_Ms_o hx) (mo_Ms_p0 hx) ?_
      refine mo_f_X4_195 (pc := 92) X dX4_value_92 (mo_St_o (mo_Ms_r0 hx)) ?_
      refine mo_iret (pc := 95) X Y rfl dX4_value_95 ⟨rfl, rfl, rfl, by omega, ?_⟩
      exact congrArg (fun q => some (mo_iv q)) (s4)
    · skip
      refine mo_il1 (pc := 0) X dX4_value_0 ?_
      refine mo_swIn (pc := 1) (tgt := 96) (off := 95) X dX4_value_1 (by decide) (by decide) (by decide) rfl (by decide) ?_
      refine mo_al0 (pc := 96) X dX4_value_96 ?_
      refine mo_f_X4_12 (pc := 97) X dX4_value_97 (mo_Ms_o hx) (mo_Ms_p0 hx) ?_
      refine mo_f_X4_249 (pc := 100) X dX4_value_100 (mo_St_o (mo_Ms_r0 hx)) ?_
      refine mo_iret (pc := 103) X Y rfl dX4_value_103 ⟨rfl, rfl, rfl, by omega, ?_⟩
      exact congrArg (fun q => some (mo_iv q)) (s5)
    · skip
      refine mo_il1 (pc := 0) X dX4_value_0 ?_
      refine mo_swIn (pc := 1) (tgt := 104) (off := 103) X dX4_value_1 (by decide) (by decide) (by decide) rfl (by decide) ?_
      refine mo_al0 (pc := 104) X dX4_value_104 ?_
      refine mo_f_X4_12 (pc := 105) X dX4_value_105 (mo_Ms_o hx) (mo_Ms_p0 hx) ?_
      refine mo_f_X4_213 (pc := 108) X dX4_value_108 (mo_St_o (mo_Ms_r0 hx)) (mo_St_p8 (mo_Ms_r0 hx)) ?_
      refine mo_cVI (pc := 111) (As := []) X mo_k_X4_252 mo_y_yX1_sum rfl dX4_value_111 (ct_sum (a := x + 7) (mo_St_r8 (mo_Ms_r0 hx)) rfl (by omega)) (mo_St_r8 (mo_Ms_r0 hx)).1 rfl (by decide) (by decide) (Nat.le_of_ble_eq_true rfl) ?_
      rintro r_111 _ ⟨h_111, rfl⟩
      refine mo_iret (pc := 114) X Y rfl dX4_value_114 ⟨rfl, rfl, rfl, by omega, ?_⟩
      exact congrArg (fun q => some (mo_iv q)) (h_111.trans hsh)
    · skip
      refine mo_il1 (pc := 0) X dX4_value_0 ?_
      refine mo_swIn (pc := 1) (tgt := 115) (off := 114) X dX4_value_1 (by decide) (by decide) (by decide) rfl (by decide) ?_
      refine mo_al0 (pc := 115) X dX4_value_115 ?_
      refine mo_f_X4_12 (pc := 116) X dX4_value_116 (mo_Ms_o hx) (mo_Ms_p0 hx) ?_
      refine mo_f_X4_216 (pc := 119) X dX4_value_119 (mo_St_o (mo_Ms_r0 hx)) (mo_St_p9 (mo_Ms_r0 hx)) ?_
      refine mo_cVI (pc := 122) (As := []) X mo_k_X4_252 mo_y_yX1_sum rfl dX4_value_122 (ct_sum (a := x + 9) (mo_St_r9 (mo_Ms_r0 hx)) rfl (by omega)) (mo_St_r9 (mo_Ms_r0 hx)).1 rfl (by decide) (by decide) (Nat.le_of_ble_eq_true rfl) ?_
      rintro r_122 _ ⟨h_122, rfl⟩
      refine mo_iret (pc := 125) X Y rfl dX4_value_125 ⟨rfl, rfl, rfl, by omega, ?_⟩
      exact congrArg (fun q => some (mo_iv q)) (h_122.trans hsm)
    · skip
      refine mo_il1 (pc := 0) X dX4_value_0 ?_
      refine mo_swIn (pc := 1) (tgt := 126) (off := 125) X dX4_value_1 (by decide) (by decide) (by decide) rfl (by decide) ?_
      refine mo_al0 (pc := 126) X dX4_value_126 ?_
      refine mo_f_X4_12 (pc := 127) X dX4_value_127 (mo_Ms_o hx) (mo_Ms_p0 hx) ?_
      refine mo_al0 (pc := 130) X dX4_value_130 ?_
      refine mo_f_X4_12 (pc := 131) X dX4_value_131 (mo_Ms_o hx) (mo_Ms_p0 hx) ?_
      refine mo_f_X4_195 (pc := 134) X dX4_value_134 (mo_St_o (mo_Ms_r0 hx)) ?_
      rw [s4, show g 0 = (((g 0).toNat : Nat) : Int) by omega]
      refine mo_cVI (pc := 137) (As := [_]) X mo_k_X4_256 mo_y_yX2_debtOfAll rfl dX4_value_137 (ct2_debtOfAll (w := (g 0).toNat) (mo_Ms_r0 hx) hS hI (by omega) (by omega)) (mo_St_o (mo_Ms_r0 hx)) rfl (by decide) (by decide) (Nat.le_of_ble_eq_true rfl) ?_
      rintro r_137 _ ⟨h_137, rfl⟩
      refine mo_iret (pc := 140) X Y rfl dX4_value_140 ⟨rfl, rfl, rfl, by omega, ?_⟩
      exact congrArg (fun q => some (mo_iv q)) (h_137)
    · skip
      refine mo_il1 (pc := 0) X dX4_value_0 ?_
      refine mo_swIn (pc := 1) (tgt := 141) (off := 140) X dX4_value_1 (by decide) (by decide) (by decide) rfl (by decide) ?_
      refine mo_al0 (pc := 141) X dX4_value_141 ?_
      refine mo_f_X4_12 (pc := 142) X dX4_value_142 (mo_Ms_o hx) (mo_Ms_p0 hx) ?_
      refine mo_f_X4_249 (pc := 145) X dX4_value_145 (mo_St_o (mo_Ms_r0 hx)) ?_
      refine mo_iret (pc := 148) X Y rfl dX4_value_148 ⟨rfl, rfl, rfl, by omega, ?_⟩
      exact congrArg (fun q => some (mo_iv q)) (s5)
  · skip
    refine mo_il1 (pc := 0) X dX4_value_0 ?_
    refine mo_swOut (pc := 1) (tgt := 149) X dX4_value_1 (by omega) (by omega) (by decide) ?_
    exfalso
    omega
