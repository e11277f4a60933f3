set_option maxHeartbeats 4000000 in
set_option maxRecDepth 100000 in
theorem ct4_value {lf : Launch} {ρf : mo_E} {G : mo_G} {M : mo_M} {t : Nat} (hlf : lf.stackTraces = false) {g : Nat → Int} {B : Int} {x : Nat} (hx : mo_Ms G x) (hS : mo_SR M (x + 1) g) (hI : mo_Iv g B) (hB : B ≤ 800000000) {w : Int} (hw : mo_In w) : mo_Cv lf ρf yX4_value cX4_value 2 (some .int) 6 1 6 [.ref x, mo_iv w] G M t (fun u G' M' t' => G' = G ∧ t' = t ∧ M' = M ∧ (0 ≤ w ∧ w ≤ 9) ∧ u = some (mo_iv (mo_nv g w))) (fun E G' M' t' => G' = G ∧ M' = M ∧ t ≤ t' ∧ (E = mo_IAE ∧ ¬ (0 ≤ w ∧ w ≤ 9))) := by
  refine mo_ofWX (ls0 := [some (.ref x), some (mo_iv w)]) (by decide) rfl (Nat.le_of_ble_eq_true rfl) ?_
  intro κ X Y
  have X : mo_Cx κ lf ρf cX4_value 2 RX4 (some .int) 6 := X
  obtain ⟨hI0, hI1, hI2, hI3, hI4, hI5, hI6, hI7, hIh, hIa, hIe, hIm, hIs, hIl, hIw, hIr, hIt, hIs2, hIs3, hIz⟩ := id hI
  obtain ⟨s0, s1, s2, s3, s4, s5, sH, sA, sE, sM, sS, sL, sW, sRo, sF⟩ := id hS
  have hsh : mo_sum (M (x + 7)) 8 = g 2 := by rw [← hIs2]; exact mo_sum_congr fun j hj => sE j hj
  have hsm : mo_sum (M (x + 9)) 8 = g 3 := by rw [← hIs3]; exact mo_sum_congr fun j hj => sM j hj
  by_cases hwr : 0 ≤ w ∧ w ≤ 9
  · rcases (show w = 0 ∨ w = 1 ∨ w = 2 ∨ w = 3 ∨ w = 4 ∨ w = 5 ∨ w = 6 ∨ w = 7 ∨ w = 8 ∨ w = 9 by omega) with rfl | rfl | rfl | rfl | rfl | rfl | rfl | rfl | rfl | rfl
    · refine mo_toN X Y (fun κ X Y => ?_)
      refine mo_il1 (pc := 0) X dX4_value_0 ?_
      refine mo_swIn (pc := 1) (tgt := 56) (off := 55) X dX4_value_1 (by decide) (by decide) (by decide) rfl (by decide) ?_
      refine mo_al0 (pc := 56) X dX4_value_56 ?_
      refine mo_f_X4_12 (pc := 57) X dX4_value_57 (mo_Ms_o hx) (mo_Ms_p0 hx) ?_
      refine mo_f_X4_55 (pc := 60) X dX4_value_60 (mo_St_o (mo_Ms_r0 hx)) ?_
      refine mo_wd (k2 := 1) (n2 := 6) (Nat.zero_le _) (Nat.zero_le _) ?_
      refine mo_iret (pc := 63) X Y rfl dX4_value_63 ⟨rfl, rfl, rfl, by omega, ?_⟩
      exact congrArg (fun q => some (mo_iv q)) (s0)
    · refine mo_toN X Y (fun κ X Y => ?_)
      refine mo_il1 (pc := 0) X dX4_value_0 ?_
      refine mo_swIn (pc := 1) (tgt := 64) (off := 63) X dX4_value_1 (by decide) (by decide) (by decide) rfl (by decide) ?_
      refine mo_al0 (pc := 64) X dX4_value_64 ?_
      refine mo_f_X4_12 (pc := 65) X dX4_value_65 (mo_Ms_o hx) (mo_Ms_p0 hx) ?_
      refine mo_f_X4_112 (pc := 68) X dX4_value_68 (mo_St_o (mo_Ms_r0 hx)) ?_
      refine mo_wd (k2 := 1) (n2 := 6) (Nat.zero_le _) (Nat.zero_le _) ?_
      refine mo_iret (pc := 71) X Y rfl dX4_value_71 ⟨rfl, rfl, rfl, by omega, ?_⟩
      exact congrArg (fun q => some (mo_iv q)) (s1)
    · refine mo_toN X Y (fun κ X Y => ?_)
      refine mo_il1 (pc := 0) X dX4_value_0 ?_
      refine mo_swIn (pc := 1) (tgt := 72) (off := 71) X dX4_value_1 (by decide) (by decide) (by decide) rfl (by decide) ?_
      refine mo_al0 (pc := 72) X dX4_value_72 ?_
      refine mo_f_X4_12 (pc := 73) X dX4_value_73 (mo_Ms_o hx) (mo_Ms_p0 hx) ?_
      refine mo_f_X4_132 (pc := 76) X dX4_value_76 (mo_St_o (mo_Ms_r0 hx)) ?_
      refine mo_wd (k2 := 1) (n2 := 6) (Nat.zero_le _) (Nat.zero_le _) ?_
      refine mo_iret (pc := 79) X Y rfl dX4_value_79 ⟨rfl, rfl, rfl, by omega, ?_⟩
      exact congrArg (fun q => some (mo_iv q)) (s2)
    · refine mo_toN X Y (fun κ X Y => ?_)
      refine mo_il1 (pc := 0) X dX4_value_0 ?_
      refine mo_swIn (pc := 1) (tgt := 80) (off := 79) X dX4_value_1 (by decide) (by decide) (by decide) rfl (by decide) ?_
      refine mo_al0 (pc := 80) X dX4_value_80 ?_
      refine mo_f_X4_12 (pc := 81) X dX4_value_81 (mo_Ms_o hx) (mo_Ms_p0 hx) ?_
      refine mo_f_X4_246 (pc := 84) X dX4_value_84 (mo_St_o (mo_Ms_r0 hx)) ?_
      refine mo_wd (k2 := 1) (n2 := 6) (Nat.zero_le _) (Nat.zero_le _) ?_
      refine mo_iret (pc := 87) X Y rfl dX4_value_87 ⟨rfl, rfl, rfl, by omega, ?_⟩
      exact congrArg (fun q => some (mo_iv q)) (s3)
    · refine mo_toN X Y (fun κ X Y => ?_)
      refine mo_il1 (pc := 0) X dX4_value_0 ?_
      refine mo_swIn (pc := 1) (tgt := 88) (off := 87) X dX4_value_1 (by decide) (by decide) (by decide) rfl (by decide) ?_
      refine mo_al0 (pc := 88) X dX4_value_88 ?_
      refine mo_f_X4_12 (pc := 89) X dX4_value_89 (mo_Ms_o hx) (mo_Ms_p0 hx) ?_
      refine mo_f_X4_195 (pc := 92) X dX4_value_92 (mo_St_o (mo_Ms_r0 hx)) ?_
      refine mo_wd (k2 := 1) (n2 := 6) (Nat.zero_le _) (Nat.zero_le _) ?_
      refine mo_iret (pc := 95) X Y rfl dX4_value_95 ⟨rfl, rfl, rfl, by omega, ?_⟩
      exact congrArg (fun q => some (mo_iv q)) (s4)
    · refine mo_toN X Y (fun κ X Y => ?_)
      refine mo_il1 (pc := 0) X dX4_value_0 ?_
      refine mo_swIn (pc := 1) (tgt := 96) (off := 95) X dX4_value_1 (by decide) (by decide) (by decide) rfl (by decide) ?_
      refine mo_al0 (pc := 96) X dX4_value_96 ?_
      refine mo_f_X4_12 (pc := 97) X dX4_value_97 (mo_Ms_o hx) (mo_Ms_p0 hx) ?_
      refine mo_f_X4_249 (pc := 100) X dX4_value_100 (mo_St_o (mo_Ms_r0 hx)) ?_
      refine mo_wd (k2 := 1) (n2 := 6) (Nat.zero_le _) (Nat.zero_le _) ?_
      refine mo_iret (pc := 103) X Y rfl dX4_value_103 ⟨rfl, rfl, rfl, by omega, ?_⟩
      exact congrArg (fun q => some (mo_iv q)) (s5)
    · refine mo_toN X Y (fun κ X Y => ?_)
      refine mo_il1 (pc := 0) X dX4_value_0 ?_
      refine mo_swIn (pc := 1) (tgt := 104) (off := 103) X dX4_value_1 (by decide) (by decide) (by decide) rfl (by decide) ?_
      refine mo_al0 (pc := 104) X dX4_value_104 ?_
      refine mo_f_X4_12 (pc := 105) X dX4_value_105 (mo_Ms_o hx) (mo_Ms_p0 hx) ?_
      refine mo_f_X4_213 (pc := 108) X dX4_value_108 (mo_St_o (mo_Ms_r0 hx)) (mo_St_p8 (mo_Ms_r0 hx)) ?_
      refine mo_cVI (pc := 111) (As := []) X mo_k_X4_252 mo_y_yX1_sum rfl dX4_value_111 (ct_sum (a := x + 7) (mo_St_r8 (mo_Ms_r0 hx)) rfl (by omega)) (mo_St_r8 (mo_Ms_r0 hx)).1 rfl (by decide) (by decide) (Nat.le_of_ble_eq_true rfl) ?_
      rintro r_111 _ ⟨h_111, rfl⟩
      refine mo_wd (k2 := 1) (n2 := 6) (Nat.zero_le _) (Nat.zero_le _) ?_
      refine mo_iret (pc := 114) X Y rfl dX4_value_114 ⟨rfl, rfl, rfl, by omega, ?_⟩
      exact congrArg (fun q => some (mo_iv q)) (h_111.trans hsh)
    · refine mo_toN X Y (fun κ X Y => ?_)
      refine mo_il1 (pc := 0) X dX4_value_0 ?_
      refine mo_swIn (pc := 1) (tgt := 115) (off := 114) X dX4_value_1 (by decide) (by decide) (by decide) rfl (by decide) ?_
      refine mo_al0 (pc := 115) X dX4_value_115 ?_
      refine mo_f_X4_12 (pc := 116) X dX4_value_116 (mo_Ms_o hx) (mo_Ms_p0 hx) ?_
      refine mo_f_X4_216 (pc := 119) X dX4_value_119 (mo_St_o (mo_Ms_r0 hx)) (mo_St_p9 (mo_Ms_r0 hx)) ?_
      refine mo_cVI (pc := 122) (As := []) X mo_k_X4_252 mo_y_yX1_sum rfl dX4_value_122 (ct_sum (a := x + 9) (mo_St_r9 (mo_Ms_r0 hx)) rfl (by omega)) (mo_St_r9 (mo_Ms_r0 hx)).1 rfl (by decide) (by decide) (Nat.le_of_ble_eq_true rfl) ?_
      rintro r_122 _ ⟨h_122, rfl⟩
      refine mo_wd (k2 := 1) (n2 := 6) (Nat.zero_le _) (Nat.zero_le _) ?_
      refine mo_iret (pc := 125) X Y rfl dX4_value_125 ⟨rfl, rfl, rfl, by omega, ?_⟩
      exact congrArg (fun q => some (mo_iv q)) (h_122.trans hsm)
    · refine mo_toN X Y (fun κ X Y => ?_)
      refine mo_il1 (pc := 0) X dX4_value_0 ?_
      refine mo_swIn (pc := 1) (tgt := 126) (off := 125) X dX4_value_1 (by decide) (by decide) (by decide) rfl (by decide) ?_
      refine mo_al0 (pc := 126) X dX4_value_126 ?_
      refine mo_f_X4_12 (pc := 127) X dX4_value_127 (mo_Ms_o hx) (mo_Ms_p0 hx) ?_
      refine mo_al0 (pc := 130) X dX4_value_130 ?_
      refine mo_f_X4_12 (pc := 131) X dX4_value_131 (mo_Ms_o hx) (mo_Ms_p0 hx) ?_
      refine mo_f_X4_195 (pc := 134) X dX4_value_134 (mo_St_o (mo_Ms_r0 hx)) ?_
      rw [s4, show g 0 = (((g 0).toNat : Nat) : Int) by omega]
      refine mo_cVI (pc := 137) (As := [_]) X mo_k_X4_256 mo_y_yX2_debtOfAll rfl dX4_value_137 (ct2_debtOfAll (w := (g 0).toNat) (mo_Ms_r0 hx) hS hI (by omega) (by omega)) (mo_St_o (mo_Ms_r0 hx)) rfl (by decide) (by decide) (Nat.le_of_ble_eq_true rfl) ?_
      rintro r_137 _ ⟨h_137, rfl⟩
      refine mo_wd (k2 := 1) (n2 := 6) (Nat.zero_le _) (Nat.zero_le _) ?_
      refine mo_iret (pc := 140) X Y rfl dX4_value_140 ⟨rfl, rfl, rfl, by omega, ?_⟩
      exact congrArg (fun q => some (mo_iv q)) (h_137)
    · refine mo_toN X Y (fun κ X Y => ?_)
      refine mo_il1 (pc := 0) X dX4_value_0 ?_
      refine mo_swIn (pc := 1) (tgt := 141) (off := 140) X dX4_value_1 (by decide) (by decide) (by decide) rfl (by decide) ?_
      refine mo_al0 (pc := 141) X dX4_value_141 ?_
      refine mo_f_X4_12 (pc := 142) X dX4_value_142 (mo_Ms_o hx) (mo_Ms_p0 hx) ?_
      refine mo_f_X4_249 (pc := 145) X dX4_value_145 (mo_St_o (mo_Ms_r0 hx)) ?_
      refine mo_wd (k2 := 1) (n2 := 6) (Nat.zero_le _) (Nat.zero_le _) ?_
      refine mo_iret (pc := 148) X Y rfl dX4_value_148 ⟨rfl, rfl, rfl, by omega, ?_⟩
      exact congrArg (fun q => some (mo_iv q)) (s5)
  · skip
    refine mo_il1 (pc := 0) X dX4_value_0 ?_
    refine mo_swOut (pc := 1) (tgt := 149) X dX4_value_1 (by omega) (by omega) (by decide) ?_
    refine mo_thrS (pc := 149) (names := mo_nm) (text := "what is out of range") X Y hlf (by decide +kernel) mo_fitN mo_wq_X4_48 mo_wz_IllegalArgumentException (by decide) mo_hatA mo_vtA dX4_value_149 dX4_value_152 dX4_value_153 dX4_value_155 dX4_value_158 (by decide) (Nat.le_of_ble_eq_true rfl) (by decide) (by decide) (fun t9 h9 => ?_)
    exact ⟨rfl, rfl, h9, rfl, hwr⟩
