set_option maxHeartbeats 4000000 in
set_option maxRecDepth 100000 in
theorem nt4_order {lf : Launch} {ρf : mo_E} {G : mo_G} {M : mo_M} {t : Nat} {g : Nat → Int} {B : Int} {x : Nat} (hx : mo_Ms G x) (hS : mo_SR M (x + 1) g) (hI : mo_Iv g B) (hB : B ≤ 800000000) {o w : Int} (ho : mo_In o) (hw : mo_In w) (hok : (0 ≤ o ∧ o < g 4) ∧ (0 ≤ w ∧ w ≤ 6)) : mo_Ct lf ρf yX4_order cX4_order 3 (some .int) 6 0 0 [.ref x, mo_iv o, mo_iv w] G M t (fun u G' M' t' => G' = G ∧ t' = t ∧ M' = M ∧ (0 ≤ o ∧ o < g 4) ∧ (0 ≤ w ∧ w ≤ 6) ∧ u = some (mo_iv (mo_ov g o.toNat w))) := by
  refine mo_ofW (ls0 := [some (.ref x), some (mo_iv o), some (mo_iv w)]) (by decide) rfl (Nat.le_of_ble_eq_true rfl) ?_
  intro κ X Y
  have X : mo_Cx κ lf ρf cX4_order 3 RX4 (some .int) 6 := X
  obtain ⟨hI0, hI1, hI2, hI3, hI4, hI5, hI6, hI7, hIh, hIa, hIe, hIm, hIs, hIl, hIw, hIr, hIt, hIs2, hIs3, hIz⟩ := id hI
  obtain ⟨s0, s1, s2, s3, s4, s5, sH, sA, sE, sM, sS, sL, sW, sRo, sF⟩ := id hS
  have e20 : (((g 0).toNat : Nat) : Int) = g 0 := by omega
  by_cases hwr : (0 ≤ o ∧ o < g 4) ∧ (0 ≤ w ∧ w ≤ 6)
  · obtain ⟨on, rfl⟩ := Int.eq_ofNat_of_zero_le (show 0 ≤ o by omega)
    rcases (show w = 0 ∨ w = 1 ∨ w = 2 ∨ w = 3 ∨ w = 4 ∨ w = 5 ∨ w = 6 by omega) with rfl | rfl | rfl | rfl | rfl | rfl | rfl
    · skip
      refine mo_al0 (pc := 0) X dX4_order_0 ?_
      refine mo_f_X4_12 (pc := 1) X dX4_order_1 (mo_Ms_o hx) (mo_Ms_p0 hx) ?_
      refine mo_il1 (pc := 4) X dX4_order_4 ?_
      refine mo_cVI (pc := 5) (As := [_]) X mo_k_X4_70 mo_y_yX2_hasOrder rfl dX4_order_5 (ct2_hasOrder (mo_Ms_r0 hx) (by omega) (by omega)) (mo_St_o (mo_Ms_r0 hx)) rfl (by decide) (by decide) (Nat.le_of_ble_eq_true rfl) ?_
      rintro r_5 _ ⟨h_5, rfl⟩
      refine mo_if_ne (pc := 8) (tgt := 21) X dX4_order_8 (by decide) ?_ (fun c_8 => ?_) (fun c_8 => ?_)
      · omega
      · skip
        refine mo_il2 (pc := 21) X dX4_order_21 ?_
        refine mo_swIn (pc := 22) (tgt := 64) (off := 42) X dX4_order_22 (by decide) (by decide) (by decide) rfl (by decide) ?_
        refine mo_al0 (pc := 64) X dX4_order_64 ?_
        refine mo_f_X4_12 (pc := 65) X dX4_order_65 (mo_Ms_o hx) (mo_Ms_p0 hx) ?_
        refine mo_il1 (pc := 68) X dX4_order_68 ?_
        refine mo_al0 (pc := 69) X dX4_order_69 ?_
        refine mo_f_X4_12 (pc := 70) X dX4_order_70 (mo_Ms_o hx) (mo_Ms_p0 hx) ?_
        refine mo_f_X4_195 (pc := 73) X dX4_order_73 (mo_St_o (mo_Ms_r0 hx)) ?_
        rw [s4, ← e20]
        refine mo_cVI (pc := 76) (As := [_, _]) X mo_k_X4_84 mo_y_yX2_hoursIn rfl dX4_order_76 (ct2_hoursIn (o := on) (w := (g 0).toNat) (mo_Ms_r0 hx) (by omega) (by omega)) (mo_St_o (mo_Ms_r0 hx)) rfl (by decide) (by decide) (Nat.le_of_ble_eq_true rfl) ?_
        rintro r_76 _ ⟨h_76, rfl⟩
        refine mo_iret (pc := 79) X Y rfl dX4_order_79 ⟨rfl, rfl, rfl, by omega, by omega, ?_⟩
        rw [h_76, sH _ (by omega), show 8 + (20 * on + (g 0).toNat) = 8 + 20 * on + (g 0).toNat by omega]
        rfl
      · exfalso
        omega
    · skip
      refine mo_al0 (pc := 0) X dX4_order_0 ?_
      refine mo_f_X4_12 (pc := 1) X dX4_order_1 (mo_Ms_o hx) (mo_Ms_p0 hx) ?_
      refine mo_il1 (pc := 4) X dX4_order_4 ?_
      refine mo_cVI (pc := 5) (As := [_]) X mo_k_X4_70 mo_y_yX2_hasOrder rfl dX4_order_5 (ct2_hasOrder (mo_Ms_r0 hx) (by omega) (by omega)) (mo_St_o (mo_Ms_r0 hx)) rfl (by decide) (by decide) (Nat.le_of_ble_eq_true rfl) ?_
      rintro r_5 _ ⟨h_5, rfl⟩
      refine mo_if_ne (pc := 8) (tgt := 21) X dX4_order_8 (by decide) ?_ (fun c_8 => ?_) (fun c_8 => ?_)
      · omega
      · skip
        refine mo_il2 (pc := 21) X dX4_order_21 ?_
        refine mo_swIn (pc := 22) (tgt := 80) (off := 58) X dX4_order_22 (by decide) (by decide) (by decide) rfl (by decide) ?_
        refine mo_al0 (pc := 80) X dX4_order_80 ?_
        refine mo_f_X4_12 (pc := 81) X dX4_order_81 (mo_Ms_o hx) (mo_Ms_p0 hx) ?_
        refine mo_f_X4_93 (pc := 84) X dX4_order_84 (mo_St_o (mo_Ms_r0 hx)) (mo_St_p7 (mo_Ms_r0 hx)) ?_
        refine mo_il1 (pc := 87) X dX4_order_87 ?_
        refine mo_cVI (pc := 88) (As := [_]) X mo_k_X4_97 mo_y_yX1_get rfl dX4_order_88 (ct_get (a := x + 1 + 4) (j := on) (mo_St_r7 (mo_Ms_r0 hx)) rfl (by omega) (by omega) (by omega) (by omega)) (mo_St_r7 (mo_Ms_r0 hx)).1 rfl (by decide) (by decide) (Nat.le_of_ble_eq_true rfl) ?_
        rintro r_88 _ ⟨h_88, rfl⟩
        refine mo_iret (pc := 91) X Y rfl dX4_order_91 ⟨rfl, rfl, rfl, by omega, by omega, ?_⟩
        exact congrArg (fun q => some (mo_iv q)) (h_88.trans (sA on (by omega)))
      · exfalso
        omega
    · skip
      refine mo_al0 (pc := 0) X dX4_order_0 ?_
      refine mo_f_X4_12 (pc := 1) X dX4_order_1 (mo_Ms_o hx) (mo_Ms_p0 hx) ?_
      refine mo_il1 (pc := 4) X dX4_order_4 ?_
      refine mo_cVI (pc := 5) (As := [_]) X mo_k_X4_70 mo_y_yX2_hasOrder rfl dX4_order_5 (ct2_hasOrder (mo_Ms_r0 hx) (by omega) (by omega)) (mo_St_o (mo_Ms_r0 hx)) rfl (by decide) (by decide) (Nat.le_of_ble_eq_true rfl) ?_
      rintro r_5 _ ⟨h_5, rfl⟩
      refine mo_if_ne (pc := 8) (tgt := 21) X dX4_order_8 (by decide) ?_ (fun c_8 => ?_) (fun c_8 => ?_)
      · omega
      · skip
        refine mo_il2 (pc := 21) X dX4_order_21 ?_
        refine mo_swIn (pc := 22) (tgt := 92) (off := 70) X dX4_order_22 (by decide) (by decide) (by decide) rfl (by decide) ?_
        refine mo_al0 (pc := 92) X dX4_order_92 ?_
        refine mo_f_X4_12 (pc := 93) X dX4_order_93 (mo_Ms_o hx) (mo_Ms_p0 hx) ?_
        refine mo_f_X4_213 (pc := 96) X dX4_order_96 (mo_St_o (mo_Ms_r0 hx)) (mo_St_p8 (mo_Ms_r0 hx)) ?_
        refine mo_il1 (pc := 99) X dX4_order_99 ?_
        refine mo_cVI (pc := 100) (As := [_]) X mo_k_X4_97 mo_y_yX1_get rfl dX4_order_100 (ct_get (a := x + 1 + 6) (j := on) (mo_St_r8 (mo_Ms_r0 hx)) rfl (by omega) (by omega) (by omega) (by omega)) (mo_St_r8 (mo_Ms_r0 hx)).1 rfl (by decide) (by decide) (Nat.le_of_ble_eq_true rfl) ?_
        rintro r_100 _ ⟨h_100, rfl⟩
        refine mo_iret (pc := 103) X Y rfl dX4_order_103 ⟨rfl, rfl, rfl, by omega, by omega, ?_⟩
        exact congrArg (fun q => some (mo_iv q)) (h_100.trans (sE on (by omega)))
      · exfalso
        omega
    · skip
      refine mo_al0 (pc := 0) X dX4_order_0 ?_
      refine mo_f_X4_12 (pc := 1) X dX4_order_1 (mo_Ms_o hx) (mo_Ms_p0 hx) ?_
      refine mo_il1 (pc := 4) X dX4_order_4 ?_
      refine mo_cVI (pc := 5) (As := [_]) X mo_k_X4_70 mo_y_yX2_hasOrder rfl dX4_order_5 (ct2_hasOrder (mo_Ms_r0 hx) (by omega) (by omega)) (mo_St_o (mo_Ms_r0 hx)) rfl (by decide) (by decide) (Nat.le_of_ble_eq_true rfl) ?_
      rintro r_5 _ ⟨h_5, rfl⟩
      refine mo_if_ne (pc := 8) (tgt := 21) X dX4_order_8 (by decide) ?_ (fun c_8 => ?_) (fun c_8 => ?_)
      · omega
      · skip
        refine mo_il2 (pc := 21) X dX4_order_21 ?_
        refine mo_swIn (pc := 22) (tgt := 104) (off := 82) X dX4_order_22 (by decide) (by decide) (by decide) rfl (by decide) ?_
        refine mo_al0 (pc := 104) X dX4_order_104 ?_
        refine mo_f_X4_12 (pc := 105) X dX4_order_105 (mo_Ms_o hx) (mo_Ms_p0 hx) ?_
        refine mo_f_X4_216 (pc := 108) X dX4_order_108 (mo_St_o (mo_Ms_r0 hx)) (mo_St_p9 (mo_Ms_r0 hx)) ?_
        refine mo_il1 (pc := 111) X dX4_order_111 ?_
        refine mo_cVI (pc := 112) (As := [_]) X mo_k_X4_97 mo_y_yX1_get rfl dX4_order_112 (ct_get (a := x + 1 + 8) (j := on) (mo_St_r9 (mo_Ms_r0 hx)) rfl (by omega) (by omega) (by omega) (by omega)) (mo_St_r9 (mo_Ms_r0 hx)).1 rfl (by decide) (by decide) (Nat.le_of_ble_eq_true rfl) ?_
        rintro r_112 _ ⟨h_112, rfl⟩
        refine mo_iret (pc := 115) X Y rfl dX4_order_115 ⟨rfl, rfl, rfl, by omega, by omega, ?_⟩
        exact congrArg (fun q => some (mo_iv q)) (h_112.trans (sM on (by omega)))
      · exfalso
        omega
    · skip
      refine mo_al0 (pc := 0) X dX4_order_0 ?_
      refine mo_f_X4_12 (pc := 1) X dX4_order_1 (mo_Ms_o hx) (mo_Ms_p0 hx) ?_
      refine mo_il1 (pc := 4) X dX4_order_4 ?_
      refine mo_cVI (pc := 5) (As := [_]) X mo_k_X4_70 mo_y_yX2_hasOrder rfl dX4_order_5 (ct2_hasOrder (mo_Ms_r0 hx) (by omega) (by omega)) (mo_St_o (mo_Ms_r0 hx)) rfl (by decide) (by decide) (Nat.le_of_ble_eq_true rfl) ?_
      rintro r_5 _ ⟨h_5, rfl⟩
      refine mo_if_ne (pc := 8) (tgt := 21) X dX4_order_8 (by decide) ?_ (fun c_8 => ?_) (fun c_8 => ?_)
      · omega
      · skip
        refine mo_il2 (pc := 21) X dX4_order_21 ?_
        refine mo_swIn (pc := 22) (tgt := 116) (off := 94) X dX4_order_22 (by decide) (by decide) (by decide) rfl (by decide) ?_
        refine mo_al0 (pc := 116) X dX4_order_116 ?_
        refine mo_f_X4_12 (pc := 117) X dX4_order_117 (mo_Ms_o hx) (mo_Ms_p0 hx) ?_
        refine mo_il1 (pc := 120) X dX4_order_120 ?_
        refine mo_bipush (pc := 121) X dX4_order_121 (by decide) ?_
        refine mo_cVI (pc := 123) (As := [_, _]) X mo_k_X4_219 mo_y_yX2_plannedUpTo rfl dX4_order_123 (ct2_plannedUpTo (o := on) (w := 19) (mo_Ms_r0 hx) hS hI (by omega) (by omega) (by omega)) (mo_St_o (mo_Ms_r0 hx)) rfl (by decide) (by decide) (Nat.le_of_ble_eq_true rfl) ?_
        rintro r_123 _ ⟨h_123, rfl⟩
        refine mo_iret (pc := 126) X Y rfl dX4_order_126 ⟨rfl, rfl, rfl, by omega, by omega, ?_⟩
        exact congrArg (fun q => some (mo_iv q)) (h_123)
      · exfalso
        omega
    · skip
      refine mo_al0 (pc := 0) X dX4_order_0 ?_
      refine mo_f_X4_12 (pc := 1) X dX4_order_1 (mo_Ms_o hx) (mo_Ms_p0 hx) ?_
      refine mo_il1 (pc := 4) X dX4_order_4 ?_
      refine mo_cVI (pc := 5) (As := [_]) X mo_k_X4_70 mo_y_yX2_hasOrder rfl dX4_order_5 (ct2_hasOrder (mo_Ms_r0 hx) (by omega) (by omega)) (mo_St_o (mo_Ms_r0 hx)) rfl (by decide) (by decide) (Nat.le_of_ble_eq_true rfl) ?_
      rintro r_5 _ ⟨h_5, rfl⟩
      refine mo_if_ne (pc := 8) (tgt := 21) X dX4_order_8 (by decide) ?_ (fun c_8 => ?_) (fun c_8 => ?_)
      · omega
      · skip
        refine mo_il2 (pc := 21) X dX4_order_21 ?_
        refine mo_swIn (pc := 22) (tgt := 127) (off := 105) X dX4_order_22 (by decide) (by decide) (by decide) rfl (by decide) ?_
        refine mo_al0 (pc := 127) X dX4_order_127 ?_
        refine mo_f_X4_12 (pc := 128) X dX4_order_128 (mo_Ms_o hx) (mo_Ms_p0 hx) ?_
        refine mo_il1 (pc := 131) X dX4_order_131 ?_
        refine mo_al0 (pc := 132) X dX4_order_132 ?_
        refine mo_f_X4_12 (pc := 133) X dX4_order_133 (mo_Ms_o hx) (mo_Ms_p0 hx) ?_
        refine mo_f_X4_195 (pc := 136) X dX4_order_136 (mo_St_o (mo_Ms_r0 hx)) ?_
        rw [s4, ← e20]
        refine mo_cVI (pc := 139) (As := [_, _]) X mo_k_X4_198 mo_y_yX2_debt rfl dX4_order_139 (ct2_debt (o := on) (w := (g 0).toNat) (mo_Ms_r0 hx) hS hI (by omega) (by omega) (by omega)) (mo_St_o (mo_Ms_r0 hx)) rfl (by decide) (by decide) (Nat.le_of_ble_eq_true rfl) ?_
        rintro r_139 _ ⟨h_139, rfl⟩
        refine mo_iret (pc := 142) X Y rfl dX4_order_142 ⟨rfl, rfl, rfl, by omega, by omega, ?_⟩
        exact congrArg (fun q => some (mo_iv q)) (h_139)
      · exfalso
        omega
    · skip
      refine mo_al0 (pc := 0) X dX4_order_0 ?_
      refine mo_f_X4_12 (pc := 1) X dX4_order_1 (mo_Ms_o hx) (mo_Ms_p0 hx) ?_
      refine mo_il1 (pc := 4) X dX4_order_4 ?_
      refine mo_cVI (pc := 5) (As := [_]) X mo_k_X4_70 mo_y_yX2_hasOrder rfl dX4_order_5 (ct2_hasOrder (mo_Ms_r0 hx) (by omega) (by omega)) (mo_St_o (mo_Ms_r0 hx)) rfl (by decide) (by decide) (Nat.le_of_ble_eq_true rfl) ?_
      rintro r_5 _ ⟨h_5, rfl⟩
      refine mo_if_ne (pc := 8) (tgt := 21) X dX4_order_8 (by decide) ?_ (fun c_8 => ?_) (fun c_8 => ?_)
      · omega
      · skip
        refine mo_il2 (pc := 21) X dX4_order_21 ?_
        refine mo_swIn (pc := 22) (tgt := 143) (off := 121) X dX4_order_22 (by decide) (by decide) (by decide) rfl (by decide) ?_
        refine mo_al0 (pc := 143) X dX4_order_143 ?_
        refine mo_f_X4_12 (pc := 144) X dX4_order_144 (mo_Ms_o hx) (mo_Ms_p0 hx) ?_
        refine mo_il1 (pc := 147) X dX4_order_147 ?_
        refine mo_bipush (pc := 148) X dX4_order_148 (by decide) ?_
        refine mo_cVI (pc := 150) (As := [_, _]) X mo_k_X4_222 mo_y_yX2_hoursUpTo rfl dX4_order_150 (ct2_hoursUpTo (o := on) (w := 19) (mo_Ms_r0 hx) hS hI (by omega) (by omega) (by omega)) (mo_St_o (mo_Ms_r0 hx)) rfl (by decide) (by decide) (Nat.le_of_ble_eq_true rfl) ?_
        rintro r_150 _ ⟨h_150, rfl⟩
        refine mo_iret (pc := 153) X Y rfl dX4_order_153 ⟨rfl, rfl, rfl, by omega, by omega, ?_⟩
        exact congrArg (fun q => some (mo_iv q)) (h_150)
      · exfalso
        omega
  · skip
    refine mo_al0 (pc := 0) X dX4_order_0 ?_
    refine mo_f_X4_12 (pc := 1) X dX4_order_1 (mo_Ms_o hx) (mo_Ms_p0 hx) ?_
    refine mo_il1 (pc := 4) X dX4_order_4 ?_
    refine mo_cVI (pc := 5) (As := [_]) X mo_k_X4_70 mo_y_yX2_hasOrder rfl dX4_order_5 (ct2_hasOrder (mo_Ms_r0 hx) (by omega) (by omega)) (mo_St_o (mo_Ms_r0 hx)) rfl (by decide) (by decide) (Nat.le_of_ble_eq_true rfl) ?_
    rintro r_5 _ ⟨h_5, rfl⟩
    refine mo_if_ne (pc := 8) (tgt := 21) X dX4_order_8 (by decide) ?_ (fun c_8 => ?_) (fun c_8 => ?_)
    · omega
    · skip
      refine mo_il2 (pc := 21) X dX4_order_21 ?_
      refine mo_swOut (pc := 22) (tgt := 154) X dX4_order_22 (by omega) (by omega) (by decide) ?_
      exfalso
      omega
    · skip
      exfalso
      omega
set_option maxHeartbeats 4000000 in
set_option maxRecDepth 100000 in
theorem nt4_escort {lf : Launch} {ρf : mo_E} {G : mo_G} {M : mo_M} {t : Nat} {g : Nat → Int} {B : Int} {x : Nat} (hx : mo_Ms G x) (hS : mo_SR M (x + 1) g) (hI : mo_Iv g B) (hB : B ≤ 800000000) {o w : Int} (ho : mo_In o) (hw : mo_In w) (hok : (0 ≤ o ∧ o < g 5) ∧ (0 ≤ w ∧ w ≤ 3)) : mo_Ct lf ρf yX4_escort cX4_escort 3 (some .int) 6 0 0 [.ref x, mo_iv o, mo_iv w] G M t (fun u G' M' t' => G' = G ∧ t' = t ∧ M' = M ∧ (0 ≤ o ∧ o < g 5) ∧ (0 ≤ w ∧ w ≤ 3) ∧ u = some (mo_iv (mo_ev g o.toNat w))) := by
  refine mo_ofW (ls0 := [some (.ref x), some (mo_iv o), some (mo_iv w)]) (by decide) rfl (Nat.le_of_ble_eq_true rfl) ?_
  intro κ X Y
  have X : mo_Cx κ lf ρf cX4_escort 3 RX4 (some .int) 6 := X
  obtain ⟨hI0, hI1, hI2, hI3, hI4, hI5, hI6, hI7, hIh, hIa, hIe, hIm, hIs, hIl, hIw, hIr, hIt, hIs2, hIs3, hIz⟩ := id hI
  obtain ⟨s0, s1, s2, s3, s4, s5, sH, sA, sE, sM, sS, sL, sW, sRo, sF⟩ := id hS
  have e20 : (((g 0).toNat : Nat) : Int) = g 0 := by omega
  by_cases hwr : (0 ≤ o ∧ o < g 5) ∧ (0 ≤ w ∧ w ≤ 3)
  · obtain ⟨on, rfl⟩ := Int.eq_ofNat_of_zero_le (show 0 ≤ o by omega)
    rcases (show w = 0 ∨ w = 1 ∨ w = 2 ∨ w = 3 by omega) with rfl | rfl | rfl | rfl
    · skip
      refine mo_al0 (pc := 0) X dX4_escort_0 ?_
      refine mo_f_X4_12 (pc := 1) X dX4_escort_1 (mo_Ms_o hx) (mo_Ms_p0 hx) ?_
      refine mo_il1 (pc := 4) X dX4_escort_4 ?_
      refine mo_cVI (pc := 5) (As := [_]) X mo_k_X4_120 mo_y_yX2_hasEscort rfl dX4_escort_5 (ct2_hasEscort (mo_Ms_r0 hx) (by omega) (by omega)) (mo_St_o (mo_Ms_r0 hx)) rfl (by decide) (by decide) (Nat.le_of_ble_eq_true rfl) ?_
      rintro r_5 _ ⟨h_5, rfl⟩
      refine mo_if_ne (pc := 8) (tgt := 21) X dX4_escort_8 (by decide) ?_ (fun c_8 => ?_) (fun c_8 => ?_)
      · omega
      · skip
        refine mo_il2 (pc := 21) X dX4_escort_21 ?_
        refine mo_swIn (pc := 22) (tgt := 52) (off := 30) X dX4_escort_22 (by decide) (by decide) (by decide) rfl (by decide) ?_
        refine mo_al0 (pc := 52) X dX4_escort_52 ?_
        refine mo_f_X4_12 (pc := 53) X dX4_escort_53 (mo_Ms_o hx) (mo_Ms_p0 hx) ?_
        refine mo_f_X4_127 (pc := 56) X dX4_escort_56 (mo_St_o (mo_Ms_r0 hx)) (mo_St_p10 (mo_Ms_r0 hx)) ?_
        refine mo_il1 (pc := 59) X dX4_escort_59 ?_
        refine mo_cVI (pc := 60) (As := [_]) X mo_k_X4_97 mo_y_yX1_get rfl dX4_escort_60 (ct_get (a := x + 1 + 10) (j := on) (mo_St_r10 (mo_Ms_r0 hx)) rfl (by omega) (by omega) (by omega) (by omega)) (mo_St_r10 (mo_Ms_r0 hx)).1 rfl (by decide) (by decide) (Nat.le_of_ble_eq_true rfl) ?_
        rintro r_60 _ ⟨h_60, rfl⟩
        refine mo_iret (pc := 63) X Y rfl dX4_escort_63 ⟨rfl, rfl, rfl, by omega, by omega, ?_⟩
        exact congrArg (fun q => some (mo_iv q)) (h_60.trans (sS on (by omega)))
      · exfalso
        omega
    · skip
      refine mo_al0 (pc := 0) X dX4_escort_0 ?_
      refine mo_f_X4_12 (pc := 1) X dX4_escort_1 (mo_Ms_o hx) (mo_Ms_p0 hx) ?_
      refine mo_il1 (pc := 4) X dX4_escort_4 ?_
      refine mo_cVI (pc := 5) (As := [_]) X mo_k_X4_120 mo_y_yX2_hasEscort rfl dX4_escort_5 (ct2_hasEscort (mo_Ms_r0 hx) (by omega) (by omega)) (mo_St_o (mo_Ms_r0 hx)) rfl (by decide) (by decide) (Nat.le_of_ble_eq_true rfl) ?_
      rintro r_5 _ ⟨h_5, rfl⟩
      refine mo_if_ne (pc := 8) (tgt := 21) X dX4_escort_8 (by decide) ?_ (fun c_8 => ?_) (fun c_8 => ?_)
      · omega
      · skip
        refine mo_il2 (pc := 21) X dX4_escort_21 ?_
        refine mo_swIn (pc := 22) (tgt := 64) (off := 42) X dX4_escort_22 (by decide) (by decide) (by decide) rfl (by decide) ?_
        refine mo_al0 (pc := 64) X dX4_escort_64 ?_
        refine mo_f_X4_12 (pc := 65) X dX4_escort_65 (mo_Ms_o hx) (mo_Ms_p0 hx) ?_
        refine mo_f_X4_227 (pc := 68) X dX4_escort_68 (mo_St_o (mo_Ms_r0 hx)) (mo_St_p11 (mo_Ms_r0 hx)) ?_
        refine mo_il1 (pc := 71) X dX4_escort_71 ?_
        refine mo_cVI (pc := 72) (As := [_]) X mo_k_X4_97 mo_y_yX1_get rfl dX4_escort_72 (ct_get (a := x + 1 + 12) (j := on) (mo_St_r11 (mo_Ms_r0 hx)) rfl (by omega) (by omega) (by omega) (by omega)) (mo_St_r11 (mo_Ms_r0 hx)).1 rfl (by decide) (by decide) (Nat.le_of_ble_eq_true rfl) ?_
        rintro r_72 _ ⟨h_72, rfl⟩
        refine mo_iret (pc := 75) X Y rfl dX4_escort_75 ⟨rfl, rfl, rfl, by omega, by omega, ?_⟩
        exact congrArg (fun q => some (mo_iv q)) (h_72.trans (sL on (by omega)))
      · exfalso
        omega
    · skip
      refine mo_al0 (pc := 0) X dX4_escort_0 ?_
      refine mo_f_X4_12 (pc := 1) X dX4_escort_1 (mo_Ms_o hx) (mo_Ms_p0 hx) ?_
      refine mo_il1 (pc := 4) X dX4_escort_4 ?_
      refine mo_cVI (pc := 5) (As := [_]) X mo_k_X4_120 mo_y_yX2_hasEscort rfl dX4_escort_5 (ct2_hasEscort (mo_Ms_r0 hx) (by omega) (by omega)) (mo_St_o (mo_Ms_r0 hx)) rfl (by decide) (by decide) (Nat.le_of_ble_eq_true rfl) ?_
      rintro r_5 _ ⟨h_5, rfl⟩
      refine mo_if_ne (pc := 8) (tgt := 21) X dX4_escort_8 (by decide) ?_ (fun c_8 => ?_) (fun c_8 => ?_)
      · omega
      · skip
        refine mo_il2 (pc := 21) X dX4_escort_21 ?_
        refine mo_swIn (pc := 22) (tgt := 76) (off := 54) X dX4_escort_22 (by decide) (by decide) (by decide) rfl (by decide) ?_
        refine mo_al0 (pc := 76) X dX4_escort_76 ?_
        refine mo_f_X4_12 (pc := 77) X dX4_escort_77 (mo_Ms_o hx) (mo_Ms_p0 hx) ?_
        refine mo_il1 (pc := 80) X dX4_escort_80 ?_
        refine mo_al0 (pc := 81) X dX4_escort_81 ?_
        refine mo_f_X4_12 (pc := 82) X dX4_escort_82 (mo_Ms_o hx) (mo_Ms_p0 hx) ?_
        refine mo_f_X4_195 (pc := 85) X dX4_escort_85 (mo_St_o (mo_Ms_r0 hx)) ?_
        rw [s4]
        refine mo_cVI (pc := 88) (As := [_, _]) X mo_k_X4_230 mo_y_yX2_meetingsWith rfl dX4_escort_88 (ct2_meetingsWith (e := on) (w := g 0) (mo_Ms_r0 hx) hS hI (by omega) (by omega) (by omega)) (mo_St_o (mo_Ms_r0 hx)) rfl (by decide) (by decide) (Nat.le_of_ble_eq_true rfl) ?_
        rintro r_88 _ ⟨h_88, rfl⟩
        refine mo_iret (pc := 91) X Y rfl dX4_escort_91 ⟨rfl, rfl, rfl, by omega, by omega, ?_⟩
        exact congrArg (fun q => some (mo_iv q)) (h_88)
      · exfalso
        omega
    · skip
      refine mo_al0 (pc := 0) X dX4_escort_0 ?_
      refine mo_f_X4_12 (pc := 1) X dX4_escort_1 (mo_Ms_o hx) (mo_Ms_p0 hx) ?_
      refine mo_il1 (pc := 4) X dX4_escort_4 ?_
      refine mo_cVI (pc := 5) (As := [_]) X mo_k_X4_120 mo_y_yX2_hasEscort rfl dX4_escort_5 (ct2_hasEscort (mo_Ms_r0 hx) (by omega) (by omega)) (mo_St_o (mo_Ms_r0 hx)) rfl (by decide) (by decide) (Nat.le_of_ble_eq_true rfl) ?_
      rintro r_5 _ ⟨h_5, rfl⟩
      refine mo_if_ne (pc := 8) (tgt := 21) X dX4_escort_8 (by decide) ?_ (fun c_8 => ?_) (fun c_8 => ?_)
      · omega
      · skip
        refine mo_il2 (pc := 21) X dX4_escort_21 ?_
        refine mo_swIn (pc := 22) (tgt := 92) (off := 70) X dX4_escort_22 (by decide) (by decide) (by decide) rfl (by decide) ?_
        refine mo_al0 (pc := 92) X dX4_escort_92 ?_
        refine mo_f_X4_12 (pc := 93) X dX4_escort_93 (mo_Ms_o hx) (mo_Ms_p0 hx) ?_
        refine mo_f_X4_233 (pc := 96) X dX4_escort_96 (mo_St_o (mo_Ms_r0 hx)) (mo_St_p12 (mo_Ms_r0 hx)) ?_
        refine mo_il1 (pc := 99) X dX4_escort_99 ?_
        refine mo_cVI (pc := 100) (As := [_]) X mo_k_X4_97 mo_y_yX1_get rfl dX4_escort_100 (ct_get (a := x + 1 + 14) (j := on) (mo_St_r12 (mo_Ms_r0 hx)) rfl (by omega) (by omega) (by omega) (by omega)) (mo_St_r12 (mo_Ms_r0 hx)).1 rfl (by decide) (by decide) (Nat.le_of_ble_eq_true rfl) ?_
        rintro r_100 _ ⟨h_100, rfl⟩
        refine mo_iret (pc := 103) X Y rfl dX4_escort_103 ⟨rfl, rfl, rfl, by omega, by omega, ?_⟩
        exact congrArg (fun q => some (mo_iv q)) (h_100.trans (sW on (by omega)))
      · exfalso
        omega
  · skip
    refine mo_al0 (pc := 0) X dX4_escort_0 ?_
    refine mo_f_X4_12 (pc := 1) X dX4_escort_1 (mo_Ms_o hx) (mo_Ms_p0 hx) ?_
    refine mo_il1 (pc := 4) X dX4_escort_4 ?_
    refine mo_cVI (pc := 5) (As := [_]) X mo_k_X4_120 mo_y_yX2_hasEscort rfl dX4_escort_5 (ct2_hasEscort (mo_Ms_r0 hx) (by omega) (by omega)) (mo_St_o (mo_Ms_r0 hx)) rfl (by decide) (by decide) (Nat.le_of_ble_eq_true rfl) ?_
    rintro r_5 _ ⟨h_5, rfl⟩
    refine mo_if_ne (pc := 8) (tgt := 21) X dX4_escort_8 (by decide) ?_ (fun c_8 => ?_) (fun c_8 => ?_)
    · omega
    · skip
      refine mo_il2 (pc := 21) X dX4_escort_21 ?_
      refine mo_swOut (pc := 22) (tgt := 104) X dX4_escort_22 (by omega) (by omega) (by decide) ?_
      exfalso
      omega
    · skip
      exfalso
      omega
set_option maxHeartbeats 4000000 in
set_option maxRecDepth 100000 in
theorem nt4_meeting {lf : Launch} {ρf : mo_E} {G : mo_G} {M : mo_M} {t : Nat} {g : Nat → Int} {B : Int} {x : Nat} (hx : mo_Ms G x) (hS : mo_SR M (x + 1) g) (hI : mo_Iv g B) (hB : B ≤ 800000000) {o w pl : Int} (ho : mo_In o) (hw : mo_In w) (hpl : pl = mo_ff (fun k => decide (mo_fld g k 0 = o)) (mo_nk g)) (hok : (pl ≠ -1) ∧ (0 ≤ w ∧ w ≤ 5)) : mo_Ct lf ρf yX4_meeting cX4_meeting 4 (some .int) 6 0 0 [.ref x, mo_iv o, mo_iv w] G M t (fun u G' M' t' => G' = G ∧ t' = t ∧ M' = M ∧ (pl ≠ -1) ∧ (0 ≤ w ∧ w ≤ 5) ∧ u = some (mo_iv (mo_fld g pl.toNat (w.toNat + 1)))) := by
  refine mo_ofW (ls0 := [some (.ref x), some (mo_iv o), some (mo_iv w), none]) (by decide) rfl (Nat.le_of_ble_eq_true rfl) ?_
  intro κ X Y
  have X : mo_Cx κ lf ρf cX4_meeting 4 RX4 (some .int) 6 := X
  obtain ⟨hI0, hI1, hI2, hI3, hI4, hI5, hI6, hI7, hIh, hIa, hIe, hIm, hIs, hIl, hIw, hIr, hIt, hIs2, hIs3, hIz⟩ := id hI
  obtain ⟨s0, s1, s2, s3, s4, s5, sH, sA, sE, sM, sS, sL, sW, sRo, sF⟩ := id hS
  have hnk : ((mo_nk g : Nat) : Int) = g 7 := by unfold mo_nk; omega
  have hplb : pl = -1 ∨ (0 ≤ pl ∧ pl < g 7) := by
    rw [hpl]
    rcases mo_ff_cases (fun k => decide (mo_fld g k 0 = o)) (mo_nk g) with ⟨pf1, pf2⟩ | ⟨pk, pf1, pf2, pf3, pf4⟩
    · exact Or.inl pf1
    · exact Or.inr (by omega)
  refine mo_al0 (pc := 0) X dX4_meeting_0 ?_
  refine mo_f_X4_12 (pc := 1) X dX4_meeting_1 (mo_Ms_o hx) (mo_Ms_p0 hx) ?_
  refine mo_il1 (pc := 4) X dX4_meeting_4 ?_
  refine mo_cVI (pc := 5) (As := [_]) X mo_k_X4_173 mo_y_yX2_placeOf rfl dX4_meeting_5 (ct2_placeOf (mo_Ms_r0 hx) hS hI (by omega) ho) (mo_St_o (mo_Ms_r0 hx)) rfl (by decide) (by decide) (Nat.le_of_ble_eq_true rfl) ?_
  rintro r_5 _ ⟨h_5, rfl⟩
  rw [← hpl] at h_5
  have h_5 := h_5.symm
  subst h_5
  refine mo_is3 (pc := 8) X dX4_meeting_8 rfl (by decide) ?_
  refine mo_il3 (pc := 9) X dX4_meeting_9 ?_
  refine mo_iconst (pc := 10) X dX4_meeting_10 ?_
  refine mo_ic_ne (pc := 11) (tgt := 24) X dX4_meeting_11 (by decide) ?_ ?_ (fun c_11 => ?_) (fun c_11 => ?_)
  · omega
  · omega
  · skip
    refine mo_il2 (pc := 24) X dX4_meeting_24 ?_
    refine mo_if_lt (pc := 25) (tgt := 33) X dX4_meeting_25 (by decide) ?_ (fun c_25 => ?_) (fun c_25 => ?_)
    · omega
    · skip
      exfalso
      omega
    · skip
      refine mo_il2 (pc := 28) X dX4_meeting_28 ?_
      refine mo_iconst (pc := 29) X dX4_meeting_29 ?_
      refine mo_ic_le (pc := 30) (tgt := 43) X dX4_meeting_30 (by decide) ?_ ?_ (fun c_30 => ?_) (fun c_30 => ?_)
      · omega
      · omega
      · skip
        refine mo_al0 (pc := 43) X dX4_meeting_43 ?_
        refine mo_f_X4_12 (pc := 44) X dX4_meeting_44 (mo_Ms_o hx) (mo_Ms_p0 hx) ?_
        refine mo_il3 (pc := 47) X dX4_meeting_47 ?_
        refine mo_il2 (pc := 48) X dX4_meeting_48 ?_
        obtain ⟨pk, rfl⟩ := Int.eq_ofNat_of_zero_le (show 0 ≤ pl by omega)
        obtain ⟨wn, rfl⟩ := Int.eq_ofNat_of_zero_le (show 0 ≤ w by omega)
        refine mo_cVI (pc := 49) (As := [_, _]) X mo_k_X4_178 mo_y_yX2_fact rfl dX4_meeting_49 (ct2_fld (g := g) (k := pk) (j := wn) (q := wn + 1) (mo_Ms_r0 hx) hS (by omega) (by omega) (by omega) (by omega)) (mo_St_o (mo_Ms_r0 hx)) rfl (by decide) (by decide) (Nat.le_of_ble_eq_true rfl) ?_
        rintro r_49 _ ⟨h_49, rfl⟩
        refine mo_iret (pc := 52) X Y rfl dX4_meeting_52 ⟨rfl, rfl, rfl, by omega, by omega, ?_⟩
        simp only [Int.toNat_natCast]
        rw [h_49]
      · skip
        exfalso
        omega
  · skip
    exfalso
    omega
