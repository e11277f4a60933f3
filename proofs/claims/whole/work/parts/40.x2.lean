abbrev mo_ob (x a : Nat) : Prop := (a < x + 1 ∨ x + 19 < a) ∧ (a < x + 116 ∨ x + 126 < a)
theorem mo_mw_k {g : Nat → Int} {B : Int} (h : mo_Iv g B) : mo_nk (mo_mw g (mo_nk g)).2 = mo_nk g := by
  unfold mo_nk
  rw [show ((mo_mw g (g 7).toNat).2 7) = g 7 from (mo_mw_b h (mo_nk g) (Nat.le_refl _)).2.1]
set_option maxHeartbeats 4000000 in
set_option maxRecDepth 100000 in
theorem ct4_carryOutOne {lf : Launch} {ρf : mo_E} {G : mo_G} {M : mo_M} {t : Nat} {x : Nat} (hx : mo_Ms G x) {k a b c H : Int} {N W : Nat} {g : Nat → Int} {B : Int} (hS : mo_SR M (x + 1) g) (hI : mo_Iv g B) (hB : B ≤ 999000000) (hk5 : k = 99 ∨ k = 112 ∨ k = 104 ∨ k = 109 ∨ k = 119) (hN : k = 99 ∨ k = 104 ∨ k = 109 → a = N) (hW : k = 99 ∨ k = 112 → b = W) (hH : k = 99 → c = H) (hNr : k = 99 ∨ k = 104 ∨ k = 109 → N < 128) (hWr : k = 99 ∨ k = 112 → W < 20) (hHr : k = 99 → mo_In H) : mo_Ct lf ρf yX4_carryOutOne cX4_carryOutOne 5 (some .boolean) 5 0 0 [.ref x, mo_iv k, mo_iv a, mo_iv b, mo_iv c] G M t (mo_pi G t (fun y M' => ((y = 1 ∧ (mo_dx g k N W H).1 = true) ∨ (y = 0 ∧ ¬ ((mo_dx g k N W H).1 = true))) ∧ mo_SR M' (x + 1) (mo_dx g k N W H).2 ∧ ∀ a, mo_ob x a → M' a = M a)) := by
  refine mo_ofW (ls0 := [some (.ref x), some (mo_iv k), some (mo_iv a), some (mo_iv b), some (mo_iv c)]) (by decide) rfl (Nat.le_of_ble_eq_true rfl) ?_
  intro κ X Y
  have X : mo_Cx κ lf ρf cX4_carryOutOne 5 RX4 (some .boolean) 5 := X
  obtain ⟨hI0, hI1, hI2, hI3, hI4, hI5, hI6, hI7, -⟩ := id hI
  have h4 : M (x + 1) 4 = g 0 := hS.2.2.2.2.1
  have h0 : M (x + 1) 0 = g 4 := hS.1
  refine mo_il1 (pc := 0) X dX4_carryOutOne_0 ?_
  skip
  by_cases k99 : k = 99
  · have hlsw : mo_V κ 0 0 52 [some (.ref x), some (mo_iv k), some (mo_iv a), some (mo_iv b), some (mo_iv c)] [] G M t := by
      have hn := hNr (by omega)
      have hw := hWr (by omega)
      have hh := hHr (by omega)
      obtain rfl := hN (by omega)
      obtain rfl := hW (by omega)
      obtain rfl := hH (by omega)
      refine mo_al0 (pc := 52) X dX4_carryOutOne_52 ?_
      refine mo_f_X4_12 (pc := 53) X dX4_carryOutOne_53 (mo_Ms_o hx) (mo_Ms_p0 hx) ?_
      refine mo_il2 (pc := 56) X dX4_carryOutOne_56 ?_
      refine mo_cVI (pc := 57) (As := [_]) X mo_k_X4_70 mo_y_yX2_hasOrder rfl dX4_carryOutOne_57 (ct2_hasOrder (mo_Ms_r0 hx) (by omega) (by omega)) (mo_St_o (mo_Ms_r0 hx)) rfl (by decide) (by decide) (Nat.le_of_ble_eq_true rfl) ?_
      rintro r_57 _ ⟨h_57, rfl⟩
      refine mo_if_eq (pc := 60) (tgt := 73) X dX4_carryOutOne_60 (by decide) ?_ (fun c_60 => ?_) (fun c_60 => ?_)
      · omega
      · skip
        refine mo_iconst (pc := 73) X dX4_carryOutOne_73 ?_
        refine mo_zret (pc := 74) X Y rfl ?_ dX4_carryOutOne_74 ⟨rfl, rfl, _, rfl, ?_⟩
        · omega
        have c0 : ¬ (((N : Int) < g 4) ∧ (g 0 ≤ (W : Int) ∧ (W : Int) ≤ 19) ∧ (0 ≤ c ∧ c ≤ 7)) := by omega
        have e : mo_dx g k N W c = (false, g) := by unfold mo_dx; rw [if_pos k99, if_neg c0]
        rw [e]
        exact ⟨Or.inr ⟨rfl, fun q => Bool.noConfusion q⟩, hS, fun a ha => rfl⟩
      · skip
        refine mo_al0 (pc := 63) X dX4_carryOutOne_63 ?_
        refine mo_il3 (pc := 64) X dX4_carryOutOne_64 ?_
        refine mo_il4 (pc := 65) X dX4_carryOutOne_65 ?_
        refine mo_cVI (pc := 67) (As := [_, _]) X mo_k_X4_78 mo_y_yX4_mayChange rfl dX4_carryOutOne_67 (ct4_mayChange hx hS hI hB (by omega) hh) (mo_Ms_o hx) rfl (by decide) (by decide) (Nat.le_of_ble_eq_true rfl) ?_
        rintro r_67 _ ⟨h_67, rfl⟩
        refine mo_if_ne (pc := 70) (tgt := 75) X dX4_carryOutOne_70 (by decide) ?_ (fun c_70 => ?_) (fun c_70 => ?_)
        · omega
        · skip
          refine mo_al0 (pc := 75) X dX4_carryOutOne_75 ?_
          refine mo_f_X4_12 (pc := 76) X dX4_carryOutOne_76 (mo_Ms_o hx) (mo_Ms_p0 hx) ?_
          refine mo_il2 (pc := 79) X dX4_carryOutOne_79 ?_
          refine mo_il3 (pc := 80) X dX4_carryOutOne_80 ?_
          refine mo_il4 (pc := 81) X dX4_carryOutOne_81 ?_
          refine mo_cVV (pc := 83) (As := [_, _, _]) X mo_k_X4_87 mo_y_yX2_setHoursFrom rfl dX4_carryOutOne_83 (ct2_setHoursFrom (o := N) (w := W) (mo_Ms_r0 hx) (by omega) (by omega)) (mo_St_o (mo_Ms_r0 hx)) rfl (by decide) (by decide) (Nat.le_of_ble_eq_true rfl) ?_
          rintro M_83 h_83
          refine mo_iconst (pc := 86) X dX4_carryOutOne_86 ?_
          refine mo_zret (pc := 87) X Y rfl ?_ dX4_carryOutOne_87 ⟨rfl, rfl, _, rfl, ?_⟩
          · omega
          have c0 : ((N : Int) < g 4) ∧ (g 0 ≤ (W : Int) ∧ (W : Int) ≤ 19) ∧ (0 ≤ c ∧ c ≤ 7) := by omega
          have e : mo_dx g k N W c = (true, mo_gCH g N W c) := by unfold mo_dx; rw [if_pos k99, if_pos c0]
          rw [e, h_83]
          exact ⟨Or.inl ⟨rfl, rfl⟩, mo_SR_CH hS (by omega), fun a ha => by rw [mo_ur_n (by omega)]⟩
        · skip
          refine mo_iconst (pc := 73) X dX4_carryOutOne_73 ?_
          refine mo_zret (pc := 74) X Y rfl ?_ dX4_carryOutOne_74 ⟨rfl, rfl, _, rfl, ?_⟩
          · omega
          have c0 : ¬ (((N : Int) < g 4) ∧ (g 0 ≤ (W : Int) ∧ (W : Int) ≤ 19) ∧ (0 ≤ c ∧ c ≤ 7)) := by omega
          have e : mo_dx g k N W c = (false, g) := by unfold mo_dx; rw [if_pos k99, if_neg c0]
          rw [e]
          exact ⟨Or.inr ⟨rfl, fun q => Bool.noConfusion q⟩, hS, fun a ha => rfl⟩
    subst k99
    refine mo_lsw (pc := 1) (tgt := 52) (off := 51) X dX4_carryOutOne_1 (by omega) (by decide) (by decide) (by decide) ?_
    exact hlsw
  by_cases k112 : k = 112
  · have hlsw : mo_V κ 0 0 88 [some (.ref x), some (mo_iv k), some (mo_iv a), some (mo_iv b), some (mo_iv c)] [] G M t := by
      have hw := hWr (by omega)
      obtain rfl := hW (by omega)
      refine mo_al0 (pc := 88) X dX4_carryOutOne_88 ?_
      refine mo_f_X4_12 (pc := 89) X dX4_carryOutOne_89 (mo_Ms_o hx) (mo_Ms_p0 hx) ?_
      refine mo_il3 (pc := 92) X dX4_carryOutOne_92 ?_
      refine mo_cVI (pc := 93) (As := [_]) X mo_k_X4_164 mo_y_yX2_isOver rfl dX4_carryOutOne_93 (ct2_isOver (mo_Ms_r0 hx) (by omega) (by omega)) (mo_St_o (mo_Ms_r0 hx)) rfl (by decide) (by decide) (Nat.le_of_ble_eq_true rfl) ?_
      rintro r_93 _ ⟨h_93, rfl⟩
      refine mo_if_eq (pc := 96) (tgt := 101) X dX4_carryOutOne_96 (by decide) ?_ (fun c_96 => ?_) (fun c_96 => ?_)
      · omega
      · skip
        refine mo_al0 (pc := 101) X dX4_carryOutOne_101 ?_
        refine mo_f_X4_26 (pc := 102) X dX4_carryOutOne_102 (mo_Ms_o hx) (mo_Ms_p3 hx) ?_
        refine mo_al0 (pc := 105) X dX4_carryOutOne_105 ?_
        refine mo_f_X4_12 (pc := 106) X dX4_carryOutOne_106 (mo_Ms_o hx) (mo_Ms_p0 hx) ?_
        refine mo_il3 (pc := 109) X dX4_carryOutOne_109 ?_
        refine mo_cVI (pc := 110) (As := [_, _]) X mo_k_X4_169 mo_y_yX3_planAll rfl dX4_carryOutOne_110 (ct3_planAll (w := W) (mo_Ms_r3 hx) (mo_Ms_r0 hx) (by omega) hS hI (by omega) hw (by omega)) (mo_Bk_o (mo_Ms_r3 hx)) rfl (by decide) (by decide) (Nat.le_of_ble_eq_true rfl) ?_
        rintro r_110 M_110 ⟨h_110, s_110, f_110⟩
        refine mo_pop (pc := 113) X dX4_carryOutOne_113 rfl ?_
        refine mo_iconst (pc := 114) X dX4_carryOutOne_114 ?_
        refine mo_zret (pc := 115) X Y rfl ?_ dX4_carryOutOne_115 ⟨rfl, rfl, _, rfl, ?_⟩
        · omega
        have e : mo_dx g k N W H = (true, (mo_pl W 61 g).2) := by unfold mo_dx; rw [if_neg k99, if_pos k112, if_neg (by omega)]
        rw [e]
        exact ⟨Or.inl ⟨rfl, rfl⟩, s_110, fun a ha => f_110 a (by omega) (by omega)⟩
      · skip
        refine mo_iconst (pc := 99) X dX4_carryOutOne_99 ?_
        refine mo_zret (pc := 100) X Y rfl ?_ dX4_carryOutOne_100 ⟨rfl, rfl, _, rfl, ?_⟩
        · omega
        have e : mo_dx g k N W H = (false, g) := by unfold mo_dx; rw [if_neg k99, if_pos k112, if_pos (by omega)]
        rw [e]
        exact ⟨Or.inr ⟨rfl, fun q => Bool.noConfusion q⟩, hS, fun a ha => rfl⟩
    subst k112
    refine mo_lsw (pc := 1) (tgt := 88) (off := 87) X dX4_carryOutOne_1 (by omega) (by decide) (by decide) (by decide) ?_
    exact hlsw
  by_cases k104 : k = 104
  · have hlsw : mo_V κ 0 0 116 [some (.ref x), some (mo_iv k), some (mo_iv a), some (mo_iv b), some (mo_iv c)] [] G M t := by
      have hn := hNr (by omega)
      obtain rfl := hN (by omega)
      obtain ⟨pl, hpl⟩ : ∃ q, mo_ff (fun j => decide (mo_fld g j 0 = (N : Int))) (mo_nk g) = q := ⟨_, rfl⟩
      have e : mo_dx g k N W H = (if pl ≠ -1 ∧ mo_op g pl.toNat = true then (true, mo_hd g pl.toNat) else (false, g)) := by
        unfold mo_dx
        rw [if_neg k99, if_neg k112, if_neg (show ¬ k = 119 by omega), hpl, if_pos k104]
      refine mo_al0 (pc := 116) X dX4_carryOutOne_116 ?_
      refine mo_il2 (pc := 117) X dX4_carryOutOne_117 ?_
      refine mo_iconst (pc := 118) X dX4_carryOutOne_118 ?_
      refine mo_cVI (pc := 119) (As := [_, _]) X mo_k_X4_333 mo_y_yX4_settleIfOpen rfl dX4_carryOutOne_119 (ct4_settleIfOpen1 (N := (N : Int)) hx hS hI hB (by omega)) (mo_Ms_o hx) rfl (by decide) (by decide) (Nat.le_of_ble_eq_true rfl) ?_
      rintro r_9 M_9 ⟨h_9, s_9, f_9⟩
      rw [hpl] at h_9 s_9
      refine mo_zret (pc := 122) X Y rfl ?_ dX4_carryOutOne_122 ⟨rfl, rfl, _, rfl, ?_⟩
      · omega
      rw [e]
      rcases h_9 with ⟨q1, q2⟩ | ⟨q1, q2⟩
      · rw [if_pos q2] at s_9 ⊢
        exact ⟨Or.inl ⟨q1, rfl⟩, s_9, fun a ha => f_9 a (by omega)⟩
      · rw [if_neg q2] at s_9 ⊢
        exact ⟨Or.inr ⟨q1, fun q => Bool.noConfusion q⟩, s_9, fun a ha => f_9 a (by omega)⟩
    subst k104
    refine mo_lsw (pc := 1) (tgt := 116) (off := 115) X dX4_carryOutOne_1 (by omega) (by decide) (by decide) (by decide) ?_
    exact hlsw
  by_cases k109 : k = 109
  · have hlsw : mo_V κ 0 0 123 [some (.ref x), some (mo_iv k), some (mo_iv a), some (mo_iv b), some (mo_iv c)] [] G M t := by
      have hn := hNr (by omega)
      obtain rfl := hN (by omega)
      obtain ⟨pl, hpl⟩ : ∃ q, mo_ff (fun j => decide (mo_fld g j 0 = (N : Int))) (mo_nk g) = q := ⟨_, rfl⟩
      have e : mo_dx g k N W H = (if pl ≠ -1 ∧ mo_op g pl.toNat = true then (true, mo_ms g pl.toNat) else (false, g)) := by
        unfold mo_dx
        rw [if_neg k99, if_neg k112, if_neg (show ¬ k = 119 by omega), hpl, if_neg k104]
      refine mo_al0 (pc := 123) X dX4_carryOutOne_123 ?_
      refine mo_il2 (pc := 124) X dX4_carryOutOne_124 ?_
      refine mo_iconst (pc := 125) X dX4_carryOutOne_125 ?_
      refine mo_cVI (pc := 126) (As := [_, _]) X mo_k_X4_333 mo_y_yX4_settleIfOpen rfl dX4_carryOutOne_126 (ct4_settleIfOpen2 (N := (N : Int)) hx hS hI hB (by omega)) (mo_Ms_o hx) rfl (by decide) (by decide) (Nat.le_of_ble_eq_true rfl) ?_
      rintro r_9 M_9 ⟨h_9, s_9, f_9⟩
      rw [hpl] at h_9 s_9
      refine mo_zret (pc := 129) X Y rfl ?_ dX4_carryOutOne_129 ⟨rfl, rfl, _, rfl, ?_⟩
      · omega
      rw [e]
      rcases h_9 with ⟨q1, q2⟩ | ⟨q1, q2⟩
      · rw [if_pos q2] at s_9 ⊢
        exact ⟨Or.inl ⟨q1, rfl⟩, s_9, fun a ha => f_9 a (by omega)⟩
      · rw [if_neg q2] at s_9 ⊢
        exact ⟨Or.inr ⟨q1, fun q => Bool.noConfusion q⟩, s_9, fun a ha => f_9 a (by omega)⟩
    subst k109
    refine mo_lsw (pc := 1) (tgt := 123) (off := 122) X dX4_carryOutOne_1 (by omega) (by decide) (by decide) (by decide) ?_
    exact hlsw
  have k119 : k = 119 := by omega
  have hlsw : mo_V κ 0 0 130 [some (.ref x), some (mo_iv k), some (mo_iv a), some (mo_iv b), some (mo_iv c)] [] G M t := by
    refine mo_al0 (pc := 130) X dX4_carryOutOne_130 ?_
    refine mo_f_X4_12 (pc := 131) X dX4_carryOutOne_131 (mo_Ms_o hx) (mo_Ms_p0 hx) ?_
    refine mo_cVI (pc := 134) (As := []) X mo_k_X4_201 mo_y_yX2_isLastWeek rfl dX4_carryOutOne_134 (ct2_isLastWeek (mo_Ms_r0 hx) (by omega)) (mo_St_o (mo_Ms_r0 hx)) rfl (by decide) (by decide) (Nat.le_of_ble_eq_true rfl) ?_
    rintro r_134 _ ⟨h_134, rfl⟩
    refine mo_if_eq (pc := 137) (tgt := 142) X dX4_carryOutOne_137 (by decide) ?_ (fun c_137 => ?_) (fun c_137 => ?_)
    · omega
    · skip
      refine mo_al0 (pc := 142) X dX4_carryOutOne_142 ?_
      refine mo_f_X4_12 (pc := 143) X dX4_carryOutOne_143 (mo_Ms_o hx) (mo_Ms_p0 hx) ?_
      refine mo_iconst (pc := 146) X dX4_carryOutOne_146 ?_
      refine mo_cVI (pc := 147) (As := [_]) X mo_k_X4_207 mo_y_yX2_settleWeek rfl dX4_carryOutOne_147 (ct2_settleWeek2 (mo_Ms_r0 hx) hS hI (by omega)) (mo_St_o (mo_Ms_r0 hx)) rfl (by decide) (by decide) (Nat.le_of_ble_eq_true rfl) ?_
      rintro r_147 M_147 ⟨h_147, s_147, f_147⟩
      refine mo_pop (pc := 150) X dX4_carryOutOne_150 rfl ?_
      refine mo_al0 (pc := 151) X dX4_carryOutOne_151 ?_
      refine mo_f_X4_12 (pc := 152) X dX4_carryOutOne_152 (mo_Ms_o hx) (mo_Ms_p0 hx) ?_
      refine mo_cVV (pc := 155) (As := []) X mo_k_X4_210 mo_y_yX2_beginNextWeek rfl dX4_carryOutOne_155 (ct2_beginNextWeek (mo_Ms_r0 hx) s_147 (mo_mw_b hI (mo_nk g) (Nat.le_refl _)).1 (by unfold mo_nk; omega)) (mo_St_o (mo_Ms_r0 hx)) rfl (by decide) (by decide) (Nat.le_of_ble_eq_true rfl) ?_
      rintro M_155 ⟨s_155, f_155⟩
      rw [mo_mw_k hI] at s_155
      refine mo_iconst (pc := 158) X dX4_carryOutOne_158 ?_
      refine mo_zret (pc := 159) X Y rfl ?_ dX4_carryOutOne_159 ⟨rfl, rfl, _, rfl, ?_⟩
      · omega
      have e : mo_dx g k N W H = (true, mo_eR g) := by unfold mo_dx; rw [if_neg k99, if_neg k112, if_pos k119, if_neg (by omega)]
      rw [e]
      exact ⟨Or.inl ⟨rfl, rfl⟩, s_155, fun a ha => by rw [f_155 a (by omega), f_147 a (by omega)]⟩
    · skip
      refine mo_iconst (pc := 140) X dX4_carryOutOne_140 ?_
      refine mo_zret (pc := 141) X Y rfl ?_ dX4_carryOutOne_141 ⟨rfl, rfl, _, rfl, ?_⟩
      · omega
      have e : mo_dx g k N W H = (false, g) := by unfold mo_dx; rw [if_neg k99, if_neg k112, if_pos k119, if_pos (by omega)]
      rw [e]
      exact ⟨Or.inr ⟨rfl, fun q => Bool.noConfusion q⟩, hS, fun a ha => rfl⟩
  subst k119
  refine mo_lsw (pc := 1) (tgt := 130) (off := 129) X dX4_carryOutOne_1 (by omega) (by decide) (by decide) (by decide) ?_
  exact hlsw
set_option maxHeartbeats 4000000 in
set_option maxRecDepth 100000 in
theorem ct4_clearText {lf : Launch} {ρf : mo_E} {G : mo_G} {M : mo_M} {t : Nat} {x : Nat} (hx : mo_Ms G x) {n : Nat} (h5 : M (x + 127) 5 = n) : mo_Ct lf ρf yX4_clearText cX4_clearText 2 (some .int) 0 0 0 [.ref x] G M t (mo_pi G t (fun y M' => y = n ∧ M' = mo_ur M (x + 127) (va_up (M (x + 127)) 5 0))) := by
  refine mo_ofW (ls0 := [some (.ref x), none]) (by decide) rfl (Nat.le_of_ble_eq_true rfl) ?_
  intro κ X Y
  have X : mo_Cx κ lf ρf cX4_clearText 2 RX4 (some .int) 0 := X
  refine mo_al0 (pc := 0) X dX4_clearText_0 ?_
  refine mo_f_X4_33 (pc := 1) X dX4_clearText_1 (mo_Ms_o hx) (mo_Ms_p4 hx) ?_
  refine mo_f_X4_275 (pc := 4) X dX4_clearText_4 (mo_Tx_o (mo_Ms_r4 hx)) ?_
  rw [h5]
  refine mo_is1 (pc := 7) X dX4_clearText_7 rfl (by decide) ?_
  refine mo_al0 (pc := 8) X dX4_clearText_8 ?_
  refine mo_f_X4_33 (pc := 9) X dX4_clearText_9 (mo_Ms_o hx) (mo_Ms_p4 hx) ?_
  refine mo_iconst (pc := 12) X dX4_clearText_12 ?_
  refine mo_p_X4_275 (pc := 13) X dX4_clearText_13 (mo_Tx_o (mo_Ms_r4 hx)) ?_
  refine mo_il1 (pc := 16) X dX4_clearText_16 ?_
  refine mo_iret (pc := 17) X Y rfl dX4_clearText_17 ⟨rfl, rfl, _, rfl, ?_⟩
  exact ⟨rfl, rfl⟩
