set_option maxHeartbeats 4000000 in
set_option maxRecDepth 100000 in
theorem nt4_why {lf : Launch} {ρf : mo_E} {G : mo_G} {M : mo_M} {t : Nat} {g : Nat → Int} {B : Int} {x : Nat} (hx : mo_Ms G x) (hS : mo_SR M (x + 1) g) (hI : mo_Iv g B) (hB : B ≤ 800000000) {a w q e v : Int} (ha : mo_In a) (hw : mo_In w) (hq : mo_In q) (he : mo_In e) (hv : mo_In v) (hok : ((0 ≤ a ∧ a < g 4) ∧ (0 ≤ e ∧ e < g 5) ∧ (0 ≤ v ∧ v < g 6)) ∧ ((0 ≤ w ∧ w ≤ 19) ∧ (0 ≤ q ∧ q ≤ 27))) : mo_Ct lf ρf yX4_why cX4_why 6 (some .int) 6 0 0 [.ref x, mo_iv a, mo_iv w, mo_iv q, mo_iv e, mo_iv v] G M t (fun u G' M' t' => G' = G ∧ t' = t ∧ (∀ a, (a < x + 20 ∨ x + 38 < a) → (a < x + 116 ∨ x + 126 < a) → M' a = M a) ∧ ((0 ≤ a ∧ a < g 4) ∧ (0 ≤ e ∧ e < g 5) ∧ (0 ≤ v ∧ v < g 6)) ∧ ((0 ≤ w ∧ w ≤ 19) ∧ (0 ≤ q ∧ q ≤ 27)) ∧ u = some (mo_iv (mo_rs g a.toNat w.toNat q.toNat e.toNat v.toNat))) := by
  refine mo_ofW (ls0 := [some (.ref x), some (mo_iv a), some (mo_iv w), some (mo_iv q), some (mo_iv e), some (mo_iv v)]) (by decide) rfl (Nat.le_of_ble_eq_true rfl) ?_
  intro κ X Y
  have X : mo_Cx κ lf ρf cX4_why 6 RX4 (some .int) 6 := X
  obtain ⟨hI0, hI1, hI2, hI3, hI4, hI5, hI6, hI7, hIh, hIa, hIe, hIm, hIs, hIl, hIw, hIr, hIt, hIs2, hIs3, hIz⟩ := id hI
  obtain ⟨s0, s1, s2, s3, s4, s5, sH, sA, sE, sM, sS, sL, sW, sRo, sF⟩ := id hS
  refine mo_al0 (pc := 0) X dX4_why_0 ?_
  refine mo_f_X4_12 (pc := 1) X dX4_why_1 (mo_Ms_o hx) (mo_Ms_p0 hx) ?_
  refine mo_il1 (pc := 4) X dX4_why_4 ?_
  refine mo_cVI (pc := 5) (As := [_]) X mo_k_X4_70 mo_y_yX2_hasOrder rfl dX4_why_5 (ct2_hasOrder (mo_Ms_r0 hx) ha (by omega)) (mo_St_o (mo_Ms_r0 hx)) rfl (by decide) (by decide) (Nat.le_of_ble_eq_true rfl) ?_
  rintro r_5 _ ⟨h_5, rfl⟩
  refine mo_if_eq (pc := 8) (tgt := 35) X dX4_why_8 (by decide) ?_ (fun c_8 => ?_) (fun c_8 => ?_)
  · omega
  · skip
    exfalso
    omega
  · skip
    refine mo_al0 (pc := 11) X dX4_why_11 ?_
    refine mo_f_X4_12 (pc := 12) X dX4_why_12 (mo_Ms_o hx) (mo_Ms_p0 hx) ?_
    refine mo_il4 (pc := 15) X dX4_why_15 ?_
    refine mo_cVI (pc := 17) (As := [_]) X mo_k_X4_120 mo_y_yX2_hasEscort rfl dX4_why_17 (ct2_hasEscort (mo_Ms_r0 hx) he (by omega)) (mo_St_o (mo_Ms_r0 hx)) rfl (by decide) (by decide) (Nat.le_of_ble_eq_true rfl) ?_
    rintro r_17 _ ⟨h_17, rfl⟩
    refine mo_if_eq (pc := 20) (tgt := 35) X dX4_why_20 (by decide) ?_ (fun c_20 => ?_) (fun c_20 => ?_)
    · omega
    · skip
      exfalso
      omega
    · skip
      refine mo_al0 (pc := 23) X dX4_why_23 ?_
      refine mo_f_X4_12 (pc := 24) X dX4_why_24 (mo_Ms_o hx) (mo_Ms_p0 hx) ?_
      refine mo_il5 (pc := 27) X dX4_why_27 ?_
      refine mo_cVI (pc := 29) (As := [_]) X mo_k_X4_140 mo_y_yX2_hasVenue rfl dX4_why_29 (ct2_hasVenue (mo_Ms_r0 hx) hv (by omega)) (mo_St_o (mo_Ms_r0 hx)) rfl (by decide) (by decide) (Nat.le_of_ble_eq_true rfl) ?_
      rintro r_29 _ ⟨h_29, rfl⟩
      refine mo_if_ne (pc := 32) (tgt := 45) X dX4_why_32 (by decide) ?_ (fun c_32 => ?_) (fun c_32 => ?_)
      · omega
      · skip
        refine mo_il2 (pc := 45) X dX4_why_45 ?_
        refine mo_cSI (pc := 46) (As := [_]) X mo_k_X4_145 mo_y_yX4_isWeek dX4_why_46 (ct4_isWeek hw) rfl (by decide) (by decide) (Nat.le_of_ble_eq_true rfl) ?_
        rintro r_46 _ ⟨h_46, rfl⟩
        refine mo_if_eq (pc := 49) (tgt := 59) X dX4_why_49 (by decide) ?_ (fun c_49 => ?_) (fun c_49 => ?_)
        · omega
        · skip
          exfalso
          omega
        · skip
          refine mo_il3 (pc := 52) X dX4_why_52 ?_
          refine mo_cSI (pc := 53) (As := [_]) X mo_k_X4_148 mo_y_yX4_isSlot dX4_why_53 (ct4_isSlot hq) rfl (by decide) (by decide) (Nat.le_of_ble_eq_true rfl) ?_
          rintro r_53 _ ⟨h_53, rfl⟩
          refine mo_if_ne (pc := 56) (tgt := 69) X dX4_why_56 (by decide) ?_ (fun c_56 => ?_) (fun c_56 => ?_)
          · omega
          · skip
            obtain ⟨an, rfl⟩ := Int.eq_ofNat_of_zero_le (show 0 ≤ a by omega)
            obtain ⟨wn, rfl⟩ := Int.eq_ofNat_of_zero_le (show 0 ≤ w by omega)
            obtain ⟨qn, rfl⟩ := Int.eq_ofNat_of_zero_le (show 0 ≤ q by omega)
            obtain ⟨en, rfl⟩ := Int.eq_ofNat_of_zero_le (show 0 ≤ e by omega)
            obtain ⟨vn, rfl⟩ := Int.eq_ofNat_of_zero_le (show 0 ≤ v by omega)
            refine mo_al0 (pc := 69) X dX4_why_69 ?_
            refine mo_il1 (pc := 70) X dX4_why_70 ?_
            refine mo_il2 (pc := 71) X dX4_why_71 ?_
            refine mo_il3 (pc := 72) X dX4_why_72 ?_
            refine mo_il4 (pc := 73) X dX4_why_73 ?_
            refine mo_il5 (pc := 75) X dX4_why_75 ?_
            refine mo_cVI (pc := 77) (As := [_, _, _, _, _]) X mo_k_X4_153 mo_y_yX4_reasonAgainst rfl dX4_why_77 (ct4_reasonAgainst (o := an) (w := wn) (q := qn) (e := en) (v := vn) hx hS hI (by omega) (by omega) (by omega) (by omega) (by omega) (by omega)) (mo_Ms_o hx) rfl (by decide) (by decide) (Nat.le_of_ble_eq_true rfl) ?_
            rintro r_77 M_77 ⟨h_77, f_77⟩
            refine mo_iret (pc := 80) X Y rfl dX4_why_80 ⟨rfl, rfl, fun a a1 a2 => f_77 a (by omega), by omega, by omega, ?_⟩
            simp only [Int.toNat_natCast]
            rw [h_77]
          · skip
            exfalso
            omega
      · skip
        exfalso
        omega
set_option maxHeartbeats 4000000 in
set_option maxRecDepth 100000 in
theorem nt4_firstSlot {lf : Launch} {ρf : mo_E} {G : mo_G} {M : mo_M} {t : Nat} {g : Nat → Int} {B : Int} {x : Nat} (hx : mo_Ms G x) (hS : mo_SR M (x + 1) g) (hI : mo_Iv g B) (hB : B ≤ 800000000) {o w : Int} (ho : mo_In o) (hw : mo_In w) (hok : (0 ≤ o ∧ o < g 4) ∧ (0 ≤ w ∧ w ≤ 19)) : mo_Ct lf ρf yX4_firstSlot cX4_firstSlot 3 (some .int) 6 0 0 [.ref x, mo_iv o, mo_iv w] G M t (fun u G' M' t' => G' = G ∧ t' = t ∧ (∀ a, (a < x + 20 ∨ x + 38 < a) → (a < x + 116 ∨ x + 126 < a) → M' a = M a) ∧ (0 ≤ o ∧ o < g 4) ∧ (0 ≤ w ∧ w ≤ 19) ∧ u = some (mo_iv (mo_sf g w o.toNat))) := by
  refine mo_ofW (ls0 := [some (.ref x), some (mo_iv o), some (mo_iv w)]) (by decide) rfl (Nat.le_of_ble_eq_true rfl) ?_
  intro κ X Y
  have X : mo_Cx κ lf ρf cX4_firstSlot 3 RX4 (some .int) 6 := X
  obtain ⟨hI0, hI1, hI2, hI3, hI4, hI5, hI6, hI7, hIh, hIa, hIe, hIm, hIs, hIl, hIw, hIr, hIt, hIs2, hIs3, hIz⟩ := id hI
  obtain ⟨s0, s1, s2, s3, s4, s5, sH, sA, sE, sM, sS, sL, sW, sRo, sF⟩ := id hS
  refine mo_al0 (pc := 0) X dX4_firstSlot_0 ?_
  refine mo_f_X4_12 (pc := 1) X dX4_firstSlot_1 (mo_Ms_o hx) (mo_Ms_p0 hx) ?_
  refine mo_il1 (pc := 4) X dX4_firstSlot_4 ?_
  refine mo_cVI (pc := 5) (As := [_]) X mo_k_X4_70 mo_y_yX2_hasOrder rfl dX4_firstSlot_5 (ct2_hasOrder (mo_Ms_r0 hx) ho (by omega)) (mo_St_o (mo_Ms_r0 hx)) rfl (by decide) (by decide) (Nat.le_of_ble_eq_true rfl) ?_
  rintro r_5 _ ⟨h_5, rfl⟩
  refine mo_if_ne (pc := 8) (tgt := 21) X dX4_firstSlot_8 (by decide) ?_ (fun c_8 => ?_) (fun c_8 => ?_)
  · omega
  · skip
    refine mo_il2 (pc := 21) X dX4_firstSlot_21 ?_
    refine mo_cSI (pc := 22) (As := [_]) X mo_k_X4_145 mo_y_yX4_isWeek dX4_firstSlot_22 (ct4_isWeek hw) rfl (by decide) (by decide) (Nat.le_of_ble_eq_true rfl) ?_
    rintro r_22 _ ⟨h_22, rfl⟩
    refine mo_if_ne (pc := 25) (tgt := 38) X dX4_firstSlot_25 (by decide) ?_ (fun c_25 => ?_) (fun c_25 => ?_)
    · omega
    · skip
      obtain ⟨on, rfl⟩ := Int.eq_ofNat_of_zero_le (show 0 ≤ o by omega)
      refine mo_al0 (pc := 38) X dX4_firstSlot_38 ?_
      refine mo_f_X4_12 (pc := 39) X dX4_firstSlot_39 (mo_Ms_o hx) (mo_Ms_p0 hx) ?_
      refine mo_il2 (pc := 42) X dX4_firstSlot_42 ?_
      refine mo_cVI (pc := 43) (As := [_]) X mo_k_X4_164 mo_y_yX2_isOver rfl dX4_firstSlot_43 (ct2_isOver (mo_Ms_r0 hx) hw (by omega)) (mo_St_o (mo_Ms_r0 hx)) rfl (by decide) (by decide) (Nat.le_of_ble_eq_true rfl) ?_
      rintro r_43 _ ⟨h_43, rfl⟩
      refine mo_if_ne (pc := 46) (tgt := 59) X dX4_firstSlot_46 (by decide) ?_ (fun c_46 => ?_) (fun c_46 => ?_)
      · omega
      · skip
        refine mo_iconst (pc := 59) X dX4_firstSlot_59 ?_
        refine mo_iret (pc := 60) X Y rfl dX4_firstSlot_60 ⟨rfl, rfl, fun a a1 a2 => rfl, by omega, by omega, ?_⟩
        unfold mo_sf
        rw [if_pos (by omega)]
      · skip
        refine mo_al0 (pc := 49) X dX4_firstSlot_49 ?_
        refine mo_f_X4_12 (pc := 50) X dX4_firstSlot_50 (mo_Ms_o hx) (mo_Ms_p0 hx) ?_
        refine mo_cVI (pc := 53) (As := []) X mo_k_X4_259 mo_y_yX2_isFull rfl dX4_firstSlot_53 (ct2_isFull (mo_Ms_r0 hx) (by omega)) (mo_St_o (mo_Ms_r0 hx)) rfl (by decide) (by decide) (Nat.le_of_ble_eq_true rfl) ?_
        rintro r_53 _ ⟨h_53, rfl⟩
        refine mo_if_eq (pc := 56) (tgt := 61) X dX4_firstSlot_56 (by decide) ?_ (fun c_56 => ?_) (fun c_56 => ?_)
        · omega
        · skip
          refine mo_al0 (pc := 61) X dX4_firstSlot_61 ?_
          refine mo_f_X4_26 (pc := 62) X dX4_firstSlot_62 (mo_Ms_o hx) (mo_Ms_p3 hx) ?_
          refine mo_al0 (pc := 65) X dX4_firstSlot_65 ?_
          refine mo_f_X4_12 (pc := 66) X dX4_firstSlot_66 (mo_Ms_o hx) (mo_Ms_p0 hx) ?_
          refine mo_il2 (pc := 69) X dX4_firstSlot_69 ?_
          refine mo_cVV (pc := 70) (As := [_, _]) X mo_k_X4_238 mo_y_yX3_open rfl dX4_firstSlot_70 (ct3_open (mo_Ms_r3 hx) (mo_Ms_r0 hx) (by omega) hS hI (by omega) hw) (mo_Bk_o (mo_Ms_r3 hx)) rfl (by decide) (by decide) (Nat.le_of_ble_eq_true rfl) ?_
          rintro M_70 ⟨wb, f_70⟩
          refine mo_al0 (pc := 73) X dX4_firstSlot_73 ?_
          refine mo_f_X4_26 (pc := 74) X dX4_firstSlot_74 (mo_Ms_o hx) (mo_Ms_p3 hx) ?_
          refine mo_al0 (pc := 77) X dX4_firstSlot_77 ?_
          refine mo_f_X4_12 (pc := 78) X dX4_firstSlot_78 (mo_Ms_o hx) (mo_Ms_p0 hx) ?_
          refine mo_il1 (pc := 81) X dX4_firstSlot_81 ?_
          refine mo_cVI (pc := 82) (As := [_, _]) X mo_k_X4_262 mo_y_yX3_search rfl dX4_firstSlot_82 (ct3_search (o := on) (mo_Ms_r3 hx) (mo_Ms_r0 hx) (by omega) (mo_SR_fr hS fun a a1 a2 => f_70 a (by omega)) hI (by omega) wb (by omega) (by omega) (by omega)) (mo_Bk_o (mo_Ms_r3 hx)) rfl (by decide) (by decide) (Nat.le_of_ble_eq_true rfl) ?_
          rintro r_82 M_82 ⟨h_82, f_82, k_82⟩
          refine mo_if_eq (pc := 85) (tgt := 98) X dX4_firstSlot_85 (by decide) ?_ (fun c_85 => ?_) (fun c_85 => ?_)
          · omega
          · skip
            refine mo_iconst (pc := 98) X dX4_firstSlot_98 ?_
            refine mo_iret (pc := 99) X Y rfl dX4_firstSlot_99 ⟨rfl, rfl, fun a a1 a2 => by rw [f_82 a (by omega), f_70 a (by omega)], by omega, by omega, ?_⟩
            simp only [Int.toNat_natCast]
            have hc : mo_sf g w on = -1 := by
              rcases h_82 with q | q
              · exfalso; omega
              · omega
            rw [hc]
          · skip
            refine mo_al0 (pc := 88) X dX4_firstSlot_88 ?_
            refine mo_f_X4_26 (pc := 89) X dX4_firstSlot_89 (mo_Ms_o hx) (mo_Ms_p3 hx) ?_
            refine mo_f_X4_266 (pc := 92) X dX4_firstSlot_92 (mo_Bk_o (mo_Ms_r3 hx)) ?_
            refine mo_goto (pc := 95) (tgt := 99) X dX4_firstSlot_95 (by decide) ?_
            refine mo_iret (pc := 99) X Y rfl dX4_firstSlot_99 ⟨rfl, rfl, fun a a1 a2 => by rw [f_82 a (by omega), f_70 a (by omega)], by omega, by omega, ?_⟩
            simp only [Int.toNat_natCast]
            have hc : mo_sf g w on ≠ -1 := by
              rcases h_82 with q | q
              · exact q.2
              · exfalso; omega
            rw [(k_82 hc).1]
        · skip
          refine mo_iconst (pc := 59) X dX4_firstSlot_59 ?_
          refine mo_iret (pc := 60) X Y rfl dX4_firstSlot_60 ⟨rfl, rfl, fun a a1 a2 => rfl, by omega, by omega, ?_⟩
          unfold mo_sf
          rw [if_pos (by omega)]
    · skip
      exfalso
      omega
  · skip
    exfalso
    omega
set_option maxHeartbeats 4000000 in
set_option maxRecDepth 100000 in
theorem nt4_owedBehind {lf : Launch} {ρf : mo_E} {G : mo_G} {M : mo_M} {t : Nat} {g : Nat → Int} {B : Int} {x : Nat} (hx : mo_Ms G x) (hS : mo_SR M (x + 1) g) (hI : mo_Iv g B) (hB : B ≤ 800000000) {w : Int} (hw : mo_In w) (hok : (0 ≤ w ∧ w ≤ 19) ∧ (g 0 ≤ w)) : mo_Ct lf ρf yX4_owedBehind cX4_owedBehind 2 (some .int) 6 0 0 [.ref x, mo_iv w] G M t (fun u G' M' t' => G' = G ∧ t' = t ∧ (∀ a, (a < x + 20 ∨ x + 38 < a) → (a < x + 116 ∨ x + 126 < a) → M' a = M a) ∧ (0 ≤ w ∧ w ≤ 19) ∧ (g 0 ≤ w) ∧ u = some (mo_iv (mo_owa (mo_pl w.toNat 61 g).2 w.toNat))) := by
  refine mo_ofW (ls0 := [some (.ref x), some (mo_iv w)]) (by decide) rfl (Nat.le_of_ble_eq_true rfl) ?_
  intro κ X Y
  have X : mo_Cx κ lf ρf cX4_owedBehind 2 RX4 (some .int) 6 := X
  obtain ⟨hI0, hI1, hI2, hI3, hI4, hI5, hI6, hI7, hIh, hIa, hIe, hIm, hIs, hIl, hIw, hIr, hIt, hIs2, hIs3, hIz⟩ := id hI
  obtain ⟨s0, s1, s2, s3, s4, s5, sH, sA, sE, sM, sS, sL, sW, sRo, sF⟩ := id hS
  refine mo_il1 (pc := 0) X dX4_owedBehind_0 ?_
  refine mo_cSI (pc := 1) (As := [_]) X mo_k_X4_145 mo_y_yX4_isWeek dX4_owedBehind_1 (ct4_isWeek hw) rfl (by decide) (by decide) (Nat.le_of_ble_eq_true rfl) ?_
  rintro r_1 _ ⟨h_1, rfl⟩
  refine mo_if_ne (pc := 4) (tgt := 17) X dX4_owedBehind_4 (by decide) ?_ (fun c_4 => ?_) (fun c_4 => ?_)
  · omega
  · skip
    refine mo_al0 (pc := 17) X dX4_owedBehind_17 ?_
    refine mo_f_X4_12 (pc := 18) X dX4_owedBehind_18 (mo_Ms_o hx) (mo_Ms_p0 hx) ?_
    refine mo_il1 (pc := 21) X dX4_owedBehind_21 ?_
    refine mo_cVI (pc := 22) (As := [_]) X mo_k_X4_164 mo_y_yX2_isOver rfl dX4_owedBehind_22 (ct2_isOver (mo_Ms_r0 hx) hw (by omega)) (mo_St_o (mo_Ms_r0 hx)) rfl (by decide) (by decide) (Nat.le_of_ble_eq_true rfl) ?_
    rintro r_22 _ ⟨h_22, rfl⟩
    refine mo_if_eq (pc := 25) (tgt := 38) X dX4_owedBehind_25 (by decide) ?_ (fun c_25 => ?_) (fun c_25 => ?_)
    · omega
    · skip
      obtain ⟨wn, rfl⟩ := Int.eq_ofNat_of_zero_le (show 0 ≤ w by omega)
      refine mo_al0 (pc := 38) X dX4_owedBehind_38 ?_
      refine mo_f_X4_16 (pc := 39) X dX4_owedBehind_39 (mo_Ms_o hx) (mo_Ms_p1 hx) ?_
      refine mo_al0 (pc := 42) X dX4_owedBehind_42 ?_
      refine mo_f_X4_12 (pc := 43) X dX4_owedBehind_43 (mo_Ms_o hx) (mo_Ms_p0 hx) ?_
      refine mo_cVV (pc := 46) (As := [_]) X mo_k_X4_269 mo_y_yX2_copyFrom rfl dX4_owedBehind_46 (ct2_copyFrom (mo_Ms_r1 hx) (mo_Ms_r0 hx) (by omega) hS hI) (mo_St_o (mo_Ms_r1 hx)) rfl (by decide) (by decide) (Nat.le_of_ble_eq_true rfl) ?_
      rintro M_46 ⟨s_46, f_46⟩
      refine mo_al0 (pc := 49) X dX4_owedBehind_49 ?_
      refine mo_f_X4_26 (pc := 50) X dX4_owedBehind_50 (mo_Ms_o hx) (mo_Ms_p3 hx) ?_
      refine mo_al0 (pc := 53) X dX4_owedBehind_53 ?_
      refine mo_f_X4_16 (pc := 54) X dX4_owedBehind_54 (mo_Ms_o hx) (mo_Ms_p1 hx) ?_
      refine mo_il1 (pc := 57) X dX4_owedBehind_57 ?_
      refine mo_cVI (pc := 58) (As := [_, _]) X mo_k_X4_169 mo_y_yX3_planAll rfl dX4_owedBehind_58 (ct3_planAll (w := wn) (mo_Ms_r3 hx) (mo_Ms_r1 hx) (by omega) s_46 hI (by omega) (by omega) (by omega)) (mo_Bk_o (mo_Ms_r3 hx)) rfl (by decide) (by decide) (Nat.le_of_ble_eq_true rfl) ?_
      rintro r_58 M_58 ⟨u_58, s_58, f_58⟩
      refine mo_pop (pc := 61) X dX4_owedBehind_61 rfl ?_
      refine mo_al0 (pc := 62) X dX4_owedBehind_62 ?_
      refine mo_f_X4_16 (pc := 63) X dX4_owedBehind_63 (mo_Ms_o hx) (mo_Ms_p1 hx) ?_
      refine mo_il1 (pc := 66) X dX4_owedBehind_66 ?_
      refine mo_cVI (pc := 67) (As := [_]) X mo_k_X4_256 mo_y_yX2_debtOfAll rfl dX4_owedBehind_67 (ct2_debtOfAll (w := wn) (mo_Ms_r1 hx) s_58 (mo_pl_Iv (show wn < 20 by omega) 61 hI).1 (by omega) (by omega)) (mo_St_o (mo_Ms_r1 hx)) rfl (by decide) (by decide) (Nat.le_of_ble_eq_true rfl) ?_
      rintro r_67 _ ⟨h_67, rfl⟩
      refine mo_iret (pc := 70) X Y rfl dX4_owedBehind_70 ⟨rfl, rfl, fun a a1 a2 => by rw [f_58 a (by omega) (by omega), f_46 a (by omega)], by omega, by omega, ?_⟩
      simp only [Int.toNat_natCast]
      rw [h_67]
    · skip
      exfalso
      omega
  · skip
    exfalso
    omega
set_option maxHeartbeats 4000000 in
set_option maxRecDepth 100000 in
theorem nt4_gainBy {lf : Launch} {ρf : mo_E} {G : mo_G} {M : mo_M} {t : Nat} {g : Nat → Int} {B : Int} {x : Nat} (hx : mo_Ms G x) (hS : mo_SR M (x + 1) g) (hI : mo_Iv g B) (hB : B ≤ 800000000) {o w : Int} (ho : mo_In o) (hw : mo_In w) (hok : (0 ≤ o ∧ o < g 5) ∧ (0 ≤ w ∧ w ≤ 19) ∧ (g 0 ≤ w)) : mo_Ct lf ρf yX4_gainBy cX4_gainBy 4 (some .int) 6 0 0 [.ref x, mo_iv o, mo_iv w] G M t (fun u G' M' t' => G' = G ∧ t' = t ∧ (∀ a, (a < x + 20 ∨ x + 38 < a) → (a < x + 116 ∨ x + 126 < a) → M' a = M a) ∧ (0 ≤ o ∧ o < g 5) ∧ (0 ≤ w ∧ w ≤ 19) ∧ (g 0 ≤ w) ∧ u = some (mo_iv ((mo_pl w.toNat 61 (va_up g (198 + o.toNat) 20)).1 - (mo_pl w.toNat 61 g).1))) := by
  refine mo_ofW (ls0 := [some (.ref x), some (mo_iv o), some (mo_iv w), none]) (by decide) rfl (Nat.le_of_ble_eq_true rfl) ?_
  intro κ X Y
  have X : mo_Cx κ lf ρf cX4_gainBy 4 RX4 (some .int) 6 := X
  obtain ⟨hI0, hI1, hI2, hI3, hI4, hI5, hI6, hI7, hIh, hIa, hIe, hIm, hIs, hIl, hIw, hIr, hIt, hIs2, hIs3, hIz⟩ := id hI
  obtain ⟨s0, s1, s2, s3, s4, s5, sH, sA, sE, sM, sS, sL, sW, sRo, sF⟩ := id hS
  refine mo_al0 (pc := 0) X dX4_gainBy_0 ?_
  refine mo_f_X4_12 (pc := 1) X dX4_gainBy_1 (mo_Ms_o hx) (mo_Ms_p0 hx) ?_
  refine mo_il1 (pc := 4) X dX4_gainBy_4 ?_
  refine mo_cVI (pc := 5) (As := [_]) X mo_k_X4_120 mo_y_yX2_hasEscort rfl dX4_gainBy_5 (ct2_hasEscort (mo_Ms_r0 hx) ho (by omega)) (mo_St_o (mo_Ms_r0 hx)) rfl (by decide) (by decide) (Nat.le_of_ble_eq_true rfl) ?_
  rintro r_5 _ ⟨h_5, rfl⟩
  refine mo_if_ne (pc := 8) (tgt := 21) X dX4_gainBy_8 (by decide) ?_ (fun c_8 => ?_) (fun c_8 => ?_)
  · omega
  · skip
    refine mo_il2 (pc := 21) X dX4_gainBy_21 ?_
    refine mo_cSI (pc := 22) (As := [_]) X mo_k_X4_145 mo_y_yX4_isWeek dX4_gainBy_22 (ct4_isWeek hw) rfl (by decide) (by decide) (Nat.le_of_ble_eq_true rfl) ?_
    rintro r_22 _ ⟨h_22, rfl⟩
    refine mo_if_ne (pc := 25) (tgt := 38) X dX4_gainBy_25 (by decide) ?_ (fun c_25 => ?_) (fun c_25 => ?_)
    · omega
    · skip
      refine mo_al0 (pc := 38) X dX4_gainBy_38 ?_
      refine mo_f_X4_12 (pc := 39) X dX4_gainBy_39 (mo_Ms_o hx) (mo_Ms_p0 hx) ?_
      refine mo_il2 (pc := 42) X dX4_gainBy_42 ?_
      refine mo_cVI (pc := 43) (As := [_]) X mo_k_X4_164 mo_y_yX2_isOver rfl dX4_gainBy_43 (ct2_isOver (mo_Ms_r0 hx) hw (by omega)) (mo_St_o (mo_Ms_r0 hx)) rfl (by decide) (by decide) (Nat.le_of_ble_eq_true rfl) ?_
      rintro r_43 _ ⟨h_43, rfl⟩
      refine mo_if_eq (pc := 46) (tgt := 59) X dX4_gainBy_46 (by decide) ?_ (fun c_46 => ?_) (fun c_46 => ?_)
      · omega
      · skip
        obtain ⟨on, rfl⟩ := Int.eq_ofNat_of_zero_le (show 0 ≤ o by omega)
        obtain ⟨wn, rfl⟩ := Int.eq_ofNat_of_zero_le (show 0 ≤ w by omega)
        refine mo_al0 (pc := 59) X dX4_gainBy_59 ?_
        refine mo_f_X4_16 (pc := 60) X dX4_gainBy_60 (mo_Ms_o hx) (mo_Ms_p1 hx) ?_
        refine mo_al0 (pc := 63) X dX4_gainBy_63 ?_
        refine mo_f_X4_12 (pc := 64) X dX4_gainBy_64 (mo_Ms_o hx) (mo_Ms_p0 hx) ?_
        refine mo_cVV (pc := 67) (As := [_]) X mo_k_X4_269 mo_y_yX2_copyFrom rfl dX4_gainBy_67 (ct2_copyFrom (mo_Ms_r1 hx) (mo_Ms_r0 hx) (by omega) hS hI) (mo_St_o (mo_Ms_r1 hx)) rfl (by decide) (by decide) (Nat.le_of_ble_eq_true rfl) ?_
        rintro M_67 ⟨s_67, f_67⟩
        refine mo_al0 (pc := 70) X dX4_gainBy_70 ?_
        refine mo_f_X4_26 (pc := 71) X dX4_gainBy_71 (mo_Ms_o hx) (mo_Ms_p3 hx) ?_
        refine mo_al0 (pc := 74) X dX4_gainBy_74 ?_
        refine mo_f_X4_16 (pc := 75) X dX4_gainBy_75 (mo_Ms_o hx) (mo_Ms_p1 hx) ?_
        refine mo_il2 (pc := 78) X dX4_gainBy_78 ?_
        refine mo_cVI (pc := 79) (As := [_, _]) X mo_k_X4_169 mo_y_yX3_planAll rfl dX4_gainBy_79 (ct3_planAll (w := wn) (mo_Ms_r3 hx) (mo_Ms_r1 hx) (by omega) s_67 hI (by omega) (by omega) (by omega)) (mo_Bk_o (mo_Ms_r3 hx)) rfl (by decide) (by decide) (Nat.le_of_ble_eq_true rfl) ?_
        rintro r_79 M_79 ⟨u_79, s_79, f_79⟩
        refine mo_is3 (pc := 82) X dX4_gainBy_82 rfl (by decide) ?_
        refine mo_al0 (pc := 83) X dX4_gainBy_83 ?_
        refine mo_f_X4_16 (pc := 84) X dX4_gainBy_84 (mo_Ms_o hx) (mo_Ms_p1 hx) ?_
        refine mo_al0 (pc := 87) X dX4_gainBy_87 ?_
        refine mo_f_X4_12 (pc := 88) X dX4_gainBy_88 (mo_Ms_o hx) (mo_Ms_p0 hx) ?_
        refine mo_cVV (pc := 91) (As := [_]) X mo_k_X4_269 mo_y_yX2_copyFrom rfl dX4_gainBy_91 (ct2_copyFrom (mo_Ms_r1 hx) (mo_Ms_r0 hx) (by omega) (mo_SR_fr hS fun a a1 a2 => by rw [f_79 a (by omega) (by omega), f_67 a (by omega)]) hI) (mo_St_o (mo_Ms_r1 hx)) rfl (by decide) (by decide) (Nat.le_of_ble_eq_true rfl) ?_
        rintro M_91 ⟨s_91, f_91⟩
        refine mo_al0 (pc := 94) X dX4_gainBy_94 ?_
        refine mo_f_X4_16 (pc := 95) X dX4_gainBy_95 (mo_Ms_o hx) (mo_Ms_p1 hx) ?_
        refine mo_f_X4_227 (pc := 98) X dX4_gainBy_98 (mo_St_o (mo_Ms_r1 hx)) (mo_St_p11 (mo_Ms_r1 hx)) ?_
        refine mo_il1 (pc := 101) X dX4_gainBy_101 ?_
        refine mo_bipush (pc := 102) X dX4_gainBy_102 (by decide) ?_
        refine mo_cVV (pc := 104) (As := [_, _]) X mo_k_X4_103 mo_y_yX1_set rfl dX4_gainBy_104 (ct_set (a := x + 20 + 12) (j := on) (mo_St_r11 (mo_Ms_r1 hx)) rfl (by omega) (by omega) (by omega) (by omega)) (mo_St_r11 (mo_Ms_r1 hx)).1 rfl (by decide) (by decide) (Nat.le_of_ble_eq_true rfl) ?_
        rintro M_104 h_104
        obtain ⟨t0, t1, t2, t3, t4, t5, t0H, t0A, t0E, t0M, t0S, t0L, t0W, t0Ro, t0F⟩ := id s_91
        have lo : ∀ j, j ≠ 198 + on → va_up g (198 + on) 20 j = g j := fun j a => mo_up_n a
        have s_104 : mo_SR M_104 (x + 20) (va_up g (198 + on) 20) := by
          rw [h_104]
          refine ⟨?_, ?_, ?_, ?_, ?_, ?_, ?_, ?_, ?_, ?_, ?_, ?_, ?_, ?_, ?_⟩
          · rw [mo_ur_n (by omega), lo _ (by omega)]
            exact t0
          · rw [mo_ur_n (by omega), lo _ (by omega)]
            exact t1
          · rw [mo_ur_n (by omega), lo _ (by omega)]
            exact t2
          · rw [mo_ur_n (by omega), lo _ (by omega)]
            exact t3
          · rw [mo_ur_n (by omega), lo _ (by omega)]
            exact t4
          · rw [mo_ur_n (by omega), lo _ (by omega)]
            exact t5
          · intro j hj
            rw [mo_ur_n (by omega), lo _ (by omega)]
            exact t0H j hj
          · intro j hj
            rw [mo_ur_n (by omega), lo _ (by omega)]
            exact t0A j hj
          · intro j hj
            rw [mo_ur_n (by omega), lo _ (by omega)]
            exact t0E j hj
          · intro j hj
            rw [mo_ur_n (by omega), lo _ (by omega)]
            exact t0M j hj
          · intro j hj
            rw [mo_ur_n (by omega), lo _ (by omega)]
            exact t0S j hj
          · intro j hj
            rw [mo_ur_s]
            by_cases c : j = on
            · rw [c, mo_up_s, mo_up_s]
            · rw [mo_up_n c, lo _ (by omega)]
              exact t0L j hj
          · intro j hj
            rw [mo_ur_n (by omega), lo _ (by omega)]
            exact t0W j hj
          · intro j hj
            rw [mo_ur_n (by omega), lo _ (by omega)]
            exact t0Ro j hj
          · intro k j hk hj
            rw [lo 7 (by omega)] at hk
            unfold mo_fld
            rw [mo_ur_n (by omega), lo _ (by omega)]
            exact t0F k j hk hj
        refine mo_al0 (pc := 107) X dX4_gainBy_107 ?_
        refine mo_f_X4_26 (pc := 108) X dX4_gainBy_108 (mo_Ms_o hx) (mo_Ms_p3 hx) ?_
        refine mo_al0 (pc := 111) X dX4_gainBy_111 ?_
        refine mo_f_X4_16 (pc := 112) X dX4_gainBy_112 (mo_Ms_o hx) (mo_Ms_p1 hx) ?_
        refine mo_il2 (pc := 115) X dX4_gainBy_115 ?_
        refine mo_cVI (pc := 116) (As := [_, _]) X mo_k_X4_169 mo_y_yX3_planAll rfl dX4_gainBy_116 (ct3_planAll (w := wn) (mo_Ms_r3 hx) (mo_Ms_r1 hx) (by omega) s_104 (mo_Iv_lim hI (show on < 6 by omega)) (by omega) (by omega) (by rw [lo 0 (by omega)]; omega)) (mo_Bk_o (mo_Ms_r3 hx)) rfl (by decide) (by decide) (Nat.le_of_ble_eq_true rfl) ?_
        rintro r_116 M_116 ⟨u_116, s_116, f_116⟩
        refine mo_il3 (pc := 119) X dX4_gainBy_119 ?_
        refine mo_isub (pc := 120) X dX4_gainBy_120 ?_
        refine mo_iret (pc := 121) X Y rfl dX4_gainBy_121 ⟨rfl, rfl, fun a a1 a2 => by rw [f_116 a (by omega) (by omega), h_104, mo_ur_n (by omega), f_91 a (by omega), f_79 a (by omega) (by omega), f_67 a (by omega)], by omega, by omega, by omega, ?_⟩
        simp only [Int.toNat_natCast]
        rw [u_116, u_79]
      · skip
        exfalso
        omega
    · skip
      exfalso
      omega
  · skip
    exfalso
    omega
