set_option maxHeartbeats 4000000 in
set_option maxRecDepth 100000 in
theorem ct5_order {lf : Launch} {ρf : mo_E} {G : mo_G} {M : mo_M} {t : Nat} {m : Nat} (hm : mo_Md G m) {B p w : Int} (hI : mo_Iv (M (m + 1)) B) (hB : B ≤ 800000000) (hp : mo_In p) (hw : mo_In w) : mo_Ct lf ρf yX5_order cX5_order 3 (some .int) 3 0 0 [.ref m, mo_iv p, mo_iv w] G M t (mo_pi G t (fun x M' => (¬ (0 ≤ p ∧ p < M (m + 1) 4) ∧ x = 0 ∧ mo_Qr M M' m 1) ∨ ((0 ≤ p ∧ p < M (m + 1) 4) ∧ ¬ (0 ≤ w ∧ w ≤ 6) ∧ x = 0 ∧ mo_Qr M M' m 2) ∨ ((0 ≤ p ∧ p < M (m + 1) 4) ∧ (0 ≤ w ∧ w ≤ 6) ∧ x = mo_ov (M (m + 1)) p.toNat w ∧ mo_Qr M M' m 0))) := by
  refine mo_ofW (ls0 := [some (.ref m), some (mo_iv p), some (mo_iv w)]) (by decide) rfl (Nat.le_of_ble_eq_true rfl) ?_
  intro κ X Y
  have X : mo_Cx κ lf ρf cX5_order 3 RX5 (some .int) 3 := X
  obtain ⟨hI0, hI1, hI2, hI3, hI4, hI5, hI6, hI7, hIh, hIa, hIe, hIm, hIs, hIl, hIw, hIr, hIt, hIs2, hIs3, hIz⟩ := id hI
  have hn : ((mo_nk (M (m + 1)) : Nat) : Int) = M (m + 1) 7 := by unfold mo_nk; omega
  refine mo_al0 (pc := 0) X dX5_order_0 ?_
  refine mo_al0 (pc := 1) X dX5_order_1 ?_
  refine mo_il1 (pc := 2) X dX5_order_2 ?_
  refine mo_cVI (pc := 3) (As := [_]) X mo_k_X5_65 mo_y_yX5_isOrder rfl dX5_order_3 (ct5_isOrder hm hp (by omega)) (mo_Md_o hm) rfl (by decide) (by decide) (Nat.le_of_ble_eq_true rfl) ?_
  rintro r_3 _ ⟨h_3, rfl⟩
  refine mo_il2 (pc := 6) X dX5_order_6 ?_
  refine mo_i2l (pc := 7) X dX5_order_7 ?_ ?_
  · omega
  refine mo_lconst (pc := 8) (z := 0) X dX5_order_8 (by decide) ?_
  refine mo_ldc2 (pc := 9) (v := 6) X dX5_order_9 mo_wk_X5_174 ?_
  refine mo_cSI (pc := 12) (As := [_, _, _]) X mo_k_X5_44 mo_y_yX5_in dX5_order_12 (ct5_in (by omega) (by omega) (by omega)) rfl (by decide) (by decide) (Nat.le_of_ble_eq_true rfl) ?_
  rintro r_12 _ ⟨h_12, rfl⟩
  refine mo_iconst (pc := 15) X dX5_order_15 ?_
  refine mo_cVI (pc := 16) (As := [_, _, _]) X mo_k_X5_58 mo_y_yX5_goes rfl dX5_order_16 (ct5_goes hm (by omega) (by omega) (by omega)) (mo_Md_o hm) rfl (by decide) (by decide) (Nat.le_of_ble_eq_true rfl) ?_
  rintro r_16 M_16 ⟨T_16, hT_16, h_16⟩
  have eg_16 : M_16 (m + 1) = M (m + 1) := by rw [hT_16, mo_ur_n (by omega)]
  have es_16 : M_16 m 2 = M m 2 := by rw [hT_16, mo_ur_s, mo_up_n (by omega)]
  refine mo_if_eq (pc := 19) (tgt := 31) X dX5_order_19 (by decide) ?_ (fun c_19 => ?_) (fun c_19 => ?_)
  · omega
  · skip
    refine mo_iconst (pc := 31) X dX5_order_31 ?_
    refine mo_iret (pc := 32) X Y rfl dX5_order_32 ⟨rfl, rfl, _, rfl, ?_⟩
    first
      | (rcases h_16 with q | q | q | q
         all_goals
           first
             | exact Or.inl ⟨by omega, rfl, mo_Qr_go hT_16 (by omega)⟩
             | exact Or.inr (Or.inl ⟨by omega, by omega, rfl, mo_Qr_go hT_16 (by omega)⟩)
             | (exfalso; omega))
      | (refine Or.inr (Or.inr ⟨by omega, by omega, ?_, ?_⟩)
         · rw [Int.toNat_natCast]; exact h_25
         · exact mo_Qr_of hT_16 (by omega) (by rw [eg_16]; exact mo_ag_rf _) (fun _ _ => rfl))
  · skip
    refine mo_al0 (pc := 22) X dX5_order_22 ?_
    refine mo_il1 (pc := 23) X dX5_order_23 ?_
    refine mo_il2 (pc := 24) X dX5_order_24 ?_
    obtain ⟨pn, rfl⟩ := Int.eq_ofNat_of_zero_le (show 0 ≤ p by omega)
    refine mo_cVI (pc := 25) (As := [_, _]) X mo_k_X5_176 mo_y_yX5_orderValue rfl dX5_order_25 (ct5_orderValue (B := B) (o := pn) hm (by rw [eg_16]; exact hI) (by omega) (by omega) (by omega)) (mo_Md_o hm) rfl (by decide) (by decide) (Nat.le_of_ble_eq_true rfl) ?_
    rintro r_25 _ ⟨h_25, rfl⟩
    rw [eg_16] at h_25
    refine mo_goto (pc := 28) (tgt := 32) X dX5_order_28 (by decide) ?_
    refine mo_iret (pc := 32) X Y rfl dX5_order_32 ⟨rfl, rfl, _, rfl, ?_⟩
    first
      | (rcases h_16 with q | q | q | q
         all_goals
           first
             | exact Or.inl ⟨by omega, rfl, mo_Qr_go hT_16 (by omega)⟩
             | exact Or.inr (Or.inl ⟨by omega, by omega, rfl, mo_Qr_go hT_16 (by omega)⟩)
             | (exfalso; omega))
      | (refine Or.inr (Or.inr ⟨by omega, by omega, ?_, ?_⟩)
         · rw [Int.toNat_natCast]; exact h_25
         · exact mo_Qr_of hT_16 (by omega) (by rw [eg_16]; exact mo_ag_rf _) (fun _ _ => rfl))
set_option maxHeartbeats 4000000 in
set_option maxRecDepth 100000 in
theorem ct5_hours {lf : Launch} {ρf : mo_E} {G : mo_G} {M : mo_M} {t : Nat} {m : Nat} (hm : mo_Md G m) {B p w : Int} (hI : mo_Iv (M (m + 1)) B) (hB : B ≤ 800000000) (hp : mo_In p) (hw : mo_In w) : mo_Ct lf ρf yX5_hours cX5_hours 3 (some .int) 2 0 0 [.ref m, mo_iv p, mo_iv w] G M t (mo_pi G t (fun x M' => (¬ (0 ≤ p ∧ p < M (m + 1) 4) ∧ x = 0 ∧ mo_Qr M M' m 1) ∨ ((0 ≤ p ∧ p < M (m + 1) 4) ∧ ¬ (0 ≤ w ∧ w ≤ 19) ∧ x = 0 ∧ mo_Qr M M' m 2) ∨ ((0 ≤ p ∧ p < M (m + 1) 4) ∧ (0 ≤ w ∧ w ≤ 19) ∧ x = M (m + 1) (8 + 20 * p.toNat + w.toNat) ∧ mo_Qr M M' m 0))) := by
  refine mo_ofW (ls0 := [some (.ref m), some (mo_iv p), some (mo_iv w)]) (by decide) rfl (Nat.le_of_ble_eq_true rfl) ?_
  intro κ X Y
  have X : mo_Cx κ lf ρf cX5_hours 3 RX5 (some .int) 2 := X
  obtain ⟨hI0, hI1, hI2, hI3, hI4, hI5, hI6, hI7, hIh, hIa, hIe, hIm, hIs, hIl, hIw, hIr, hIt, hIs2, hIs3, hIz⟩ := id hI
  have hn : ((mo_nk (M (m + 1)) : Nat) : Int) = M (m + 1) 7 := by unfold mo_nk; omega
  refine mo_al0 (pc := 0) X dX5_hours_0 ?_
  refine mo_al0 (pc := 1) X dX5_hours_1 ?_
  refine mo_il1 (pc := 2) X dX5_hours_2 ?_
  refine mo_cVI (pc := 3) (As := [_]) X mo_k_X5_65 mo_y_yX5_isOrder rfl dX5_hours_3 (ct5_isOrder hm hp (by omega)) (mo_Md_o hm) rfl (by decide) (by decide) (Nat.le_of_ble_eq_true rfl) ?_
  rintro r_3 _ ⟨h_3, rfl⟩
  refine mo_il2 (pc := 6) X dX5_hours_6 ?_
  refine mo_cSI (pc := 7) (As := [_]) X mo_k_X5_112 mo_y_yX5_isWeek dX5_hours_7 (ct5_isWeek hw) rfl (by decide) (by decide) (Nat.le_of_ble_eq_true rfl) ?_
  rintro r_7 _ ⟨h_7, rfl⟩
  refine mo_iconst (pc := 10) X dX5_hours_10 ?_
  refine mo_cVI (pc := 11) (As := [_, _, _]) X mo_k_X5_58 mo_y_yX5_goes rfl dX5_hours_11 (ct5_goes hm (by omega) (by omega) (by omega)) (mo_Md_o hm) rfl (by decide) (by decide) (Nat.le_of_ble_eq_true rfl) ?_
  rintro r_11 M_11 ⟨T_11, hT_11, h_11⟩
  have eg_11 : M_11 (m + 1) = M (m + 1) := by rw [hT_11, mo_ur_n (by omega)]
  have es_11 : M_11 m 2 = M m 2 := by rw [hT_11, mo_ur_s, mo_up_n (by omega)]
  refine mo_if_eq (pc := 14) (tgt := 34) X dX5_hours_14 (by decide) ?_ (fun c_14 => ?_) (fun c_14 => ?_)
  · omega
  · skip
    refine mo_iconst (pc := 34) X dX5_hours_34 ?_
    refine mo_iret (pc := 35) X Y rfl dX5_hours_35 ⟨rfl, rfl, _, rfl, ?_⟩
    first
      | (rcases h_11 with q | q | q | q
         all_goals
           first
             | exact Or.inl ⟨by omega, rfl, mo_Qr_go hT_11 (by omega)⟩
             | exact Or.inr (Or.inl ⟨by omega, by omega, rfl, mo_Qr_go hT_11 (by omega)⟩)
             | (exfalso; omega))
      | (refine Or.inr (Or.inr ⟨by omega, by omega, ?_, ?_⟩)
         · rfl
         · exact mo_Qr_of hT_11 (by omega) (by rw [eg_11]; exact mo_ag_rf _) (fun _ _ => rfl))
  · skip
    obtain ⟨pn, rfl⟩ := Int.eq_ofNat_of_zero_le (show 0 ≤ p by omega)
    obtain ⟨wn, rfl⟩ := Int.eq_ofNat_of_zero_le (show 0 ≤ w by omega)
    refine mo_al0 (pc := 17) X dX5_hours_17 ?_
    refine mo_f_X5_7 (pc := 18) X dX5_hours_18 (mo_Md_o hm) (mo_Md_p0 hm) ?_
    refine mo_bipush (pc := 21) X dX5_hours_21 (by decide) ?_
    refine mo_bipush (pc := 23) X dX5_hours_23 (by decide) ?_
    refine mo_il1 (pc := 25) X dX5_hours_25 ?_
    refine mo_imul (pc := 26) X dX5_hours_26 ?_
    refine mo_iadd (pc := 27) X dX5_hours_27 ?_
    refine mo_il2 (pc := 28) X dX5_hours_28 ?_
    refine mo_iadd (pc := 29) X dX5_hours_29 ?_
    refine mo_iald (pc := 30) (j := 8 + 20 * pn + wn) X dX5_hours_30 (mo_Md_r0 hm) (by omega) ?_ ?_ (by omega) ?_
    · omega
    · omega
    rw [eg_11]
    refine mo_goto (pc := 31) (tgt := 35) X dX5_hours_31 (by decide) ?_
    refine mo_iret (pc := 35) X Y rfl dX5_hours_35 ⟨rfl, rfl, _, rfl, ?_⟩
    first
      | (rcases h_11 with q | q | q | q
         all_goals
           first
             | exact Or.inl ⟨by omega, rfl, mo_Qr_go hT_11 (by omega)⟩
             | exact Or.inr (Or.inl ⟨by omega, by omega, rfl, mo_Qr_go hT_11 (by omega)⟩)
             | (exfalso; omega))
      | (refine Or.inr (Or.inr ⟨by omega, by omega, ?_, ?_⟩)
         · rfl
         · exact mo_Qr_of hT_11 (by omega) (by rw [eg_11]; exact mo_ag_rf _) (fun _ _ => rfl))
set_option maxHeartbeats 4000000 in
set_option maxRecDepth 100000 in
theorem ct5_owed {lf : Launch} {ρf : mo_E} {G : mo_G} {M : mo_M} {t : Nat} {m : Nat} (hm : mo_Md G m) {B p w : Int} (hI : mo_Iv (M (m + 1)) B) (hB : B ≤ 800000000) (hp : mo_In p) (hw : mo_In w) : mo_Ct lf ρf yX5_owed cX5_owed 3 (some .int) 2 0 0 [.ref m, mo_iv p, mo_iv w] G M t (mo_pi G t (fun x M' => (¬ (0 ≤ p ∧ p < M (m + 1) 4) ∧ x = 0 ∧ mo_Qr M M' m 1) ∨ ((0 ≤ p ∧ p < M (m + 1) 4) ∧ ¬ (0 ≤ w ∧ w ≤ 19) ∧ x = 0 ∧ mo_Qr M M' m 2) ∨ ((0 ≤ p ∧ p < M (m + 1) 4) ∧ (0 ≤ w ∧ w ≤ 19) ∧ x = mo_ow (M (m + 1)) p.toNat w.toNat ∧ mo_Qr M M' m 0))) := by
  refine mo_ofW (ls0 := [some (.ref m), some (mo_iv p), some (mo_iv w)]) (by decide) rfl (Nat.le_of_ble_eq_true rfl) ?_
  intro κ X Y
  have X : mo_Cx κ lf ρf cX5_owed 3 RX5 (some .int) 2 := X
  obtain ⟨hI0, hI1, hI2, hI3, hI4, hI5, hI6, hI7, hIh, hIa, hIe, hIm, hIs, hIl, hIw, hIr, hIt, hIs2, hIs3, hIz⟩ := id hI
  have hn : ((mo_nk (M (m + 1)) : Nat) : Int) = M (m + 1) 7 := by unfold mo_nk; omega
  refine mo_al0 (pc := 0) X dX5_owed_0 ?_
  refine mo_al0 (pc := 1) X dX5_owed_1 ?_
  refine mo_il1 (pc := 2) X dX5_owed_2 ?_
  refine mo_cVI (pc := 3) (As := [_]) X mo_k_X5_65 mo_y_yX5_isOrder rfl dX5_owed_3 (ct5_isOrder hm hp (by omega)) (mo_Md_o hm) rfl (by decide) (by decide) (Nat.le_of_ble_eq_true rfl) ?_
  rintro r_3 _ ⟨h_3, rfl⟩
  refine mo_il2 (pc := 6) X dX5_owed_6 ?_
  refine mo_cSI (pc := 7) (As := [_]) X mo_k_X5_112 mo_y_yX5_isWeek dX5_owed_7 (ct5_isWeek hw) rfl (by decide) (by decide) (Nat.le_of_ble_eq_true rfl) ?_
  rintro r_7 _ ⟨h_7, rfl⟩
  refine mo_iconst (pc := 10) X dX5_owed_10 ?_
  refine mo_cVI (pc := 11) (As := [_, _, _]) X mo_k_X5_58 mo_y_yX5_goes rfl dX5_owed_11 (ct5_goes hm (by omega) (by omega) (by omega)) (mo_Md_o hm) rfl (by decide) (by decide) (Nat.le_of_ble_eq_true rfl) ?_
  rintro r_11 M_11 ⟨T_11, hT_11, h_11⟩
  have eg_11 : M_11 (m + 1) = M (m + 1) := by rw [hT_11, mo_ur_n (by omega)]
  have es_11 : M_11 m 2 = M m 2 := by rw [hT_11, mo_ur_s, mo_up_n (by omega)]
  refine mo_if_eq (pc := 14) (tgt := 26) X dX5_owed_14 (by decide) ?_ (fun c_14 => ?_) (fun c_14 => ?_)
  · omega
  · skip
    refine mo_iconst (pc := 26) X dX5_owed_26 ?_
    refine mo_iret (pc := 27) X Y rfl dX5_owed_27 ⟨rfl, rfl, _, rfl, ?_⟩
    first
      | (rcases h_11 with q | q | q | q
         all_goals
           first
             | exact Or.inl ⟨by omega, rfl, mo_Qr_go hT_11 (by omega)⟩
             | exact Or.inr (Or.inl ⟨by omega, by omega, rfl, mo_Qr_go hT_11 (by omega)⟩)
             | (exfalso; omega))
      | (refine Or.inr (Or.inr ⟨by omega, by omega, ?_, ?_⟩)
         · exact h_20
         · exact mo_Qr_of hT_11 (by omega) (by rw [eg_11]; exact mo_ag_rf _) (fun _ _ => rfl))
  · skip
    refine mo_al0 (pc := 17) X dX5_owed_17 ?_
    refine mo_il1 (pc := 18) X dX5_owed_18 ?_
    refine mo_il2 (pc := 19) X dX5_owed_19 ?_
    obtain ⟨pn, rfl⟩ := Int.eq_ofNat_of_zero_le (show 0 ≤ p by omega)
    obtain ⟨wn, rfl⟩ := Int.eq_ofNat_of_zero_le (show 0 ≤ w by omega)
    refine mo_cVI (pc := 20) (As := [_, _]) X mo_k_X5_126 mo_y_yX5_owes rfl dX5_owed_20 (ct5_owes (B := B) (o := pn) (w := wn) hm (by rw [eg_11]; exact hI) (by omega) (by omega) (by omega)) (mo_Md_o hm) rfl (by decide) (by decide) (Nat.le_of_ble_eq_true rfl) ?_
    rintro r_20 _ ⟨h_20, rfl⟩
    rw [eg_11] at h_20
    refine mo_goto (pc := 23) (tgt := 27) X dX5_owed_23 (by decide) ?_
    refine mo_iret (pc := 27) X Y rfl dX5_owed_27 ⟨rfl, rfl, _, rfl, ?_⟩
    first
      | (rcases h_11 with q | q | q | q
         all_goals
           first
             | exact Or.inl ⟨by omega, rfl, mo_Qr_go hT_11 (by omega)⟩
             | exact Or.inr (Or.inl ⟨by omega, by omega, rfl, mo_Qr_go hT_11 (by omega)⟩)
             | (exfalso; omega))
      | (refine Or.inr (Or.inr ⟨by omega, by omega, ?_, ?_⟩)
         · exact h_20
         · exact mo_Qr_of hT_11 (by omega) (by rw [eg_11]; exact mo_ag_rf _) (fun _ _ => rfl))
set_option maxHeartbeats 4000000 in
set_option maxRecDepth 100000 in
theorem ct5_meeting {lf : Launch} {ρf : mo_E} {G : mo_G} {M : mo_M} {t : Nat} {m : Nat} (hm : mo_Md G m) {B p w pl : Int} (hI : mo_Iv (M (m + 1)) B) (hB : B ≤ 800000000) (hp : mo_In p) (hw : mo_In w) (hpl : pl = mo_ff (fun k => decide (mo_fld (M (m + 1)) k 0 = p)) (mo_nk (M (m + 1)))) : mo_Ct lf ρf yX5_meeting cX5_meeting 4 (some .int) 2 0 0 [.ref m, mo_iv p, mo_iv w] G M t (mo_pi G t (fun x M' => (¬ (pl ≠ -1) ∧ x = 0 ∧ mo_Qr M M' m 1) ∨ ((pl ≠ -1) ∧ ¬ (0 ≤ w ∧ w ≤ 5) ∧ x = 0 ∧ mo_Qr M M' m 2) ∨ ((pl ≠ -1) ∧ (0 ≤ w ∧ w ≤ 5) ∧ x = mo_fld (M (m + 1)) pl.toNat (w.toNat + 1) ∧ mo_Qr M M' m 0))) := by
  refine mo_ofW (ls0 := [some (.ref m), some (mo_iv p), some (mo_iv w), none]) (by decide) rfl (Nat.le_of_ble_eq_true rfl) ?_
  intro κ X Y
  have X : mo_Cx κ lf ρf cX5_meeting 4 RX5 (some .int) 2 := X
  obtain ⟨hI0, hI1, hI2, hI3, hI4, hI5, hI6, hI7, hIh, hIa, hIe, hIm, hIs, hIl, hIw, hIr, hIt, hIs2, hIs3, hIz⟩ := id hI
  have hn : ((mo_nk (M (m + 1)) : Nat) : Int) = M (m + 1) 7 := by unfold mo_nk; omega
  have hplb : pl = -1 ∨ (0 ≤ pl ∧ pl < M (m + 1) 7) := by
    rw [hpl]
    rcases mo_ff_cases (fun k => decide (mo_fld (M (m + 1)) k 0 = p)) (mo_nk (M (m + 1))) with ⟨pf1, pf2⟩ | ⟨pk, pf1, pf2, pf3, pf4⟩
    · exact Or.inl pf1
    · exact Or.inr (by omega)
  refine mo_al0 (pc := 0) X dX5_meeting_0 ?_
  refine mo_il1 (pc := 1) X dX5_meeting_1 ?_
  refine mo_cVI (pc := 2) (As := [_]) X mo_k_X5_145 mo_y_yX5_placeOf rfl dX5_meeting_2 (ct5_placeOf hm hI (by omega) hp) (mo_Md_o hm) rfl (by decide) (by decide) (Nat.le_of_ble_eq_true rfl) ?_
  rintro r_2 _ ⟨h_2, rfl⟩
  rw [← hpl] at h_2
  have h_2 := h_2.symm
  subst h_2
  refine mo_is3 (pc := 5) X dX5_meeting_5 rfl (by decide) ?_
  refine mo_al0 (pc := 6) X dX5_meeting_6 ?_
  refine mo_il3 (pc := 7) X dX5_meeting_7 ?_
  refine mo_iconst (pc := 8) X dX5_meeting_8 ?_
  refine mo_ic_eq (pc := 9) (tgt := 16) X dX5_meeting_9 (by decide) ?_ ?_ (fun c_9 => ?_) (fun c_9 => ?_)
  · omega
  · omega
  · skip
    refine mo_iconst (pc := 16) X dX5_meeting_16 ?_
    refine mo_il2 (pc := 17) X dX5_meeting_17 ?_
    refine mo_i2l (pc := 18) X dX5_meeting_18 ?_ ?_
    · omega
    refine mo_lconst (pc := 19) (z := 0) X dX5_meeting_19 (by decide) ?_
    refine mo_ldc2 (pc := 20) (v := 5) X dX5_meeting_20 mo_wk_X5_179 ?_
    refine mo_cSI (pc := 23) (As := [_, _, _]) X mo_k_X5_44 mo_y_yX5_in dX5_meeting_23 (ct5_in (by omega) (by omega) (by omega)) rfl (by decide) (by decide) (Nat.le_of_ble_eq_true rfl) ?_
    rintro r_23 _ ⟨h_23, rfl⟩
    refine mo_iconst (pc := 26) X dX5_meeting_26 ?_
    refine mo_cVI (pc := 27) (As := [_, _, _]) X mo_k_X5_58 mo_y_yX5_goes rfl dX5_meeting_27 (ct5_goes hm (by omega) (by omega) (by omega)) (mo_Md_o hm) rfl (by decide) (by decide) (Nat.le_of_ble_eq_true rfl) ?_
    rintro r_27 M_27 ⟨T_27, hT_27, h_27⟩
    have eg_27 : M_27 (m + 1) = M (m + 1) := by rw [hT_27, mo_ur_n (by omega)]
    have es_27 : M_27 m 2 = M m 2 := by rw [hT_27, mo_ur_s, mo_up_n (by omega)]
    refine mo_if_eq (pc := 30) (tgt := 44) X dX5_meeting_30 (by decide) ?_ (fun c_30 => ?_) (fun c_30 => ?_)
    · omega
    · skip
      refine mo_iconst (pc := 44) X dX5_meeting_44 ?_
      refine mo_iret (pc := 45) X Y rfl dX5_meeting_45 ⟨rfl, rfl, _, rfl, ?_⟩
      first
        | (rcases h_27 with q | q | q | q
           all_goals
             first
               | exact Or.inl ⟨by omega, rfl, mo_Qr_go hT_27 (by omega)⟩
               | exact Or.inr (Or.inl ⟨by omega, by omega, rfl, mo_Qr_go hT_27 (by omega)⟩)
               | (exfalso; omega))
        | (refine Or.inr (Or.inr ⟨by omega, by omega, ?_, ?_⟩)
           · exact h_38
           · exact mo_Qr_of hT_27 (by omega) (by rw [eg_27]; exact mo_ag_rf _) (fun _ _ => rfl))
    · skip
      exfalso
      omega
  · skip
    refine mo_iconst (pc := 12) X dX5_meeting_12 ?_
    refine mo_goto (pc := 13) (tgt := 17) X dX5_meeting_13 (by decide) ?_
    refine mo_il2 (pc := 17) X dX5_meeting_17 ?_
    refine mo_i2l (pc := 18) X dX5_meeting_18 ?_ ?_
    · omega
    refine mo_lconst (pc := 19) (z := 0) X dX5_meeting_19 (by decide) ?_
    refine mo_ldc2 (pc := 20) (v := 5) X dX5_meeting_20 mo_wk_X5_179 ?_
    refine mo_cSI (pc := 23) (As := [_, _, _]) X mo_k_X5_44 mo_y_yX5_in dX5_meeting_23 (ct5_in (by omega) (by omega) (by omega)) rfl (by decide) (by decide) (Nat.le_of_ble_eq_true rfl) ?_
    rintro r_23 _ ⟨h_23, rfl⟩
    refine mo_iconst (pc := 26) X dX5_meeting_26 ?_
    refine mo_cVI (pc := 27) (As := [_, _, _]) X mo_k_X5_58 mo_y_yX5_goes rfl dX5_meeting_27 (ct5_goes hm (by omega) (by omega) (by omega)) (mo_Md_o hm) rfl (by decide) (by decide) (Nat.le_of_ble_eq_true rfl) ?_
    rintro r_27 M_27 ⟨T_27, hT_27, h_27⟩
    have eg_27 : M_27 (m + 1) = M (m + 1) := by rw [hT_27, mo_ur_n (by omega)]
    have es_27 : M_27 m 2 = M m 2 := by rw [hT_27, mo_ur_s, mo_up_n (by omega)]
    refine mo_if_eq (pc := 30) (tgt := 44) X dX5_meeting_30 (by decide) ?_ (fun c_30 => ?_) (fun c_30 => ?_)
    · omega
    · skip
      refine mo_iconst (pc := 44) X dX5_meeting_44 ?_
      refine mo_iret (pc := 45) X Y rfl dX5_meeting_45 ⟨rfl, rfl, _, rfl, ?_⟩
      first
        | (rcases h_27 with q | q | q | q
           all_goals
             first
               | exact Or.inl ⟨by omega, rfl, mo_Qr_go hT_27 (by omega)⟩
               | exact Or.inr (Or.inl ⟨by omega, by omega, rfl, mo_Qr_go hT_27 (by omega)⟩)
               | (exfalso; omega))
        | (refine Or.inr (Or.inr ⟨by omega, by omega, ?_, ?_⟩)
           · exact h_38
           · exact mo_Qr_of hT_27 (by omega) (by rw [eg_27]; exact mo_ag_rf _) (fun _ _ => rfl))
    · skip
      obtain ⟨pk, rfl⟩ := Int.eq_ofNat_of_zero_le (show 0 ≤ pl by omega)
      obtain ⟨wn, rfl⟩ := Int.eq_ofNat_of_zero_le (show 0 ≤ w by omega)
      refine mo_al0 (pc := 33) X dX5_meeting_33 ?_
      refine mo_il3 (pc := 34) X dX5_meeting_34 ?_
      refine mo_il2 (pc := 35) X dX5_meeting_35 ?_
      refine mo_iconst (pc := 36) X dX5_meeting_36 ?_
      refine mo_iadd (pc := 37) X dX5_meeting_37 ?_
      rw [show ((wn : Int) + 1) = ((wn + 1 : Nat) : Int) by omega]
      refine mo_cVI (pc := 38) (As := [_, _]) X mo_k_X5_89 mo_y_yX5_of rfl dX5_meeting_38 (ct5_of (k := pk) (j := wn + 1) hm (by omega)) (mo_Md_o hm) rfl (by decide) (by decide) (Nat.le_of_ble_eq_true rfl) ?_
      rintro r_38 _ ⟨h_38, rfl⟩
      rw [eg_27] at h_38
      refine mo_goto (pc := 41) (tgt := 45) X dX5_meeting_41 (by decide) ?_
      refine mo_iret (pc := 45) X Y rfl dX5_meeting_45 ⟨rfl, rfl, _, rfl, ?_⟩
      first
        | (rcases h_27 with q | q | q | q
           all_goals
             first
               | exact Or.inl ⟨by omega, rfl, mo_Qr_go hT_27 (by omega)⟩
               | exact Or.inr (Or.inl ⟨by omega, by omega, rfl, mo_Qr_go hT_27 (by omega)⟩)
               | (exfalso; omega))
        | (refine Or.inr (Or.inr ⟨by omega, by omega, ?_, ?_⟩)
           · exact h_38
           · exact mo_Qr_of hT_27 (by omega) (by rw [eg_27]; exact mo_ag_rf _) (fun _ _ => rfl))
set_option maxHeartbeats 4000000 in
set_option maxRecDepth 100000 in
theorem ct5_escort {lf : Launch} {ρf : mo_E} {G : mo_G} {M : mo_M} {t : Nat} {m : Nat} (hm : mo_Md G m) {B p w : Int} (hI : mo_Iv (M (m + 1)) B) (hB : B ≤ 800000000) (hp : mo_In p) (hw : mo_In w) : mo_Ct lf ρf yX5_escort cX5_escort 3 (some .int) 5 0 0 [.ref m, mo_iv p, mo_iv w] G M t (mo_pi G t (fun x M' => (¬ (0 ≤ p ∧ p < M (m + 1) 5) ∧ x = 0 ∧ mo_Qr M M' m 1) ∨ ((0 ≤ p ∧ p < M (m + 1) 5) ∧ ¬ (0 ≤ w ∧ w ≤ 3) ∧ x = 0 ∧ mo_Qr M M' m 2) ∨ ((0 ≤ p ∧ p < M (m + 1) 5) ∧ (0 ≤ w ∧ w ≤ 3) ∧ x = mo_ev (M (m + 1)) p.toNat w ∧ mo_Qr M M' m 0))) := by
  refine mo_ofW (ls0 := [some (.ref m), some (mo_iv p), some (mo_iv w)]) (by decide) rfl (Nat.le_of_ble_eq_true rfl) ?_
  intro κ X Y
  have X : mo_Cx κ lf ρf cX5_escort 3 RX5 (some .int) 5 := X
  obtain ⟨hI0, hI1, hI2, hI3, hI4, hI5, hI6, hI7, hIh, hIa, hIe, hIm, hIs, hIl, hIw, hIr, hIt, hIs2, hIs3, hIz⟩ := id hI
  have hn : ((mo_nk (M (m + 1)) : Nat) : Int) = M (m + 1) 7 := by unfold mo_nk; omega
  refine mo_al0 (pc := 0) X dX5_escort_0 ?_
  refine mo_al0 (pc := 1) X dX5_escort_1 ?_
  refine mo_il1 (pc := 2) X dX5_escort_2 ?_
  refine mo_cVI (pc := 3) (As := [_]) X mo_k_X5_84 mo_y_yX5_isEscort rfl dX5_escort_3 (ct5_isEscort hm hp (by omega)) (mo_Md_o hm) rfl (by decide) (by decide) (Nat.le_of_ble_eq_true rfl) ?_
  rintro r_3 _ ⟨h_3, rfl⟩
  refine mo_il2 (pc := 6) X dX5_escort_6 ?_
  refine mo_i2l (pc := 7) X dX5_escort_7 ?_ ?_
  · omega
  refine mo_lconst (pc := 8) (z := 0) X dX5_escort_8 (by decide) ?_
  refine mo_ldc2 (pc := 9) (v := 3) X dX5_escort_9 mo_wk_X5_184 ?_
  refine mo_cSI (pc := 12) (As := [_, _, _]) X mo_k_X5_44 mo_y_yX5_in dX5_escort_12 (ct5_in (by omega) (by omega) (by omega)) rfl (by decide) (by decide) (Nat.le_of_ble_eq_true rfl) ?_
  rintro r_12 _ ⟨h_12, rfl⟩
  refine mo_iconst (pc := 15) X dX5_escort_15 ?_
  refine mo_cVI (pc := 16) (As := [_, _, _]) X mo_k_X5_58 mo_y_yX5_goes rfl dX5_escort_16 (ct5_goes hm (by omega) (by omega) (by omega)) (mo_Md_o hm) rfl (by decide) (by decide) (Nat.le_of_ble_eq_true rfl) ?_
  rintro r_16 M_16 ⟨T_16, hT_16, h_16⟩
  have eg_16 : M_16 (m + 1) = M (m + 1) := by rw [hT_16, mo_ur_n (by omega)]
  have es_16 : M_16 m 2 = M m 2 := by rw [hT_16, mo_ur_s, mo_up_n (by omega)]
  refine mo_if_eq (pc := 19) (tgt := 31) X dX5_escort_19 (by decide) ?_ (fun c_19 => ?_) (fun c_19 => ?_)
  · omega
  · skip
    refine mo_iconst (pc := 31) X dX5_escort_31 ?_
    refine mo_iret (pc := 32) X Y rfl dX5_escort_32 ⟨rfl, rfl, _, rfl, ?_⟩
    first
      | (rcases h_16 with q | q | q | q
         all_goals
           first
             | exact Or.inl ⟨by omega, rfl, mo_Qr_go hT_16 (by omega)⟩
             | exact Or.inr (Or.inl ⟨by omega, by omega, rfl, mo_Qr_go hT_16 (by omega)⟩)
             | (exfalso; omega))
      | (refine Or.inr (Or.inr ⟨by omega, by omega, ?_, ?_⟩)
         · exact h_25
         · exact mo_Qr_of hT_16 (by omega) (by rw [hM_25, mo_sc_r1, eg_16]; exact mo_ag_rf _) (fun a q => by rw [hM_25, mo_sc_r _ _ _ _ _ (by omega)]))
  · skip
    refine mo_al0 (pc := 22) X dX5_escort_22 ?_
    refine mo_il1 (pc := 23) X dX5_escort_23 ?_
    refine mo_il2 (pc := 24) X dX5_escort_24 ?_
    obtain ⟨pn, rfl⟩ := Int.eq_ofNat_of_zero_le (show 0 ≤ p by omega)
    refine mo_cVI (pc := 25) (As := [_, _]) X mo_k_X5_186 mo_y_yX5_escortValue rfl dX5_escort_25 (ct5_escortValue (B := B) (e := pn) hm (by rw [eg_16]; exact hI) (by omega) (by omega) (by omega)) (mo_Md_o hm) rfl (by decide) (by decide) (Nat.le_of_ble_eq_true rfl) ?_
    rintro r_25 M_25 ⟨f4, f5, f6, f7, hM_25, h_25⟩
    rw [eg_16] at h_25
    refine mo_goto (pc := 28) (tgt := 32) X dX5_escort_28 (by decide) ?_
    refine mo_iret (pc := 32) X Y rfl dX5_escort_32 ⟨rfl, rfl, _, rfl, ?_⟩
    first
      | (rcases h_16 with q | q | q | q
         all_goals
           first
             | exact Or.inl ⟨by omega, rfl, mo_Qr_go hT_16 (by omega)⟩
             | exact Or.inr (Or.inl ⟨by omega, by omega, rfl, mo_Qr_go hT_16 (by omega)⟩)
             | (exfalso; omega))
      | (refine Or.inr (Or.inr ⟨by omega, by omega, ?_, ?_⟩)
         · exact h_25
         · exact mo_Qr_of hT_16 (by omega) (by rw [hM_25, mo_sc_r1, eg_16]; exact mo_ag_rf _) (fun a q => by rw [hM_25, mo_sc_r _ _ _ _ _ (by omega)]))
set_option maxHeartbeats 4000000 in
set_option maxRecDepth 100000 in
theorem ct5_freeRooms {lf : Launch} {ρf : mo_E} {G : mo_G} {M : mo_M} {t : Nat} {m : Nat} (hm : mo_Md G m) {B p w q : Int} (hI : mo_Iv (M (m + 1)) B) (hB : B ≤ 800000000) (hp : mo_In p) (hw : mo_In w) (hq : mo_In q) : mo_Ct lf ρf yX5_freeRooms cX5_freeRooms 4 (some .int) 3 0 0 [.ref m, mo_iv p, mo_iv w, mo_iv q] G M t (mo_pi G t (fun x M' => (¬ (0 ≤ p ∧ p < M (m + 1) 6) ∧ x = 0 ∧ mo_Qr M M' m 1) ∨ ((0 ≤ p ∧ p < M (m + 1) 6) ∧ ¬ ((0 ≤ w ∧ w ≤ 19) ∧ (0 ≤ q ∧ q ≤ 27)) ∧ x = 0 ∧ mo_Qr M M' m 2) ∨ ((0 ≤ p ∧ p < M (m + 1) 6) ∧ ((0 ≤ w ∧ w ≤ 19) ∧ (0 ≤ q ∧ q ≤ 27)) ∧ x = mo_fre (M (m + 1)) w (mo_nk (M (m + 1))) (28 * p.toNat + q.toNat) ∧ mo_Qr M M' m 0))) := by
  refine mo_ofW (ls0 := [some (.ref m), some (mo_iv p), some (mo_iv w), some (mo_iv q)]) (by decide) rfl (Nat.le_of_ble_eq_true rfl) ?_
  intro κ X Y
  have X : mo_Cx κ lf ρf cX5_freeRooms 4 RX5 (some .int) 3 := X
  obtain ⟨hI0, hI1, hI2, hI3, hI4, hI5, hI6, hI7, hIh, hIa, hIe, hIm, hIs, hIl, hIw, hIr, hIt, hIs2, hIs3, hIz⟩ := id hI
  have hn : ((mo_nk (M (m + 1)) : Nat) : Int) = M (m + 1) 7 := by unfold mo_nk; omega
  refine mo_al0 (pc := 0) X dX5_freeRooms_0 ?_
  refine mo_al0 (pc := 1) X dX5_freeRooms_1 ?_
  refine mo_il1 (pc := 2) X dX5_freeRooms_2 ?_
  refine mo_cVI (pc := 3) (As := [_]) X mo_k_X5_105 mo_y_yX5_isVenue rfl dX5_freeRooms_3 (ct5_isVenue hm hp (by omega)) (mo_Md_o hm) rfl (by decide) (by decide) (Nat.le_of_ble_eq_true rfl) ?_
  rintro r_3 _ ⟨h_3, rfl⟩
  refine mo_il2 (pc := 6) X dX5_freeRooms_6 ?_
  refine mo_cSI (pc := 7) (As := [_]) X mo_k_X5_112 mo_y_yX5_isWeek dX5_freeRooms_7 (ct5_isWeek hw) rfl (by decide) (by decide) (Nat.le_of_ble_eq_true rfl) ?_
  rintro r_7 _ ⟨h_7, rfl⟩
  refine mo_if_eq (pc := 10) (tgt := 24) X dX5_freeRooms_10 (by decide) ?_ (fun c_10 => ?_) (fun c_10 => ?_)
  · omega
  · skip
    refine mo_iconst (pc := 24) X dX5_freeRooms_24 ?_
    refine mo_iconst (pc := 25) X dX5_freeRooms_25 ?_
    refine mo_cVI (pc := 26) (As := [_, _, _]) X mo_k_X5_58 mo_y_yX5_goes rfl dX5_freeRooms_26 (ct5_goes hm (by omega) (by omega) (by omega)) (mo_Md_o hm) rfl (by decide) (by decide) (Nat.le_of_ble_eq_true rfl) ?_
    rintro r_26 M_26 ⟨T_26, hT_26, h_26⟩
    have eg_26 : M_26 (m + 1) = M (m + 1) := by rw [hT_26, mo_ur_n (by omega)]
    have es_26 : M_26 m 2 = M m 2 := by rw [hT_26, mo_ur_s, mo_up_n (by omega)]
    refine mo_if_ne (pc := 29) (tgt := 34) X dX5_freeRooms_29 (by decide) ?_ (fun c_29 => ?_) (fun c_29 => ?_)
    · omega
    · skip
      exfalso
      omega
    · skip
      refine mo_iconst (pc := 32) X dX5_freeRooms_32 ?_
      refine mo_iret (pc := 33) X Y rfl dX5_freeRooms_33 ⟨rfl, rfl, _, rfl, ?_⟩
      rcases h_26 with q | q | q | q
      all_goals
        first
          | exact Or.inl ⟨by omega, rfl, mo_Qr_go hT_26 (by omega)⟩
          | exact Or.inr (Or.inl ⟨by omega, by omega, rfl, mo_Qr_go hT_26 (by omega)⟩)
          | (exfalso; omega)
  · skip
    refine mo_il3 (pc := 13) X dX5_freeRooms_13 ?_
    refine mo_cSI (pc := 14) (As := [_]) X mo_k_X5_115 mo_y_yX5_isSlot dX5_freeRooms_14 (ct5_isSlot hq) rfl (by decide) (by decide) (Nat.le_of_ble_eq_true rfl) ?_
    rintro r_14 _ ⟨h_14, rfl⟩
    refine mo_if_eq (pc := 17) (tgt := 24) X dX5_freeRooms_17 (by decide) ?_ (fun c_17 => ?_) (fun c_17 => ?_)
    · omega
    · skip
      refine mo_iconst (pc := 24) X dX5_freeRooms_24 ?_
      refine mo_iconst (pc := 25) X dX5_freeRooms_25 ?_
      refine mo_cVI (pc := 26) (As := [_, _, _]) X mo_k_X5_58 mo_y_yX5_goes rfl dX5_freeRooms_26 (ct5_goes hm (by omega) (by omega) (by omega)) (mo_Md_o hm) rfl (by decide) (by decide) (Nat.le_of_ble_eq_true rfl) ?_
      rintro r_26 M_26 ⟨T_26, hT_26, h_26⟩
      have eg_26 : M_26 (m + 1) = M (m + 1) := by rw [hT_26, mo_ur_n (by omega)]
      have es_26 : M_26 m 2 = M m 2 := by rw [hT_26, mo_ur_s, mo_up_n (by omega)]
      refine mo_if_ne (pc := 29) (tgt := 34) X dX5_freeRooms_29 (by decide) ?_ (fun c_29 => ?_) (fun c_29 => ?_)
      · omega
      · skip
        exfalso
        omega
      · skip
        refine mo_iconst (pc := 32) X dX5_freeRooms_32 ?_
        refine mo_iret (pc := 33) X Y rfl dX5_freeRooms_33 ⟨rfl, rfl, _, rfl, ?_⟩
        rcases h_26 with q | q | q | q
        all_goals
          first
            | exact Or.inl ⟨by omega, rfl, mo_Qr_go hT_26 (by omega)⟩
            | exact Or.inr (Or.inl ⟨by omega, by omega, rfl, mo_Qr_go hT_26 (by omega)⟩)
            | (exfalso; omega)
    · skip
      refine mo_iconst (pc := 20) X dX5_freeRooms_20 ?_
      refine mo_goto (pc := 21) (tgt := 25) X dX5_freeRooms_21 (by decide) ?_
      refine mo_iconst (pc := 25) X dX5_freeRooms_25 ?_
      refine mo_cVI (pc := 26) (As := [_, _, _]) X mo_k_X5_58 mo_y_yX5_goes rfl dX5_freeRooms_26 (ct5_goes hm (by omega) (by omega) (by omega)) (mo_Md_o hm) rfl (by decide) (by decide) (Nat.le_of_ble_eq_true rfl) ?_
      rintro r_26 M_26 ⟨T_26, hT_26, h_26⟩
      have eg_26 : M_26 (m + 1) = M (m + 1) := by rw [hT_26, mo_ur_n (by omega)]
      have es_26 : M_26 m 2 = M m 2 := by rw [hT_26, mo_ur_s, mo_up_n (by omega)]
      refine mo_if_ne (pc := 29) (tgt := 34) X dX5_freeRooms_29 (by decide) ?_ (fun c_29 => ?_) (fun c_29 => ?_)
      · omega
      · skip
        refine mo_al0 (pc := 34) X dX5_freeRooms_34 ?_
        refine mo_il2 (pc := 35) X dX5_freeRooms_35 ?_
        refine mo_cVV (pc := 36) (As := [_]) X mo_k_X5_98 mo_y_yX5_look rfl dX5_freeRooms_36 (ct5_look (B := B) (w := w) hm (by rw [eg_26]; exact hI) (by omega) hw) (mo_Md_o hm) rfl (by decide) (by decide) (Nat.le_of_ble_eq_true rfl) ?_
        rintro M_36 ⟨f4, f5, f6, f7, hM_36, hL⟩
        obtain ⟨pn, rfl⟩ := Int.eq_ofNat_of_zero_le (show 0 ≤ p by omega)
        obtain ⟨qn, rfl⟩ := Int.eq_ofNat_of_zero_le (show 0 ≤ q by omega)
        refine mo_al0 (pc := 39) X dX5_freeRooms_39 ?_
        refine mo_f_X5_19 (pc := 40) X dX5_freeRooms_40 (mo_Md_o hm) (mo_Md_p5 hm) ?_
        refine mo_bipush (pc := 43) X dX5_freeRooms_43 (by decide) ?_
        refine mo_il1 (pc := 45) X dX5_freeRooms_45 ?_
        refine mo_imul (pc := 46) X dX5_freeRooms_46 ?_
        refine mo_il3 (pc := 47) X dX5_freeRooms_47 ?_
        refine mo_iadd (pc := 48) X dX5_freeRooms_48 ?_
        refine mo_iald (pc := 49) (j := 28 * pn + qn) X dX5_freeRooms_49 (mo_Md_r5 hm) (by omega) ?_ ?_ (by omega) ?_
        · omega
        · omega
        refine mo_iret (pc := 50) X Y rfl dX5_freeRooms_50 ⟨rfl, rfl, _, rfl, ?_⟩
        refine Or.inr (Or.inr ⟨by omega, by omega, ?_, ?_⟩)
        · rw [hL.1 _ (by omega), hM_36, mo_sc_r1, eg_26]; simp only [Int.toNat_natCast]
        · exact mo_Qr_of hT_26 (by omega) (by rw [hM_36, mo_sc_r1, eg_26]; exact mo_ag_rf _) (fun a q => by rw [hM_36, mo_sc_r _ _ _ _ _ (by omega)])
      · skip
        refine mo_iconst (pc := 32) X dX5_freeRooms_32 ?_
        refine mo_iret (pc := 33) X Y rfl dX5_freeRooms_33 ⟨rfl, rfl, _, rfl, ?_⟩
        rcases h_26 with q | q | q | q
        all_goals
          first
            | exact Or.inl ⟨by omega, rfl, mo_Qr_go hT_26 (by omega)⟩
            | exact Or.inr (Or.inl ⟨by omega, by omega, rfl, mo_Qr_go hT_26 (by omega)⟩)
            | (exfalso; omega)
set_option maxHeartbeats 4000000 in
set_option maxRecDepth 100000 in
theorem ct5_value {lf : Launch} {ρf : mo_E} {G : mo_G} {M : mo_M} {t : Nat} {m : Nat} (hm : mo_Md G m) {B w : Int} (hI : mo_Iv (M (m + 1)) B) (hB : B ≤ 800000000) (hw : mo_In w) : mo_Ct lf ρf yX5_value cX5_value 2 (some .int) 4 0 0 [.ref m, mo_iv w] G M t (mo_pi G t (fun x M' => (¬ (0 ≤ w ∧ w ≤ 9) ∧ x = 0 ∧ mo_Qr M M' m 1) ∨ ((0 ≤ w ∧ w ≤ 9) ∧ x = mo_nv (M (m + 1)) w ∧ mo_Qr M M' m 0))) := by
  refine mo_ofW (ls0 := [some (.ref m), some (mo_iv w)]) (by decide) rfl (Nat.le_of_ble_eq_true rfl) ?_
  intro κ X Y
  have X : mo_Cx κ lf ρf cX5_value 2 RX5 (some .int) 4 := X
  obtain ⟨hI0, hI1, hI2, hI3, hI4, hI5, hI6, hI7, hIh, hIa, hIe, hIm, hIs, hIl, hIw, hIr, hIt, hIs2, hIs3, hIz⟩ := id hI
  have hn : ((mo_nk (M (m + 1)) : Nat) : Int) = M (m + 1) 7 := by unfold mo_nk; omega
  refine mo_al0 (pc := 0) X dX5_value_0 ?_
  refine mo_il1 (pc := 1) X dX5_value_1 ?_
  refine mo_i2l (pc := 2) X dX5_value_2 ?_ ?_
  · omega
  refine mo_lconst (pc := 3) (z := 0) X dX5_value_3 (by decide) ?_
  refine mo_ldc2 (pc := 4) (v := 9) X dX5_value_4 mo_wk_X5_192 ?_
  refine mo_cSI (pc := 7) (As := [_, _, _]) X mo_k_X5_44 mo_y_yX5_in dX5_value_7 (ct5_in (by omega) (by omega) (by omega)) rfl (by decide) (by decide) (Nat.le_of_ble_eq_true rfl) ?_
  rintro r_7 _ ⟨h_7, rfl⟩
  refine mo_iconst (pc := 10) X dX5_value_10 ?_
  refine mo_iconst (pc := 11) X dX5_value_11 ?_
  refine mo_cVI (pc := 12) (As := [_, _, _]) X mo_k_X5_58 mo_y_yX5_goes rfl dX5_value_12 (ct5_goes hm (by omega) (by omega) (by omega)) (mo_Md_o hm) rfl (by decide) (by decide) (Nat.le_of_ble_eq_true rfl) ?_
  rintro r_12 M_12 ⟨T_12, hT_12, h_12⟩
  have eg_12 : M_12 (m + 1) = M (m + 1) := by rw [hT_12, mo_ur_n (by omega)]
  have es_12 : M_12 m 2 = M m 2 := by rw [hT_12, mo_ur_s, mo_up_n (by omega)]
  refine mo_if_eq (pc := 15) (tgt := 26) X dX5_value_15 (by decide) ?_ (fun c_15 => ?_) (fun c_15 => ?_)
  · omega
  · skip
    refine mo_iconst (pc := 26) X dX5_value_26 ?_
    refine mo_iret (pc := 27) X Y rfl dX5_value_27 ⟨rfl, rfl, _, rfl, ?_⟩
    first
      | exact Or.inr ⟨by omega, h_20, mo_Qr_of hT_12 (by omega) (by rw [eg_12]; exact mo_ag_rf _) (fun _ _ => rfl)⟩
      | exact Or.inl ⟨by omega, rfl, mo_Qr_go hT_12 (by omega)⟩
  · skip
    refine mo_al0 (pc := 18) X dX5_value_18 ?_
    refine mo_il1 (pc := 19) X dX5_value_19 ?_
    refine mo_cVI (pc := 20) (As := [_]) X mo_k_X5_194 mo_y_yX5_numberOf rfl dX5_value_20 (ct5_numberOf (B := B) hm (by rw [eg_12]; exact hI) (by omega) (by omega)) (mo_Md_o hm) rfl (by decide) (by decide) (Nat.le_of_ble_eq_true rfl) ?_
    rintro r_20 _ ⟨h_20, rfl⟩
    rw [eg_12] at h_20
    refine mo_goto (pc := 23) (tgt := 27) X dX5_value_23 (by decide) ?_
    refine mo_iret (pc := 27) X Y rfl dX5_value_27 ⟨rfl, rfl, _, rfl, ?_⟩
    first
      | exact Or.inr ⟨by omega, h_20, mo_Qr_of hT_12 (by omega) (by rw [eg_12]; exact mo_ag_rf _) (fun _ _ => rfl)⟩
      | exact Or.inl ⟨by omega, rfl, mo_Qr_go hT_12 (by omega)⟩
set_option maxHeartbeats 4000000 in
set_option maxRecDepth 100000 in
theorem ct5_why {lf : Launch} {ρf : mo_E} {G : mo_G} {M : mo_M} {t : Nat} {m : Nat} (hm : mo_Md G m) {B a w q e v : Int} (hI : mo_Iv (M (m + 1)) B) (hB : B ≤ 800000000) (ha : mo_In a) (hw : mo_In w) (hq : mo_In q) (he : mo_In e) (hv : mo_In v) : mo_Ct lf ρf yX5_why cX5_why 7 (some .int) 4 0 0 [.ref m, mo_iv a, mo_iv w, mo_iv q, mo_iv e, mo_iv v] G M t (mo_pi G t (fun x M' => (¬ ((0 ≤ a ∧ a < M (m + 1) 4) ∧ (0 ≤ e ∧ e < M (m + 1) 5) ∧ (0 ≤ v ∧ v < M (m + 1) 6)) ∧ x = 0 ∧ mo_Qr M M' m 1) ∨ (((0 ≤ a ∧ a < M (m + 1) 4) ∧ (0 ≤ e ∧ e < M (m + 1) 5) ∧ (0 ≤ v ∧ v < M (m + 1) 6)) ∧ ¬ ((0 ≤ w ∧ w ≤ 19) ∧ (0 ≤ q ∧ q ≤ 27)) ∧ x = 0 ∧ mo_Qr M M' m 2) ∨ (((0 ≤ a ∧ a < M (m + 1) 4) ∧ (0 ≤ e ∧ e < M (m + 1) 5) ∧ (0 ≤ v ∧ v < M (m + 1) 6)) ∧ ((0 ≤ w ∧ w ≤ 19) ∧ (0 ≤ q ∧ q ≤ 27)) ∧ x = mo_rs (M (m + 1)) a.toNat w.toNat q.toNat e.toNat v.toNat ∧ mo_Qr M M' m 0))) := by
  refine mo_ofW (ls0 := [some (.ref m), some (mo_iv a), some (mo_iv w), some (mo_iv q), some (mo_iv e), some (mo_iv v), none]) (by decide) rfl (Nat.le_of_ble_eq_true rfl) ?_
  intro κ X Y
  have X : mo_Cx κ lf ρf cX5_why 7 RX5 (some .int) 4 := X
  obtain ⟨hI0, hI1, hI2, hI3, hI4, hI5, hI6, hI7, hIh, hIa, hIe, hIm, hIs, hIl, hIw, hIr, hIt, hIs2, hIs3, hIz⟩ := id hI
  have hn : ((mo_nk (M (m + 1)) : Nat) : Int) = M (m + 1) 7 := by unfold mo_nk; omega
  refine mo_al0 (pc := 0) X dX5_why_0 ?_
  refine mo_il1 (pc := 1) X dX5_why_1 ?_
  refine mo_il4 (pc := 2) X dX5_why_2 ?_
  refine mo_il5 (pc := 4) X dX5_why_4 ?_
  refine mo_cVI (pc := 6) (As := [_, _, _]) X mo_k_X5_108 mo_y_yX5_areThere rfl dX5_why_6 (ct5_areThere hm (B := B) hI (by omega) ha he hv) (mo_Md_o hm) rfl (by decide) (by decide) (Nat.le_of_ble_eq_true rfl) ?_
  rintro r_6 _ ⟨h_6, rfl⟩
  refine mo_is6 (pc := 9) X dX5_why_9 rfl (by decide) ?_
  refine mo_al0 (pc := 11) X dX5_why_11 ?_
  refine mo_il6 (pc := 12) X dX5_why_12 ?_
  refine mo_il2 (pc := 14) X dX5_why_14 ?_
  refine mo_cSI (pc := 15) (As := [_]) X mo_k_X5_112 mo_y_yX5_isWeek dX5_why_15 (ct5_isWeek hw) rfl (by decide) (by decide) (Nat.le_of_ble_eq_true rfl) ?_
  rintro r_15 _ ⟨h_15, rfl⟩
  refine mo_if_eq (pc := 18) (tgt := 32) X dX5_why_18 (by decide) ?_ (fun c_18 => ?_) (fun c_18 => ?_)
  · omega
  · skip
    refine mo_iconst (pc := 32) X dX5_why_32 ?_
    refine mo_iconst (pc := 33) X dX5_why_33 ?_
    refine mo_cVI (pc := 34) (As := [_, _, _]) X mo_k_X5_58 mo_y_yX5_goes rfl dX5_why_34 (ct5_goes hm (by omega) (by omega) (by omega)) (mo_Md_o hm) rfl (by decide) (by decide) (Nat.le_of_ble_eq_true rfl) ?_
    rintro r_34 M_34 ⟨T_34, hT_34, h_34⟩
    have eg_34 : M_34 (m + 1) = M (m + 1) := by rw [hT_34, mo_ur_n (by omega)]
    have es_34 : M_34 m 2 = M m 2 := by rw [hT_34, mo_ur_s, mo_up_n (by omega)]
    refine mo_if_eq (pc := 37) (tgt := 54) X dX5_why_37 (by decide) ?_ (fun c_37 => ?_) (fun c_37 => ?_)
    · omega
    · skip
      refine mo_iconst (pc := 54) X dX5_why_54 ?_
      refine mo_iret (pc := 55) X Y rfl dX5_why_55 ⟨rfl, rfl, _, rfl, ?_⟩
      first
        | (rcases h_34 with q | q | q | q
           all_goals
             first
               | exact Or.inl ⟨by omega, rfl, mo_Qr_go hT_34 (by omega)⟩
               | exact Or.inr (Or.inl ⟨by omega, by omega, rfl, mo_Qr_go hT_34 (by omega)⟩)
               | (exfalso; omega))
        | (refine Or.inr (Or.inr ⟨by omega, by omega, ?_, ?_⟩)
           · simp only [Int.toNat_natCast]; exact h_48
           · exact mo_Qr_of hT_34 (by omega) (by rw [hM_48, mo_sc_r1, eg_34]; exact mo_ag_rf _) (fun a q => by rw [hM_48, mo_sc_r _ _ _ _ _ (by omega)]))
    · skip
      exfalso
      omega
  · skip
    refine mo_il3 (pc := 21) X dX5_why_21 ?_
    refine mo_cSI (pc := 22) (As := [_]) X mo_k_X5_115 mo_y_yX5_isSlot dX5_why_22 (ct5_isSlot hq) rfl (by decide) (by decide) (Nat.le_of_ble_eq_true rfl) ?_
    rintro r_22 _ ⟨h_22, rfl⟩
    refine mo_if_eq (pc := 25) (tgt := 32) X dX5_why_25 (by decide) ?_ (fun c_25 => ?_) (fun c_25 => ?_)
    · omega
    · skip
      refine mo_iconst (pc := 32) X dX5_why_32 ?_
      refine mo_iconst (pc := 33) X dX5_why_33 ?_
      refine mo_cVI (pc := 34) (As := [_, _, _]) X mo_k_X5_58 mo_y_yX5_goes rfl dX5_why_34 (ct5_goes hm (by omega) (by omega) (by omega)) (mo_Md_o hm) rfl (by decide) (by decide) (Nat.le_of_ble_eq_true rfl) ?_
      rintro r_34 M_34 ⟨T_34, hT_34, h_34⟩
      have eg_34 : M_34 (m + 1) = M (m + 1) := by rw [hT_34, mo_ur_n (by omega)]
      have es_34 : M_34 m 2 = M m 2 := by rw [hT_34, mo_ur_s, mo_up_n (by omega)]
      refine mo_if_eq (pc := 37) (tgt := 54) X dX5_why_37 (by decide) ?_ (fun c_37 => ?_) (fun c_37 => ?_)
      · omega
      · skip
        refine mo_iconst (pc := 54) X dX5_why_54 ?_
        refine mo_iret (pc := 55) X Y rfl dX5_why_55 ⟨rfl, rfl, _, rfl, ?_⟩
        first
          | (rcases h_34 with q | q | q | q
             all_goals
               first
                 | exact Or.inl ⟨by omega, rfl, mo_Qr_go hT_34 (by omega)⟩
                 | exact Or.inr (Or.inl ⟨by omega, by omega, rfl, mo_Qr_go hT_34 (by omega)⟩)
                 | (exfalso; omega))
          | (refine Or.inr (Or.inr ⟨by omega, by omega, ?_, ?_⟩)
             · simp only [Int.toNat_natCast]; exact h_48
             · exact mo_Qr_of hT_34 (by omega) (by rw [hM_48, mo_sc_r1, eg_34]; exact mo_ag_rf _) (fun a q => by rw [hM_48, mo_sc_r _ _ _ _ _ (by omega)]))
      · skip
        exfalso
        omega
    · skip
      refine mo_iconst (pc := 28) X dX5_why_28 ?_
      refine mo_goto (pc := 29) (tgt := 33) X dX5_why_29 (by decide) ?_
      refine mo_iconst (pc := 33) X dX5_why_33 ?_
      refine mo_cVI (pc := 34) (As := [_, _, _]) X mo_k_X5_58 mo_y_yX5_goes rfl dX5_why_34 (ct5_goes hm (by omega) (by omega) (by omega)) (mo_Md_o hm) rfl (by decide) (by decide) (Nat.le_of_ble_eq_true rfl) ?_
      rintro r_34 M_34 ⟨T_34, hT_34, h_34⟩
      have eg_34 : M_34 (m + 1) = M (m + 1) := by rw [hT_34, mo_ur_n (by omega)]
      have es_34 : M_34 m 2 = M m 2 := by rw [hT_34, mo_ur_s, mo_up_n (by omega)]
      refine mo_if_eq (pc := 37) (tgt := 54) X dX5_why_37 (by decide) ?_ (fun c_37 => ?_) (fun c_37 => ?_)
      · omega
      · skip
        refine mo_iconst (pc := 54) X dX5_why_54 ?_
        refine mo_iret (pc := 55) X Y rfl dX5_why_55 ⟨rfl, rfl, _, rfl, ?_⟩
        first
          | (rcases h_34 with q | q | q | q
             all_goals
               first
                 | exact Or.inl ⟨by omega, rfl, mo_Qr_go hT_34 (by omega)⟩
                 | exact Or.inr (Or.inl ⟨by omega, by omega, rfl, mo_Qr_go hT_34 (by omega)⟩)
                 | (exfalso; omega))
          | (refine Or.inr (Or.inr ⟨by omega, by omega, ?_, ?_⟩)
             · simp only [Int.toNat_natCast]; exact h_48
             · exact mo_Qr_of hT_34 (by omega) (by rw [hM_48, mo_sc_r1, eg_34]; exact mo_ag_rf _) (fun a q => by rw [hM_48, mo_sc_r _ _ _ _ _ (by omega)]))
      · skip
        refine mo_al0 (pc := 40) X dX5_why_40 ?_
        refine mo_il1 (pc := 41) X dX5_why_41 ?_
        refine mo_il2 (pc := 42) X dX5_why_42 ?_
        refine mo_il3 (pc := 43) X dX5_why_43 ?_
        refine mo_il4 (pc := 44) X dX5_why_44 ?_
        refine mo_il5 (pc := 46) X dX5_why_46 ?_
        obtain ⟨an, rfl⟩ := Int.eq_ofNat_of_zero_le (show 0 ≤ a by omega)
        obtain ⟨wn, rfl⟩ := Int.eq_ofNat_of_zero_le (show 0 ≤ w by omega)
        obtain ⟨qn, rfl⟩ := Int.eq_ofNat_of_zero_le (show 0 ≤ q by omega)
        obtain ⟨en, rfl⟩ := Int.eq_ofNat_of_zero_le (show 0 ≤ e by omega)
        obtain ⟨vn, rfl⟩ := Int.eq_ofNat_of_zero_le (show 0 ≤ v by omega)
        refine mo_cVI (pc := 48) (As := [_, _, _, _, _]) X mo_k_X5_118 mo_y_yX5_reason rfl dX5_why_48 (ct5_reason (B := B) (o := an) (w := wn) (q := qn) (e := en) (v := vn) hm (by rw [eg_34]; exact hI) (by omega) (by omega) (by omega) (by omega) (by rw [eg_34]; omega) (by omega)) (mo_Md_o hm) rfl (by decide) (by decide) (Nat.le_of_ble_eq_true rfl) ?_
        rintro r_48 M_48 ⟨f4, f5, f6, f7, hM_48, h_48⟩
        rw [eg_34] at h_48
        refine mo_goto (pc := 51) (tgt := 55) X dX5_why_51 (by decide) ?_
        refine mo_iret (pc := 55) X Y rfl dX5_why_55 ⟨rfl, rfl, _, rfl, ?_⟩
        first
          | (rcases h_34 with q | q | q | q
             all_goals
               first
                 | exact Or.inl ⟨by omega, rfl, mo_Qr_go hT_34 (by omega)⟩
                 | exact Or.inr (Or.inl ⟨by omega, by omega, rfl, mo_Qr_go hT_34 (by omega)⟩)
                 | (exfalso; omega))
          | (refine Or.inr (Or.inr ⟨by omega, by omega, ?_, ?_⟩)
             · simp only [Int.toNat_natCast]; exact h_48
             · exact mo_Qr_of hT_34 (by omega) (by rw [hM_48, mo_sc_r1, eg_34]; exact mo_ag_rf _) (fun a q => by rw [hM_48, mo_sc_r _ _ _ _ _ (by omega)]))
set_option maxHeartbeats 4000000 in
set_option maxRecDepth 100000 in
theorem ct5_firstSlot {lf : Launch} {ρf : mo_E} {G : mo_G} {M : mo_M} {t : Nat} {m : Nat} (hm : mo_Md G m) {B p w : Int} (hI : mo_Iv (M (m + 1)) B) (hB : B ≤ 800000000) (hp : mo_In p) (hw : mo_In w) : mo_Ct lf ρf yX5_firstSlot cX5_firstSlot 3 (some .int) 4 0 0 [.ref m, mo_iv p, mo_iv w] G M t (mo_pi G t (fun x M' => (¬ (0 ≤ p ∧ p < M (m + 1) 4) ∧ x = 0 ∧ mo_Qr M M' m 1) ∨ ((0 ≤ p ∧ p < M (m + 1) 4) ∧ ¬ (0 ≤ w ∧ w ≤ 19) ∧ x = 0 ∧ mo_Qr M M' m 2) ∨ ((0 ≤ p ∧ p < M (m + 1) 4) ∧ (0 ≤ w ∧ w ≤ 19) ∧ x = mo_sf (M (m + 1)) w p.toNat ∧ mo_Qr M M' m 0))) := by
  refine mo_ofW (ls0 := [some (.ref m), some (mo_iv p), some (mo_iv w)]) (by decide) rfl (Nat.le_of_ble_eq_true rfl) ?_
  intro κ X Y
  have X : mo_Cx κ lf ρf cX5_firstSlot 3 RX5 (some .int) 4 := X
  obtain ⟨hI0, hI1, hI2, hI3, hI4, hI5, hI6, hI7, hIh, hIa, hIe, hIm, hIs, hIl, hIw, hIr, hIt, hIs2, hIs3, hIz⟩ := id hI
  have hn : ((mo_nk (M (m + 1)) : Nat) : Int) = M (m + 1) 7 := by unfold mo_nk; omega
  refine mo_al0 (pc := 0) X dX5_firstSlot_0 ?_
  refine mo_al0 (pc := 1) X dX5_firstSlot_1 ?_
  refine mo_il1 (pc := 2) X dX5_firstSlot_2 ?_
  refine mo_cVI (pc := 3) (As := [_]) X mo_k_X5_65 mo_y_yX5_isOrder rfl dX5_firstSlot_3 (ct5_isOrder hm hp (by omega)) (mo_Md_o hm) rfl (by decide) (by decide) (Nat.le_of_ble_eq_true rfl) ?_
  rintro r_3 _ ⟨h_3, rfl⟩
  refine mo_il2 (pc := 6) X dX5_firstSlot_6 ?_
  refine mo_cSI (pc := 7) (As := [_]) X mo_k_X5_112 mo_y_yX5_isWeek dX5_firstSlot_7 (ct5_isWeek hw) rfl (by decide) (by decide) (Nat.le_of_ble_eq_true rfl) ?_
  rintro r_7 _ ⟨h_7, rfl⟩
  refine mo_iconst (pc := 10) X dX5_firstSlot_10 ?_
  refine mo_cVI (pc := 11) (As := [_, _, _]) X mo_k_X5_58 mo_y_yX5_goes rfl dX5_firstSlot_11 (ct5_goes hm (by omega) (by omega) (by omega)) (mo_Md_o hm) rfl (by decide) (by decide) (Nat.le_of_ble_eq_true rfl) ?_
  rintro r_11 M_11 ⟨T_11, hT_11, h_11⟩
  have eg_11 : M_11 (m + 1) = M (m + 1) := by rw [hT_11, mo_ur_n (by omega)]
  have es_11 : M_11 m 2 = M m 2 := by rw [hT_11, mo_ur_s, mo_up_n (by omega)]
  refine mo_if_ne (pc := 14) (tgt := 19) X dX5_firstSlot_14 (by decide) ?_ (fun c_14 => ?_) (fun c_14 => ?_)
  · omega
  · skip
    refine mo_al0 (pc := 19) X dX5_firstSlot_19 ?_
    refine mo_il2 (pc := 20) X dX5_firstSlot_20 ?_
    refine mo_cVV (pc := 21) (As := [_]) X mo_k_X5_98 mo_y_yX5_look rfl dX5_firstSlot_21 (ct5_look (B := B) (w := w) hm (by rw [eg_11]; exact hI) (by omega) hw) (mo_Md_o hm) rfl (by decide) (by decide) (Nat.le_of_ble_eq_true rfl) ?_
    rintro M_21 ⟨f4, f5, f6, f7, hM_21, hL⟩
    have e21 : M_21 (m + 1) = M (m + 1) := by rw [hM_21, mo_sc_r1, eg_11]
    refine mo_al0 (pc := 24) X dX5_firstSlot_24 ?_
    refine mo_il1 (pc := 25) X dX5_firstSlot_25 ?_
    refine mo_il2 (pc := 26) X dX5_firstSlot_26 ?_
    obtain ⟨pn, rfl⟩ := Int.eq_ofNat_of_zero_le (show 0 ≤ p by omega)
    refine mo_cVI (pc := 27) (As := [_, _]) X mo_k_X5_136 mo_y_yX5_slotFor rfl dX5_firstSlot_27 (ct5_slotFor (B := B) (w := w) (o := pn) hm (by rw [e21]; exact hI) (by omega) hL (by omega) hw) (mo_Md_o hm) rfl (by decide) (by decide) (Nat.le_of_ble_eq_true rfl) ?_
    rintro r_27 _ ⟨h_27, rfl⟩
    rw [e21] at h_27
    refine mo_iret (pc := 30) X Y rfl dX5_firstSlot_30 ⟨rfl, rfl, _, rfl, ?_⟩
    refine Or.inr (Or.inr ⟨by omega, by omega, ?_, ?_⟩)
    · exact h_27
    · exact mo_Qr_of hT_11 (by omega) (by rw [e21]; exact mo_ag_rf _) (fun a q => by rw [hM_21, mo_sc_r _ _ _ _ _ (by omega)])
  · skip
    refine mo_iconst (pc := 17) X dX5_firstSlot_17 ?_
    refine mo_iret (pc := 18) X Y rfl dX5_firstSlot_18 ⟨rfl, rfl, _, rfl, ?_⟩
    rcases h_11 with q | q | q | q
    all_goals
      first
        | exact Or.inl ⟨by omega, rfl, mo_Qr_go hT_11 (by omega)⟩
        | exact Or.inr (Or.inl ⟨by omega, by omega, rfl, mo_Qr_go hT_11 (by omega)⟩)
        | (exfalso; omega)
set_option maxHeartbeats 4000000 in
set_option maxRecDepth 100000 in
theorem ct5_owedBehind {lf : Launch} {ρf : mo_E} {G : mo_G} {M : mo_M} {t : Nat} {m : Nat} (hm : mo_Md G m) {B w : Int} (hI : mo_Iv (M (m + 1)) B) (hB : B ≤ 800000000) (hw : mo_In w) : mo_Ct lf ρf yX5_owedBehind cX5_owedBehind 4 (some .int) 6 0 0 [.ref m, mo_iv w] G M t (mo_pi G t (fun x M' => (¬ (0 ≤ w ∧ w ≤ 19) ∧ x = 0 ∧ mo_Qr M M' m 1) ∨ ((0 ≤ w ∧ w ≤ 19) ∧ ¬ (M (m + 1) 0 ≤ w) ∧ x = 0 ∧ mo_Qr M M' m 2) ∨ ((0 ≤ w ∧ w ≤ 19) ∧ (M (m + 1) 0 ≤ w) ∧ x = mo_owa (mo_pl w.toNat 61 (M (m + 1))).2 w.toNat ∧ mo_Qr M M' m 0))) := by
  refine mo_ofW (ls0 := [some (.ref m), some (mo_iv w), none, none]) (by decide) rfl (Nat.le_of_ble_eq_true rfl) ?_
  intro κ X Y
  have X : mo_Cx κ lf ρf cX5_owedBehind 4 RX5 (some .int) 6 := X
  obtain ⟨hI0, hI1, hI2, hI3, hI4, hI5, hI6, hI7, hIh, hIa, hIe, hIm, hIs, hIl, hIw, hIr, hIt, hIs2, hIs3, hIz⟩ := id hI
  have hn : ((mo_nk (M (m + 1)) : Nat) : Int) = M (m + 1) 7 := by unfold mo_nk; omega
  refine mo_al0 (pc := 0) X dX5_owedBehind_0 ?_
  refine mo_il1 (pc := 1) X dX5_owedBehind_1 ?_
  refine mo_cSI (pc := 2) (As := [_]) X mo_k_X5_112 mo_y_yX5_isWeek dX5_owedBehind_2 (ct5_isWeek hw) rfl (by decide) (by decide) (Nat.le_of_ble_eq_true rfl) ?_
  rintro r_2 _ ⟨h_2, rfl⟩
  refine mo_il1 (pc := 5) X dX5_owedBehind_5 ?_
  refine mo_al0 (pc := 6) X dX5_owedBehind_6 ?_
  refine mo_f_X5_7 (pc := 7) X dX5_owedBehind_7 (mo_Md_o hm) (mo_Md_p0 hm) ?_
  refine mo_iconst (pc := 10) X dX5_owedBehind_10 ?_
  refine mo_iald (pc := 11) (j := 0) X dX5_owedBehind_11 (mo_Md_r0 hm) (by omega) ?_ ?_ rfl ?_
  · omega
  · omega
  refine mo_ic_lt (pc := 12) (tgt := 19) X dX5_owedBehind_12 (by decide) ?_ ?_ (fun c_12 => ?_) (fun c_12 => ?_)
  · omega
  · omega
  · skip
    refine mo_iconst (pc := 19) X dX5_owedBehind_19 ?_
    refine mo_iconst (pc := 20) X dX5_owedBehind_20 ?_
    refine mo_cVI (pc := 21) (As := [_, _, _]) X mo_k_X5_58 mo_y_yX5_goes rfl dX5_owedBehind_21 (ct5_goes hm (by omega) (by omega) (by omega)) (mo_Md_o hm) rfl (by decide) (by decide) (Nat.le_of_ble_eq_true rfl) ?_
    rintro r_21 M_21 ⟨T_21, hT_21, h_21⟩
    have eg_21 : M_21 (m + 1) = M (m + 1) := by rw [hT_21, mo_ur_n (by omega)]
    have es_21 : M_21 m 2 = M m 2 := by rw [hT_21, mo_ur_s, mo_up_n (by omega)]
    refine mo_if_ne (pc := 24) (tgt := 29) X dX5_owedBehind_24 (by decide) ?_ (fun c_24 => ?_) (fun c_24 => ?_)
    · omega
    · skip
      exfalso
      omega
    · skip
      refine mo_iconst (pc := 27) X dX5_owedBehind_27 ?_
      refine mo_iret (pc := 28) X Y rfl dX5_owedBehind_28 ⟨rfl, rfl, _, rfl, ?_⟩
      rcases h_21 with q | q | q | q
      all_goals
        first
          | exact Or.inl ⟨by omega, rfl, mo_Qr_go hT_21 (by omega)⟩
          | exact Or.inr (Or.inl ⟨by omega, by omega, rfl, mo_Qr_go hT_21 (by omega)⟩)
          | (exfalso; omega)
  · skip
    refine mo_iconst (pc := 15) X dX5_owedBehind_15 ?_
    refine mo_goto (pc := 16) (tgt := 20) X dX5_owedBehind_16 (by decide) ?_
    refine mo_iconst (pc := 20) X dX5_owedBehind_20 ?_
    refine mo_cVI (pc := 21) (As := [_, _, _]) X mo_k_X5_58 mo_y_yX5_goes rfl dX5_owedBehind_21 (ct5_goes hm (by omega) (by omega) (by omega)) (mo_Md_o hm) rfl (by decide) (by decide) (Nat.le_of_ble_eq_true rfl) ?_
    rintro r_21 M_21 ⟨T_21, hT_21, h_21⟩
    have eg_21 : M_21 (m + 1) = M (m + 1) := by rw [hT_21, mo_ur_n (by omega)]
    have es_21 : M_21 m 2 = M m 2 := by rw [hT_21, mo_ur_s, mo_up_n (by omega)]
    refine mo_if_ne (pc := 24) (tgt := 29) X dX5_owedBehind_24 (by decide) ?_ (fun c_24 => ?_) (fun c_24 => ?_)
    · omega
    · skip
      refine mo_al0 (pc := 29) X dX5_owedBehind_29 ?_
      refine mo_cVV (pc := 30) (As := []) X mo_k_X5_197 mo_y_yX5_layAside rfl dX5_owedBehind_30 (ct5_layAside hm) (mo_Md_o hm) rfl (by decide) (by decide) (Nat.le_of_ble_eq_true rfl) ?_
      rintro M_30 ⟨f3, hM_30, hf3, -⟩
      have e30 : M_30 (m + 1) = M (m + 1) := by rw [hM_30, mo_ur_n (by omega), eg_21]
      refine mo_al0 (pc := 33) X dX5_owedBehind_33 ?_
      refine mo_il1 (pc := 34) X dX5_owedBehind_34 ?_
      obtain ⟨wn, rfl⟩ := Int.eq_ofNat_of_zero_le (show 0 ≤ w by omega)
      refine mo_cVI (pc := 35) (As := [_]) X mo_k_X5_142 mo_y_yX5_plans rfl dX5_owedBehind_35 (ct5_plans (B := B) (w := wn) hm (by rw [e30]; exact hI) (by omega) (by omega)) (mo_Md_o hm) rfl (by decide) (by decide) (Nat.le_of_ble_eq_true rfl) ?_
      rintro r_35 M_35 ⟨f4, f5, f6, f7, h_35, hM_35⟩
      rw [e30] at h_35 hM_35
      have e35 : M_35 (m + 1) = (mo_pl wn 61 (M (m + 1))).2 := by rw [hM_35, mo_ur_s]
      have p35 := (mo_pl_Iv (show wn < 20 by omega) 61 hI).1
      refine mo_is2 (pc := 38) X dX5_owedBehind_38 rfl (by decide) ?_
      refine mo_al0 (pc := 39) X dX5_owedBehind_39 ?_
      refine mo_il1 (pc := 40) X dX5_owedBehind_40 ?_
      refine mo_cVI (pc := 41) (As := [_]) X mo_k_X5_189 mo_y_yX5_owedByAll rfl dX5_owedBehind_41 (ct5_owedByAll (B := B + 61) (w := wn) hm (by rw [e35]; exact p35) (by omega) (by omega)) (mo_Md_o hm) rfl (by decide) (by decide) (Nat.le_of_ble_eq_true rfl) ?_
      rintro r_41 _ ⟨h_41, rfl⟩
      rw [e35] at h_41
      refine mo_is3 (pc := 44) X dX5_owedBehind_44 rfl (by decide) ?_
      refine mo_al0 (pc := 45) X dX5_owedBehind_45 ?_
      refine mo_cVV (pc := 46) (As := []) X mo_k_X5_200 mo_y_yX5_takeBack rfl dX5_owedBehind_46 (ct5_takeBack hm) (mo_Md_o hm) rfl (by decide) (by decide) (Nat.le_of_ble_eq_true rfl) ?_
      rintro M_46 ⟨f, hM_46, hf, -⟩
      refine mo_il3 (pc := 49) X dX5_owedBehind_49 ?_
      refine mo_iret (pc := 50) X Y rfl dX5_owedBehind_50 ⟨rfl, rfl, _, rfl, ?_⟩
      refine Or.inr (Or.inr ⟨by omega, by omega, ?_, ?_⟩)
      · exact h_41
      · exact mo_Qr_of hT_21 (by omega) (by rw [hM_46, mo_ur_s]; exact fun k hk => by rw [hf k hk, hM_35, mo_ur_n (by omega), mo_sc_r3, hM_30, mo_ur_s, hf3 k hk, eg_21]) (fun a q => by rw [hM_46, mo_ur_n (by omega), hM_35, mo_ur_n (by omega), mo_sc_r _ _ _ _ _ (by omega), hM_30, mo_ur_n (by omega)])
    · skip
      refine mo_iconst (pc := 27) X dX5_owedBehind_27 ?_
      refine mo_iret (pc := 28) X Y rfl dX5_owedBehind_28 ⟨rfl, rfl, _, rfl, ?_⟩
      rcases h_21 with q | q | q | q
      all_goals
        first
          | exact Or.inl ⟨by omega, rfl, mo_Qr_go hT_21 (by omega)⟩
          | exact Or.inr (Or.inl ⟨by omega, by omega, rfl, mo_Qr_go hT_21 (by omega)⟩)
          | (exfalso; omega)
set_option maxHeartbeats 4000000 in
set_option maxRecDepth 100000 in
theorem ct5_settledIn {lf : Launch} {ρf : mo_E} {G : mo_G} {M : mo_M} {t : Nat} {m : Nat} (hm : mo_Md G m) {B : Int} (hI : mo_Iv (M (m + 1)) B) (hB : B ≤ 800000000) : mo_Ct lf ρf yX5_settledIn cX5_settledIn 1 (some .int) 7 0 0 [.ref m] G M t (mo_pi G t (fun x M' => x = mo_set 20 (M (m + 1)) ∧ mo_Qr M M' m 0)) := by
  refine mo_ofW (ls0 := [some (.ref m)]) (by decide) rfl (Nat.le_of_ble_eq_true rfl) ?_
  intro κ X Y
  have X : mo_Cx κ lf ρf cX5_settledIn 1 RX5 (some .int) 7 := X
  refine mo_al0 (pc := 0) X dX5_settledIn_0 ?_
  refine mo_iconst (pc := 1) X dX5_settledIn_1 ?_
  refine mo_p_X5_37 (pc := 2) X dX5_settledIn_2 (mo_Md_o hm) ?_
  obtain ⟨M2, hM2⟩ : ∃ M2, M2 = mo_ur M m (va_up (M m) 4 0) := ⟨_, rfl⟩
  rw [← hM2]
  have e2 : M2 (m + 1) = M (m + 1) := by rw [hM2, mo_ur_n (by omega)]
  refine mo_al0 (pc := 5) X dX5_settledIn_5 ?_
  refine mo_cVI (pc := 6) (As := []) X mo_k_X5_206 mo_y_yX5_settled rfl dX5_settledIn_6 (ct5_settled (B := B) hm (by rw [e2]; exact hI) hB) (mo_Md_o hm) rfl (by decide) (by decide) (Nat.le_of_ble_eq_true rfl) ?_
  rintro r_6 M_6 ⟨h_6, ha_6, hf_6⟩
  rw [e2] at h_6 ha_6
  refine mo_iret (pc := 9) X Y rfl dX5_settledIn_9 ⟨rfl, rfl, _, rfl, ?_⟩
  exact ⟨h_6, mo_Qr_of hM2 rfl ha_6 (fun a q => hf_6 a (by omega))⟩
theorem mo_Iv_lim {g : Nat → Int} {B : Int} {e : Nat} (h : mo_Iv g B) (he : e < 6) : mo_Iv (va_up g (198 + e) 20) B := by
  obtain ⟨hI0, hI1, hI2, hI3, hI4, hI5, hI6, hI7, hIh, hIa, hIe, hIm, hIs, hIl, hIw, hIr, hIt, hIs2, hIs3, hIz⟩ := h
  have lo : ∀ j, j ≠ 198 + e → va_up g (198 + e) 20 j = g j := fun j a => mo_up_n a
  refine ⟨?_, ?_, ?_, ?_, ?_, ?_, ?_, ?_, fun j hj => ?_, fun j hj => ?_, fun j hj => ?_, fun j hj => ?_, fun j hj => ?_, fun j hj => ?_, fun j hj => ?_, fun j hj => ?_, fun k hk2 => ?_, ?_, ?_, fun a b h1 h2 h3 => ?_⟩
  · rw [lo 0 (by omega)]; exact hI0
  · rw [lo 1 (by omega)]; exact hI1
  · rw [lo 2 (by omega)]; exact hI2
  · rw [lo 3 (by omega)]; exact hI3
  · rw [lo 4 (by omega)]; exact hI4
  · rw [lo 5 (by omega)]; exact hI5
  · rw [lo 6 (by omega)]; exact hI6
  · rw [lo 7 (by omega)]; exact hI7
  · rw [lo _ (by omega)]; exact hIh j hj
  · rw [lo _ (by omega)]; exact hIa j hj
  · rw [lo _ (by omega)]; exact hIe j hj
  · rw [lo _ (by omega)]; exact hIm j hj
  · rw [lo _ (by omega)]; exact hIs j hj
  · by_cases c : j = e
    · rw [c, mo_up_s]; omega
    · rw [lo _ (by omega)]; exact hIl j hj
  · rw [lo _ (by omega)]; exact hIw j hj
  · rw [lo _ (by omega)]; exact hIr j hj
  · rw [lo 7 (by omega)] at hk2
    have h9 := hIt k hk2
    unfold mo_Mt mo_fld at h9 ⊢
    rw [lo 4 (by omega), lo 5 (by omega), lo 6 (by omega), lo _ (by omega), lo _ (by omega), lo _ (by omega), lo _ (by omega), lo _ (by omega), lo _ (by omega), lo _ (by omega)]
    exact h9
  · rw [lo 2 (by omega), ← hIs2]
    exact mo_sum_congr fun j hj => lo _ (by omega)
  · rw [lo 3 (by omega), ← hIs3]
    exact mo_sum_congr fun j hj => lo _ (by omega)
  · rw [lo 4 (by omega)] at h1
    rw [lo _ (by omega)]
    exact hIz a b h1 h2 h3
set_option maxHeartbeats 4000000 in
set_option maxRecDepth 100000 in
theorem ct5_gainBy {lf : Launch} {ρf : mo_E} {G : mo_G} {M : mo_M} {t : Nat} {m : Nat} (hm : mo_Md G m) {B p w : Int} (hI : mo_Iv (M (m + 1)) B) (hB : B ≤ 800000000) (hp : mo_In p) (hw : mo_In w) : mo_Ct lf ρf yX5_gainBy cX5_gainBy 6 (some .int) 6 0 0 [.ref m, mo_iv p, mo_iv w] G M t (mo_pi G t (fun x M' => (¬ (0 ≤ p ∧ p < M (m + 1) 5) ∧ x = 0 ∧ mo_Qr M M' m 1) ∨ ((0 ≤ p ∧ p < M (m + 1) 5) ∧ ¬ (0 ≤ w ∧ w ≤ 19) ∧ x = 0 ∧ mo_Qr M M' m 2) ∨ ((0 ≤ p ∧ p < M (m + 1) 5) ∧ (0 ≤ w ∧ w ≤ 19) ∧ ¬ (M (m + 1) 0 ≤ w) ∧ x = 0 ∧ mo_Qr M M' m 3) ∨ ((0 ≤ p ∧ p < M (m + 1) 5) ∧ (0 ≤ w ∧ w ≤ 19) ∧ M (m + 1) 0 ≤ w ∧ x = (mo_pl w.toNat 61 (va_up (M (m + 1)) (198 + p.toNat) 20)).1 - (mo_pl w.toNat 61 (M (m + 1))).1 ∧ mo_Qr M M' m 0))) := by
  refine mo_ofW (ls0 := [some (.ref m), some (mo_iv p), some (mo_iv w), none, none, none]) (by decide) rfl (Nat.le_of_ble_eq_true rfl) ?_
  intro κ X Y
  have X : mo_Cx κ lf ρf cX5_gainBy 6 RX5 (some .int) 6 := X
  obtain ⟨hI0, hI1, hI2, hI3, hI4, hI5, hI6, hI7, hIh, hIa, hIe, hIm, hIs, hIl, hIw, hIr, hIt, hIs2, hIs3, hIz⟩ := id hI
  have hn : ((mo_nk (M (m + 1)) : Nat) : Int) = M (m + 1) 7 := by unfold mo_nk; omega
  refine mo_al0 (pc := 0) X dX5_gainBy_0 ?_
  refine mo_il1 (pc := 1) X dX5_gainBy_1 ?_
  refine mo_cVI (pc := 2) (As := [_]) X mo_k_X5_84 mo_y_yX5_isEscort rfl dX5_gainBy_2 (ct5_isEscort hm hp (by omega)) (mo_Md_o hm) rfl (by decide) (by decide) (Nat.le_of_ble_eq_true rfl) ?_
  rintro r_2 _ ⟨h_2, rfl⟩
  refine mo_is3 (pc := 5) X dX5_gainBy_5 rfl (by decide) ?_
  refine mo_al0 (pc := 6) X dX5_gainBy_6 ?_
  refine mo_il3 (pc := 7) X dX5_gainBy_7 ?_
  refine mo_il2 (pc := 8) X dX5_gainBy_8 ?_
  refine mo_cSI (pc := 9) (As := [_]) X mo_k_X5_112 mo_y_yX5_isWeek dX5_gainBy_9 (ct5_isWeek hw) rfl (by decide) (by decide) (Nat.le_of_ble_eq_true rfl) ?_
  rintro r_9 _ ⟨h_9, rfl⟩
  refine mo_il2 (pc := 12) X dX5_gainBy_12 ?_
  refine mo_al0 (pc := 13) X dX5_gainBy_13 ?_
  refine mo_f_X5_7 (pc := 14) X dX5_gainBy_14 (mo_Md_o hm) (mo_Md_p0 hm) ?_
  refine mo_iconst (pc := 17) X dX5_gainBy_17 ?_
  refine mo_iald (pc := 18) (j := 0) X dX5_gainBy_18 (mo_Md_r0 hm) (by omega) ?_ ?_ rfl ?_
  · omega
  · omega
  refine mo_ic_lt (pc := 19) (tgt := 26) X dX5_gainBy_19 (by decide) ?_ ?_ (fun c_19 => ?_) (fun c_19 => ?_)
  · omega
  · omega
  · skip
    refine mo_iconst (pc := 26) X dX5_gainBy_26 ?_
    refine mo_cVI (pc := 27) (As := [_, _, _]) X mo_k_X5_58 mo_y_yX5_goes rfl dX5_gainBy_27 (ct5_goes hm (by omega) (by omega) (by omega)) (mo_Md_o hm) rfl (by decide) (by decide) (Nat.le_of_ble_eq_true rfl) ?_
    rintro r_27 M_27 ⟨T_27, hT_27, h_27⟩
    have eg_27 : M_27 (m + 1) = M (m + 1) := by rw [hT_27, mo_ur_n (by omega)]
    have es_27 : M_27 m 2 = M m 2 := by rw [hT_27, mo_ur_s, mo_up_n (by omega)]
    refine mo_if_ne (pc := 30) (tgt := 35) X dX5_gainBy_30 (by decide) ?_ (fun c_30 => ?_) (fun c_30 => ?_)
    · omega
    · skip
      exfalso
      omega
    · skip
      refine mo_iconst (pc := 33) X dX5_gainBy_33 ?_
      refine mo_iret (pc := 34) X Y rfl dX5_gainBy_34 ⟨rfl, rfl, _, rfl, ?_⟩
      rcases h_27 with q | q | q | q
      all_goals
        first
          | exact Or.inl ⟨by omega, rfl, mo_Qr_go hT_27 (by omega)⟩
          | exact Or.inr (Or.inl ⟨by omega, by omega, rfl, mo_Qr_go hT_27 (by omega)⟩)
          | exact Or.inr (Or.inr (Or.inl ⟨by omega, by omega, by omega, rfl, mo_Qr_go hT_27 (by omega)⟩))
          | (exfalso; omega)
  · skip
    refine mo_iconst (pc := 22) X dX5_gainBy_22 ?_
    refine mo_goto (pc := 23) (tgt := 27) X dX5_gainBy_23 (by decide) ?_
    refine mo_cVI (pc := 27) (As := [_, _, _]) X mo_k_X5_58 mo_y_yX5_goes rfl dX5_gainBy_27 (ct5_goes hm (by omega) (by omega) (by omega)) (mo_Md_o hm) rfl (by decide) (by decide) (Nat.le_of_ble_eq_true rfl) ?_
    rintro r_27 M_27 ⟨T_27, hT_27, h_27⟩
    have eg_27 : M_27 (m + 1) = M (m + 1) := by rw [hT_27, mo_ur_n (by omega)]
    have es_27 : M_27 m 2 = M m 2 := by rw [hT_27, mo_ur_s, mo_up_n (by omega)]
    refine mo_if_ne (pc := 30) (tgt := 35) X dX5_gainBy_30 (by decide) ?_ (fun c_30 => ?_) (fun c_30 => ?_)
    · omega
    · skip
      obtain ⟨pn, rfl⟩ := Int.eq_ofNat_of_zero_le (show 0 ≤ p by omega)
      obtain ⟨wn, rfl⟩ := Int.eq_ofNat_of_zero_le (show 0 ≤ w by omega)
      refine mo_al0 (pc := 35) X dX5_gainBy_35 ?_
      refine mo_cVV (pc := 36) (As := []) X mo_k_X5_197 mo_y_yX5_layAside rfl dX5_gainBy_36 (ct5_layAside hm) (mo_Md_o hm) rfl (by decide) (by decide) (Nat.le_of_ble_eq_true rfl) ?_
      rintro M_36 ⟨f3, hM_36, hf3, -⟩
      have e36 : M_36 (m + 1) = M (m + 1) := by rw [hM_36, mo_ur_n (by omega), eg_27]
      refine mo_al0 (pc := 39) X dX5_gainBy_39 ?_
      refine mo_il2 (pc := 40) X dX5_gainBy_40 ?_
      refine mo_cVI (pc := 41) (As := [_]) X mo_k_X5_142 mo_y_yX5_plans rfl dX5_gainBy_41 (ct5_plans (B := B) (w := wn) hm (by rw [e36]; exact hI) (by omega) (by omega)) (mo_Md_o hm) rfl (by decide) (by decide) (Nat.le_of_ble_eq_true rfl) ?_
      rintro r_41 M_41 ⟨f4, f5, f6, f7, h_41, hM_41⟩
      rw [e36] at h_41 hM_41
      refine mo_is4 (pc := 44) X dX5_gainBy_44 rfl (by decide) ?_
      refine mo_al0 (pc := 46) X dX5_gainBy_46 ?_
      refine mo_cVV (pc := 47) (As := []) X mo_k_X5_200 mo_y_yX5_takeBack rfl dX5_gainBy_47 (ct5_takeBack hm) (mo_Md_o hm) rfl (by decide) (by decide) (Nat.le_of_ble_eq_true rfl) ?_
      rintro M_47 ⟨f, hM_47, hf, hf2⟩
      have hfe : f = M (m + 1) := by
        funext k
        by_cases c : k < 640
        · rw [hf k c, hM_41, mo_ur_n (by omega), mo_sc_r3, hM_36, mo_ur_s, hf3 k c, eg_27]
        · rw [hf2 k (by omega), hM_41, mo_ur_s]
          exact mo_pl_hi (show wn < 20 by omega) 61 hI k (by omega)
      have e47 : M_47 (m + 1) = M (m + 1) := by rw [hM_47, mo_ur_s, hfe]
      have e47b : M_47 (m + 3) = f3 := by rw [hM_47, mo_ur_n (by omega), hM_41, mo_ur_n (by omega), mo_sc_r3, hM_36, mo_ur_s]
      refine mo_al0 (pc := 50) X dX5_gainBy_50 ?_
      refine mo_f_X5_7 (pc := 51) X dX5_gainBy_51 (mo_Md_o hm) (mo_Md_p0 hm) ?_
      refine mo_sipush (pc := 54) X dX5_gainBy_54 (by decide) ?_
      refine mo_il1 (pc := 57) X dX5_gainBy_57 ?_
      refine mo_iadd (pc := 58) X dX5_gainBy_58 ?_
      refine mo_bipush (pc := 59) X dX5_gainBy_59 (by decide) ?_
      refine mo_iast (pc := 61) (j := 198 + pn) X dX5_gainBy_61 (mo_Md_r0 hm) (by omega) ?_ ?_ (by omega) ?_
      · omega
      · omega
      refine mo_al0 (pc := 62) X dX5_gainBy_62 ?_
      refine mo_il2 (pc := 63) X dX5_gainBy_63 ?_
      refine mo_cVI (pc := 64) (As := [_]) X mo_k_X5_142 mo_y_yX5_plans rfl dX5_gainBy_64 (ct5_plans (B := B) (w := wn) hm (by rw [mo_ur_s, e47]; exact mo_Iv_lim hI (by omega)) (by omega) (by omega)) (mo_Md_o hm) rfl (by decide) (by decide) (Nat.le_of_ble_eq_true rfl) ?_
      rintro r_64 M_64 ⟨g4, g5, g6, g7, h_64, hM_64⟩
      rw [mo_ur_s, e47] at h_64 hM_64
      refine mo_is5 (pc := 67) X dX5_gainBy_67 rfl (by decide) ?_
      refine mo_al0 (pc := 69) X dX5_gainBy_69 ?_
      refine mo_cVV (pc := 70) (As := []) X mo_k_X5_200 mo_y_yX5_takeBack rfl dX5_gainBy_70 (ct5_takeBack hm) (mo_Md_o hm) rfl (by decide) (by decide) (Nat.le_of_ble_eq_true rfl) ?_
      rintro M_70 ⟨f9, hM_70, hf9, -⟩
      refine mo_il5 (pc := 73) X dX5_gainBy_73 ?_
      refine mo_il4 (pc := 75) X dX5_gainBy_75 ?_
      refine mo_isub (pc := 77) X dX5_gainBy_77 ?_
      refine mo_iret (pc := 78) X Y rfl dX5_gainBy_78 ⟨rfl, rfl, _, rfl, ?_⟩
      refine Or.inr (Or.inr (Or.inr ⟨by omega, by omega, by omega, ?_, ?_⟩))
      · simp only [Int.toNat_natCast]
        rw [h_64, h_41]
      · refine mo_Qr_of hT_27 (by omega) ?_ (fun a q => ?_)
        · rw [hM_70, mo_ur_s]
          exact fun k hk => by rw [hf9 k hk, hM_64, mo_ur_n (by omega), mo_sc_r3, mo_ur_n (by omega), e47b, hf3 k hk, eg_27]
        · rw [hM_70, mo_ur_n (by omega), hM_64, mo_ur_n (by omega), mo_sc_r _ _ _ _ _ (by omega), mo_ur_n (by omega), hM_47, mo_ur_n (by omega), hM_41, mo_ur_n (by omega), mo_sc_r _ _ _ _ _ (by omega), hM_36, mo_ur_n (by omega)]
    · skip
      refine mo_iconst (pc := 33) X dX5_gainBy_33 ?_
      refine mo_iret (pc := 34) X Y rfl dX5_gainBy_34 ⟨rfl, rfl, _, rfl, ?_⟩
      rcases h_27 with q | q | q | q
      all_goals
        first
          | exact Or.inl ⟨by omega, rfl, mo_Qr_go hT_27 (by omega)⟩
          | exact Or.inr (Or.inl ⟨by omega, by omega, rfl, mo_Qr_go hT_27 (by omega)⟩)
          | exact Or.inr (Or.inr (Or.inl ⟨by omega, by omega, by omega, rfl, mo_Qr_go hT_27 (by omega)⟩))
          | (exfalso; omega)
set_option maxHeartbeats 4000000 in
set_option maxRecDepth 100000 in
theorem ct5_undo {lf : Launch} {ρf : mo_E} {G : mo_G} {M : mo_M} {t : Nat} {m : Nat} (hm : mo_Md G m) {B : Int} (hI : mo_Iv (M (m + 1)) B) (hB : B ≤ 800000000) {n : Nat} (hs : M m 2 = n) (hn4 : n ≤ 4) : mo_Ct lf ρf yX5_undo cX5_undo 2 (some .int) 1 0 0 [.ref m] G M t (mo_pi G t (fun x M' => (n = 0 ∧ x = 0 ∧ mo_Qr M M' m 1) ∨ (0 < n ∧ x = (n : Int) - 1 ∧ M' m 4 = 0 ∧ M' m 2 = (n : Int) - 1 ∧ M' m 10 = M m 10 ∧ (∀ k, k < 640 → M' (m + 1) k = M (m + 2) (640 * (n - 1) + k)) ∧ M' (m + 2) = M (m + 2) ∧ M' (m + 8) = M (m + 8) ∧ ∀ a, (a < m ∨ m + 9 < a) → M' a = M a))) := by
  refine mo_ofW (ls0 := [some (.ref m), none]) (by decide) rfl (Nat.le_of_ble_eq_true rfl) ?_
  intro κ X Y
  have X : mo_Cx κ lf ρf cX5_undo 2 RX5 (some .int) 1 := X
  have loop : ∀ (z i : Nat) (x : Int) (Mz : mo_M) (f : Nat → Int) (q : Nat), n = q + 1 → Mz m 2 = q → Mz (m + 2) = M (m + 2) → i + z = 640 → x = i → (∀ k, k < i → f k = M (m + 2) (640 * q + k)) → (∀ f9, (∀ k, k < 640 → f9 k = M (m + 2) (640 * q + k)) → (fun x M' => (n = 0 ∧ x = 0 ∧ mo_Qr M M' m 1) ∨ (0 < n ∧ x = (n : Int) - 1 ∧ M' m 4 = 0 ∧ M' m 2 = (n : Int) - 1 ∧ M' m 10 = M m 10 ∧ (∀ k, k < 640 → M' (m + 1) k = M (m + 2) (640 * (n - 1) + k)) ∧ M' (m + 2) = M (m + 2) ∧ M' (m + 8) = M (m + 8) ∧ ∀ a, (a < m ∨ m + 9 < a) → M' a = M a)) (q : Int) (mo_ur Mz (m + 1) f9)) → mo_V κ 0 0 35 [some (.ref m), some (mo_iv x)] [] G (mo_ur Mz (m + 1) f) t := by
    intro z
    induction z with
    | zero =>
      intro i x Mz f q hnq hq2 hs2 hi hx hf kk
      subst hx
      have e0 : (mo_ur Mz (m + 1) f) m 2 = q := by rw [mo_ur_n (by omega), hq2]
      refine mo_il1 (pc := 35) X dX5_undo_35 ?_
      refine mo_sipush (pc := 36) X dX5_undo_36 (by decide) ?_
      refine mo_ic_ge (pc := 39) (tgt := 69) X dX5_undo_39 (by decide) ?_ ?_ (fun c_39 => ?_) (fun c_39 => ?_)
      · omega
      · omega
      · skip
        refine mo_al0 (pc := 69) X dX5_undo_69 ?_
        refine mo_f_X5_41 (pc := 70) X dX5_undo_70 (mo_Md_o hm) ?_
        rw [e0]
        refine mo_iret (pc := 73) X Y rfl dX5_undo_73 ⟨rfl, rfl, _, rfl, ?_⟩
        exact kk f (fun k hk => hf k (by omega))
      · exfalso
        omega
    | succ z ih =>
      intro i x Mz f q hnq hq2 hs2 hi hx hf kk
      subst hx
      have e0 : (mo_ur Mz (m + 1) f) m 2 = q := by rw [mo_ur_n (by omega), hq2]
      have e2 : (mo_ur Mz (m + 1) f) (m + 2) = M (m + 2) := by rw [mo_ur_n (by omega), hs2]
      refine mo_il1 (pc := 35) X dX5_undo_35 ?_
      refine mo_sipush (pc := 36) X dX5_undo_36 (by decide) ?_
      refine mo_ic_ge (pc := 39) (tgt := 69) X dX5_undo_39 (by decide) ?_ ?_ (fun c_39 => ?_) (fun c_39 => ?_)
      · omega
      · omega
      · exfalso
        omega
      · skip
        refine mo_al0 (pc := 42) X dX5_undo_42 ?_
        refine mo_f_X5_7 (pc := 43) X dX5_undo_43 (mo_Md_o hm) (mo_Md_p0 hm) ?_
        refine mo_il1 (pc := 46) X dX5_undo_46 ?_
        refine mo_al0 (pc := 47) X dX5_undo_47 ?_
        refine mo_f_X5_13 (pc := 48) X dX5_undo_48 (mo_Md_o hm) (mo_Md_p1 hm) ?_
        refine mo_sipush (pc := 51) X dX5_undo_51 (by decide) ?_
        refine mo_al0 (pc := 54) X dX5_undo_54 ?_
        refine mo_f_X5_41 (pc := 55) X dX5_undo_55 (mo_Md_o hm) ?_
        rw [e0]
        refine mo_imul (pc := 58) X dX5_undo_58 ?_
        refine mo_il1 (pc := 59) X dX5_undo_59 ?_
        refine mo_iadd (pc := 60) X dX5_undo_60 ?_
        refine mo_iald (pc := 61) (j := 640 * q + i) X dX5_undo_61 (mo_Md_r1 hm) (by omega) ?_ ?_ (by omega) ?_
        · omega
        · omega
        rw [e2]
        refine mo_iast (pc := 62) (j := i) X dX5_undo_62 (mo_Md_r0 hm) (by omega) ?_ ?_ (by omega) ?_
        · omega
        · omega
        try simp only [mo_ur_ur, mo_ur_s]
        refine mo_ii1 (pc := 63) X dX5_undo_63 rfl (by decide) ?_
        refine mo_goto (pc := 66) (tgt := 35) X dX5_undo_66 (by decide) ?_
        refine ih (i + 1) _ Mz _ q hnq hq2 hs2 (by omega) (by omega) (fun k hk => ?_) kk
        by_cases e : k = i
        · rw [e, mo_up_s]
        · rw [mo_up_n e]; exact hf k (by omega)
  refine mo_al0 (pc := 0) X dX5_undo_0 ?_
  refine mo_al0 (pc := 1) X dX5_undo_1 ?_
  refine mo_f_X5_41 (pc := 2) X dX5_undo_2 (mo_Md_o hm) ?_
  refine mo_if_le (pc := 5) (tgt := 12) X dX5_undo_5 (by decide) ?_ (fun c_5 => ?_) (fun c_5 => ?_)
  · omega
  · skip
    refine mo_iconst (pc := 12) X dX5_undo_12 ?_
    refine mo_iconst (pc := 13) X dX5_undo_13 ?_
    refine mo_iconst (pc := 14) X dX5_undo_14 ?_
    refine mo_cVI (pc := 15) (As := [_, _, _]) X mo_k_X5_58 mo_y_yX5_goes rfl dX5_undo_15 (ct5_goes hm (by omega) (by omega) (by omega)) (mo_Md_o hm) rfl (by decide) (by decide) (Nat.le_of_ble_eq_true rfl) ?_
    rintro r_15 M_15 ⟨T_15, hT_15, h_15⟩
    have eg_15 : M_15 (m + 1) = M (m + 1) := by rw [hT_15, mo_ur_n (by omega)]
    have es_15 : M_15 m 2 = M m 2 := by rw [hT_15, mo_ur_s, mo_up_n (by omega)]
    refine mo_if_ne (pc := 18) (tgt := 23) X dX5_undo_18 (by decide) ?_ (fun c_18 => ?_) (fun c_18 => ?_)
    · omega
    · skip
      exfalso
      omega
    · skip
      refine mo_iconst (pc := 21) X dX5_undo_21 ?_
      refine mo_iret (pc := 22) X Y rfl dX5_undo_22 ⟨rfl, rfl, _, rfl, ?_⟩
      first
        | exact Or.inl ⟨by omega, rfl, mo_Qr_go hT_15 (by omega)⟩
        | (exfalso; omega)
  · skip
    refine mo_iconst (pc := 8) X dX5_undo_8 ?_
    refine mo_goto (pc := 9) (tgt := 13) X dX5_undo_9 (by decide) ?_
    refine mo_iconst (pc := 13) X dX5_undo_13 ?_
    refine mo_iconst (pc := 14) X dX5_undo_14 ?_
    refine mo_cVI (pc := 15) (As := [_, _, _]) X mo_k_X5_58 mo_y_yX5_goes rfl dX5_undo_15 (ct5_goes hm (by omega) (by omega) (by omega)) (mo_Md_o hm) rfl (by decide) (by decide) (Nat.le_of_ble_eq_true rfl) ?_
    rintro r_15 M_15 ⟨T_15, hT_15, h_15⟩
    have eg_15 : M_15 (m + 1) = M (m + 1) := by rw [hT_15, mo_ur_n (by omega)]
    have es_15 : M_15 m 2 = M m 2 := by rw [hT_15, mo_ur_s, mo_up_n (by omega)]
    refine mo_if_ne (pc := 18) (tgt := 23) X dX5_undo_18 (by decide) ?_ (fun c_18 => ?_) (fun c_18 => ?_)
    · omega
    · skip
      refine mo_al0 (pc := 23) X dX5_undo_23 ?_
      refine mo_dup (pc := 24) X dX5_undo_24 rfl ?_
      refine mo_f_X5_41 (pc := 25) X dX5_undo_25 (mo_Md_o hm) ?_
      refine mo_iconst (pc := 28) X dX5_undo_28 ?_
      refine mo_isub (pc := 29) X dX5_undo_29 ?_
      refine mo_p_X5_41 (pc := 30) X dX5_undo_30 (mo_Md_o hm) ?_
      refine mo_iconst (pc := 33) X dX5_undo_33 ?_
      refine mo_is1 (pc := 34) X dX5_undo_34 rfl (by decide) ?_
      have hM1 : (mo_ur M_15 m (va_up (M_15 m) 2 (M_15 m 2 - 1))) (m + 1) = M (m + 1) := by rw [mo_ur_n (by omega), eg_15]
      have h0 := loop 640 0 0 (mo_ur M_15 m (va_up (M_15 m) 2 (M_15 m 2 - 1))) (M (m + 1)) (n - 1) (by omega) (by rw [mo_ur_s, mo_up_s, es_15]; omega) (by rw [mo_ur_n (by omega), hT_15, mo_ur_n (by omega)]) (by omega) rfl (fun k hk => absurd hk (by omega)) (fun f9 hf9 => by
        refine Or.inr ⟨by omega, by omega, ?_, ?_, ?_, ?_, ?_, ?_, ?_⟩
        · rw [mo_ur_n (by omega), mo_ur_s, mo_up_n (by omega), hT_15, mo_ur_s, mo_up_s]; omega
        · rw [mo_ur_n (by omega), mo_ur_s, mo_up_s, es_15]; omega
        · rw [mo_ur_n (by omega), mo_ur_s, mo_up_n (by omega), hT_15, mo_ur_s, mo_up_n (by omega)]
        · intro k hk
          rw [mo_ur_s, hf9 k hk]
        · rw [mo_ur_n (by omega), mo_ur_n (by omega), hT_15, mo_ur_n (by omega)]
        · rw [mo_ur_n (by omega), mo_ur_n (by omega), hT_15, mo_ur_n (by omega)]
        · intro a ha
          rw [mo_ur_n (by omega), mo_ur_n (by omega), hT_15, mo_ur_n (by omega)])
      rw [← hM1, mo_ur_id] at h0
      exact h0
    · skip
      refine mo_iconst (pc := 21) X dX5_undo_21 ?_
      refine mo_iret (pc := 22) X Y rfl dX5_undo_22 ⟨rfl, rfl, _, rfl, ?_⟩
      first
        | exact Or.inl ⟨by omega, rfl, mo_Qr_go hT_15 (by omega)⟩
        | (exfalso; omega)
