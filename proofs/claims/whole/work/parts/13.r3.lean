theorem mo_fre_b {g : Nat → Int} {B w : Int} (hI : mo_Iv g B) {j : Nat} (hj : j < 140) : -60 ≤ mo_fre g w (mo_nk g) j ∧ mo_fre g w (mo_nk g) j ≤ 4 := by
  obtain ⟨hI0, hI1, hI2, hI3, hI4, hI5, hI6, hI7, hIh, hIa, hIe, hIm, hIs, hIl, hIw, hIr, hIt, hIs2, hIs3, hIz⟩ := hI
  have h1 := hIr (j / 28) (by omega)
  have h2 := mo_tkn_le g w (mo_nk g) j
  have h3 : ((mo_nk g : Nat) : Int) = g 7 := by unfold mo_nk; omega
  unfold mo_fre
  omega
theorem mo_we_in (g : Nat → Int) (w : Int) (e t : Nat) : 0 ≤ mo_we g w e t ∧ mo_we g w e t ≤ 6 := by
  unfold mo_we
  split
  · omega
  · split
    · omega
    · split <;> omega
set_option maxHeartbeats 4000000 in
set_option maxRecDepth 100000 in
theorem ct5_whyEscort {lf : Launch} {ρf : mo_E} {G : mo_G} {M : mo_M} {t : Nat} {m : Nat} (hm : mo_Md G m) {B w : Int} {e q : Nat} (hI : mo_Iv (M (m + 1)) B) (hB : B ≤ 1000000000) (hL : mo_Lk M m w) (he : (e : Int) < M (m + 1) 5) : mo_Ct lf ρf yX5_whyEscort cX5_whyEscort 3 (some .int) 1 0 0 [.ref m, mo_iv e, mo_iv q] G M t (mo_pi G t (fun x M' => x = mo_we (M (m + 1)) w e q ∧ M = M')) := by
  refine mo_ofW (ls0 := [some (.ref m), some (mo_iv e), some (mo_iv q)]) (by decide) rfl (Nat.le_of_ble_eq_true rfl) ?_
  intro κ X Y
  have X : mo_Cx κ lf ρf cX5_whyEscort 3 RX5 (some .int) 1 := X
  obtain ⟨hI0, hI1, hI2, hI3, hI4, hI5, hI6, hI7, hIh, hIa, hIe, hIm, hIs, hIl, hIw, hIr, hIt, hIs2, hIs3, hIz⟩ := id hI
  have hn : ((mo_nk (M (m + 1)) : Nat) : Int) = M (m + 1) 7 := by unfold mo_nk; omega
  have hl := hIl e (by omega)
  have hmn := mo_mny_le (M (m + 1)) w (mo_nk (M (m + 1))) e
  refine mo_al0 (pc := 0) X dX5_whyEscort_0 ?_
  refine mo_f_X5_7 (pc := 1) X dX5_whyEscort_1 (mo_Md_o hm) (mo_Md_p0 hm) ?_
  refine mo_sipush (pc := 4) X dX5_whyEscort_4 (by decide) ?_
  refine mo_il1 (pc := 7) X dX5_whyEscort_7 ?_
  refine mo_iadd (pc := 8) X dX5_whyEscort_8 ?_
  refine mo_iald (pc := 9) (j := 192 + e) X dX5_whyEscort_9 (mo_Md_r0 hm) (by omega) ?_ ?_ (by omega) ?_
  · omega
  · omega
  refine mo_il2 (pc := 10) X dX5_whyEscort_10 ?_
  refine mo_cSI (pc := 11) (As := [_, _]) X mo_k_X5_95 mo_y_yX5_has dX5_whyEscort_11 (ct5_has) rfl (by decide) (by decide) (Nat.le_of_ble_eq_true rfl) ?_
  rintro r_11 _ ⟨h_11, rfl⟩
  refine mo_if_ne (pc := 14) (tgt := 19) X dX5_whyEscort_14 (by decide) ?_ (fun c_14 => ?_) (fun c_14 => ?_)
  · omega
  · skip
    refine mo_al0 (pc := 19) X dX5_whyEscort_19 ?_
    refine mo_f_X5_22 (pc := 20) X dX5_whyEscort_20 (mo_Md_o hm) (mo_Md_p6 hm) ?_
    refine mo_il1 (pc := 23) X dX5_whyEscort_23 ?_
    refine mo_iald (pc := 24) (j := e) X dX5_whyEscort_24 (mo_Md_r6 hm) (by omega) ?_ ?_ (by omega) ?_
    · omega
    · omega
    rw [hL.2.1 e (by omega)]
    refine mo_il2 (pc := 25) X dX5_whyEscort_25 ?_
    refine mo_cSI (pc := 26) (As := [_, _]) X mo_k_X5_95 mo_y_yX5_has dX5_whyEscort_26 (ct5_has) rfl (by decide) (by decide) (Nat.le_of_ble_eq_true rfl) ?_
    rintro r_26 _ ⟨h_26, rfl⟩
    refine mo_if_eq (pc := 29) (tgt := 36) X dX5_whyEscort_29 (by decide) ?_ (fun c_29 => ?_) (fun c_29 => ?_)
    · omega
    · skip
      refine mo_al0 (pc := 36) X dX5_whyEscort_36 ?_
      refine mo_f_X5_25 (pc := 37) X dX5_whyEscort_37 (mo_Md_o hm) (mo_Md_p7 hm) ?_
      refine mo_il1 (pc := 40) X dX5_whyEscort_40 ?_
      refine mo_iald (pc := 41) (j := e) X dX5_whyEscort_41 (mo_Md_r7 hm) (by omega) ?_ ?_ (by omega) ?_
      · omega
      · omega
      rw [hL.2.2.1 e (by omega)]
      refine mo_al0 (pc := 42) X dX5_whyEscort_42 ?_
      refine mo_f_X5_7 (pc := 43) X dX5_whyEscort_43 (mo_Md_o hm) (mo_Md_p0 hm) ?_
      refine mo_sipush (pc := 46) X dX5_whyEscort_46 (by decide) ?_
      refine mo_il1 (pc := 49) X dX5_whyEscort_49 ?_
      refine mo_iadd (pc := 50) X dX5_whyEscort_50 ?_
      refine mo_iald (pc := 51) (j := 198 + e) X dX5_whyEscort_51 (mo_Md_r0 hm) (by omega) ?_ ?_ (by omega) ?_
      · omega
      · omega
      refine mo_ic_lt (pc := 52) (tgt := 60) X dX5_whyEscort_52 (by decide) ?_ ?_ (fun c_52 => ?_) (fun c_52 => ?_)
      · omega
      · omega
      · skip
        refine mo_iconst (pc := 60) X dX5_whyEscort_60 ?_
        refine mo_iret (pc := 61) X Y rfl dX5_whyEscort_61 ⟨rfl, rfl, _, rfl, ?_⟩
        refine ⟨?_, rfl⟩
        unfold mo_we
        first
          | rw [if_pos (by simpa using mo_b0 h_11 c_14)]
          | rw [if_neg (by simpa using mo_b1 h_11 c_14), if_pos (mo_b1 h_26 c_29)]
          | rw [if_neg (by simpa using mo_b1 h_11 c_14), if_neg (mo_b0 h_26 c_29), if_pos c_52]
          | rw [if_neg (by simpa using mo_b1 h_11 c_14), if_neg (mo_b0 h_26 c_29), if_neg (by omega)]
      · skip
        refine mo_bipush (pc := 55) X dX5_whyEscort_55 (by decide) ?_
        refine mo_goto (pc := 57) (tgt := 61) X dX5_whyEscort_57 (by decide) ?_
        refine mo_iret (pc := 61) X Y rfl dX5_whyEscort_61 ⟨rfl, rfl, _, rfl, ?_⟩
        refine ⟨?_, rfl⟩
        unfold mo_we
        first
          | rw [if_pos (by simpa using mo_b0 h_11 c_14)]
          | rw [if_neg (by simpa using mo_b1 h_11 c_14), if_pos (mo_b1 h_26 c_29)]
          | rw [if_neg (by simpa using mo_b1 h_11 c_14), if_neg (mo_b0 h_26 c_29), if_pos c_52]
          | rw [if_neg (by simpa using mo_b1 h_11 c_14), if_neg (mo_b0 h_26 c_29), if_neg (by omega)]
    · skip
      refine mo_iconst (pc := 32) X dX5_whyEscort_32 ?_
      refine mo_goto (pc := 33) (tgt := 61) X dX5_whyEscort_33 (by decide) ?_
      refine mo_iret (pc := 61) X Y rfl dX5_whyEscort_61 ⟨rfl, rfl, _, rfl, ?_⟩
      refine ⟨?_, rfl⟩
      unfold mo_we
      first
        | rw [if_pos (by simpa using mo_b0 h_11 c_14)]
        | rw [if_neg (by simpa using mo_b1 h_11 c_14), if_pos (mo_b1 h_26 c_29)]
        | rw [if_neg (by simpa using mo_b1 h_11 c_14), if_neg (mo_b0 h_26 c_29), if_pos c_52]
        | rw [if_neg (by simpa using mo_b1 h_11 c_14), if_neg (mo_b0 h_26 c_29), if_neg (by omega)]
  · skip
    refine mo_iconst (pc := 17) X dX5_whyEscort_17 ?_
    refine mo_iret (pc := 18) X Y rfl dX5_whyEscort_18 ⟨rfl, rfl, _, rfl, ?_⟩
    refine ⟨?_, rfl⟩
    unfold mo_we
    first
      | rw [if_pos (by simpa using mo_b0 h_11 c_14)]
      | rw [if_neg (by simpa using mo_b1 h_11 c_14), if_pos (mo_b1 h_26 c_29)]
      | rw [if_neg (by simpa using mo_b1 h_11 c_14), if_neg (mo_b0 h_26 c_29), if_pos c_52]
      | rw [if_neg (by simpa using mo_b1 h_11 c_14), if_neg (mo_b0 h_26 c_29), if_neg (by omega)]
set_option maxHeartbeats 4000000 in
set_option maxRecDepth 100000 in
theorem ct5_venueFor {lf : Launch} {ρf : mo_E} {G : mo_G} {M : mo_M} {t : Nat} {m : Nat} (hm : mo_Md G m) {B w : Int} {o q : Nat} (hI : mo_Iv (M (m + 1)) B) (hB : B ≤ 1000000000) (hL : mo_Lk M m w) (ho : o < 8) (hq : q < 28) : mo_Ct lf ρf yX5_venueFor cX5_venueFor 4 (some .int) 1 0 0 [.ref m, mo_iv o, mo_iv q] G M t (mo_pi G t (fun x M' => x = mo_vf (M (m + 1)) w o q ∧ M = M')) := by
  refine mo_ofW (ls0 := [some (.ref m), some (mo_iv o), some (mo_iv q), none]) (by decide) rfl (Nat.le_of_ble_eq_true rfl) ?_
  intro κ X Y
  have X : mo_Cx κ lf ρf cX5_venueFor 4 RX5 (some .int) 1 := X
  obtain ⟨hI0, hI1, hI2, hI3, hI4, hI5, hI6, hI7, hIh, hIa, hIe, hIm, hIs, hIl, hIw, hIr, hIt, hIs2, hIs3, hIz⟩ := id hI
  have hn : ((mo_nk (M (m + 1)) : Nat) : Int) = M (m + 1) 7 := by unfold mo_nk; omega
  have loop : ∀ (z i : Nat) (x : Int), i + z = (M (m + 1) 6).toNat → x = i → (∀ j, j < i → mo_vp (M (m + 1)) w o q j = false) → mo_V κ 0 0 2 [some (.ref m), some (mo_iv o), some (mo_iv q), some (mo_iv x)] [] G M t := by
    intro z
    induction z with
    | zero =>
      intro i x hi hx hj
      subst hx
      refine mo_il3 (pc := 2) X dX5_venueFor_2 ?_
      refine mo_al0 (pc := 3) X dX5_venueFor_3 ?_
      refine mo_f_X5_7 (pc := 4) X dX5_venueFor_4 (mo_Md_o hm) (mo_Md_p0 hm) ?_
      refine mo_bipush (pc := 7) X dX5_venueFor_7 (by decide) ?_
      refine mo_iald (pc := 9) (j := 6) X dX5_venueFor_9 (mo_Md_r0 hm) (by omega) ?_ ?_ rfl ?_
      · omega
      · omega
      refine mo_ic_ge (pc := 10) (tgt := 52) X dX5_venueFor_10 (by decide) ?_ ?_ (fun c_10 => ?_) (fun c_10 => ?_)
      · omega
      · omega
      · skip
        refine mo_iconst (pc := 52) X dX5_venueFor_52 ?_
        refine mo_iret (pc := 53) X Y rfl dX5_venueFor_53 ⟨rfl, rfl, _, rfl, ?_⟩
        refine ⟨?_, rfl⟩
        unfold mo_vf
        rw [mo_ff_none]
        intro j hj2
        exact hj j (by omega)
      · exfalso
        omega
    | succ z ih =>
      intro i x hi hx hj
      subst hx
      have hfb := mo_fre_b (w := w) hI (j := 28 * i + q) (by omega)
      refine mo_il3 (pc := 2) X dX5_venueFor_2 ?_
      refine mo_al0 (pc := 3) X dX5_venueFor_3 ?_
      refine mo_f_X5_7 (pc := 4) X dX5_venueFor_4 (mo_Md_o hm) (mo_Md_p0 hm) ?_
      refine mo_bipush (pc := 7) X dX5_venueFor_7 (by decide) ?_
      refine mo_iald (pc := 9) (j := 6) X dX5_venueFor_9 (mo_Md_r0 hm) (by omega) ?_ ?_ rfl ?_
      · omega
      · omega
      refine mo_ic_ge (pc := 10) (tgt := 52) X dX5_venueFor_10 (by decide) ?_ ?_ (fun c_10 => ?_) (fun c_10 => ?_)
      · omega
      · omega
      · exfalso
        omega
      · skip
        refine mo_al0 (pc := 13) X dX5_venueFor_13 ?_
        refine mo_f_X5_7 (pc := 14) X dX5_venueFor_14 (mo_Md_o hm) (mo_Md_p0 hm) ?_
        refine mo_sipush (pc := 17) X dX5_venueFor_17 (by decide) ?_
        refine mo_il1 (pc := 20) X dX5_venueFor_20 ?_
        refine mo_iadd (pc := 21) X dX5_venueFor_21 ?_
        refine mo_iald (pc := 22) (j := 168 + o) X dX5_venueFor_22 (mo_Md_r0 hm) (by omega) ?_ ?_ (by omega) ?_
        · omega
        · omega
        refine mo_il3 (pc := 23) X dX5_venueFor_23 ?_
        refine mo_cSI (pc := 24) (As := [_, _]) X mo_k_X5_95 mo_y_yX5_has dX5_venueFor_24 (ct5_has) rfl (by decide) (by decide) (Nat.le_of_ble_eq_true rfl) ?_
        rintro r_24 _ ⟨h_24, rfl⟩
        refine mo_if_eq (pc := 27) (tgt := 46) X dX5_venueFor_27 (by decide) ?_ (fun c_27 => ?_) (fun c_27 => ?_)
        · omega
        · skip
          refine mo_ii3 (pc := 46) X dX5_venueFor_46 rfl (by decide) ?_
          refine mo_goto (pc := 49) (tgt := 2) X dX5_venueFor_49 (by decide) ?_
          refine ih (i + 1) _ (by omega) (by omega) (fun j hj2 => ?_)
          by_cases e : j = i
          · subst e
            unfold mo_vp
            first
              | simp [mo_b0 h_24 c_27]
              | (simp only [Bool.and_eq_false_iff, decide_eq_false_iff_not]; exact Or.inr (by omega))
          · exact hj j (by omega)
        · skip
          refine mo_al0 (pc := 30) X dX5_venueFor_30 ?_
          refine mo_f_X5_19 (pc := 31) X dX5_venueFor_31 (mo_Md_o hm) (mo_Md_p5 hm) ?_
          refine mo_bipush (pc := 34) X dX5_venueFor_34 (by decide) ?_
          refine mo_il3 (pc := 36) X dX5_venueFor_36 ?_
          refine mo_imul (pc := 37) X dX5_venueFor_37 ?_
          refine mo_il2 (pc := 38) X dX5_venueFor_38 ?_
          refine mo_iadd (pc := 39) X dX5_venueFor_39 ?_
          refine mo_iald (pc := 40) (j := 28 * i + q) X dX5_venueFor_40 (mo_Md_r5 hm) (by omega) ?_ ?_ (by omega) ?_
          · omega
          · omega
          rw [hL.1 _ (by omega)]
          refine mo_if_le (pc := 41) (tgt := 46) X dX5_venueFor_41 (by decide) ?_ (fun c_41 => ?_) (fun c_41 => ?_)
          · omega
          · skip
            refine mo_ii3 (pc := 46) X dX5_venueFor_46 rfl (by decide) ?_
            refine mo_goto (pc := 49) (tgt := 2) X dX5_venueFor_49 (by decide) ?_
            refine ih (i + 1) _ (by omega) (by omega) (fun j hj2 => ?_)
            by_cases e : j = i
            · subst e
              unfold mo_vp
              first
                | simp [mo_b0 h_24 c_27]
                | (simp only [Bool.and_eq_false_iff, decide_eq_false_iff_not]; exact Or.inr (by omega))
            · exact hj j (by omega)
          · skip
            refine mo_il3 (pc := 44) X dX5_venueFor_44 ?_
            refine mo_iret (pc := 45) X Y rfl dX5_venueFor_45 ⟨rfl, rfl, _, rfl, ?_⟩
            refine ⟨?_, rfl⟩
            unfold mo_vf
            rw [mo_ff_at (i := i) (by omega) (fun j hj2 => hj j hj2)]
            unfold mo_vp
            rw [mo_b1 h_24 c_27]
            simp only [Bool.true_and, decide_eq_true_eq]
            omega
  refine mo_iconst (pc := 0) X dX5_venueFor_0 ?_
  refine mo_is3 (pc := 1) X dX5_venueFor_1 rfl (by decide) ?_
  exact loop _ 0 0 (Nat.zero_add _) rfl (fun j hj => absurd hj (by omega))
set_option maxHeartbeats 4000000 in
set_option maxRecDepth 100000 in
theorem ct5_escortFor {lf : Launch} {ρf : mo_E} {G : mo_G} {M : mo_M} {t : Nat} {m : Nat} (hm : mo_Md G m) {B w : Int} {q : Nat} (hI : mo_Iv (M (m + 1)) B) (hB : B ≤ 1000000000) (hL : mo_Lk M m w) (hq : q < 28) : mo_Ct lf ρf yX5_escortFor cX5_escortFor 5 (some .int) 2 0 0 [.ref m, mo_iv q] G M t (mo_pi G t (fun x M' => x = mo_ef (M (m + 1)) w q (mo_en5 (M (m + 1))) ∧ M = M')) := by
  refine mo_ofW (ls0 := [some (.ref m), some (mo_iv q), none, none, none]) (by decide) rfl (Nat.le_of_ble_eq_true rfl) ?_
  intro κ X Y
  have X : mo_Cx κ lf ρf cX5_escortFor 5 RX5 (some .int) 2 := X
  obtain ⟨hI0, hI1, hI2, hI3, hI4, hI5, hI6, hI7, hIh, hIa, hIe, hIm, hIs, hIl, hIw, hIr, hIt, hIs2, hIs3, hIz⟩ := id hI
  have hn : ((mo_nk (M (m + 1)) : Nat) : Int) = M (m + 1) 7 := by unfold mo_nk; omega
  have hE : ((mo_en5 (M (m + 1)) : Nat) : Int) = M (m + 1) 5 := by unfold mo_en5; omega
  have loop : ∀ (z i : Nat) (b x : Int) (o4 : Option Value), i + z = mo_en5 (M (m + 1)) → x = i → b = mo_ef (M (m + 1)) w q i → mo_V κ 0 0 4 [some (.ref m), some (mo_iv q), some (mo_iv b), some (mo_iv x), o4] [] G M t := by
    intro z
    induction z with
    | zero =>
      intro i b x o4 hi hx hb
      subst hx
      refine mo_il3 (pc := 4) X dX5_escortFor_4 ?_
      refine mo_al0 (pc := 5) X dX5_escortFor_5 ?_
      refine mo_f_X5_7 (pc := 6) X dX5_escortFor_6 (mo_Md_o hm) (mo_Md_p0 hm) ?_
      refine mo_iconst (pc := 9) X dX5_escortFor_9 ?_
      refine mo_iald (pc := 10) (j := 5) X dX5_escortFor_10 (mo_Md_r0 hm) (by omega) ?_ ?_ rfl ?_
      · omega
      · omega
      refine mo_ic_ge (pc := 11) (tgt := 67) X dX5_escortFor_11 (by decide) ?_ ?_ (fun c_11 => ?_) (fun c_11 => ?_)
      · omega
      · omega
      · skip
        refine mo_il2 (pc := 67) X dX5_escortFor_67 ?_
        refine mo_iret (pc := 68) X Y rfl dX5_escortFor_68 ⟨rfl, rfl, _, rfl, ?_⟩
        refine ⟨?_, rfl⟩
        rw [hb, show mo_en5 (M (m + 1)) = i by omega]
      · exfalso
        omega
    | succ z ih =>
      intro i b x o4 hi hx hb
      subst hx
      have hbb := mo_ef_b (M (m + 1)) w q i
      rw [← hb] at hbb
      have hm1 := mo_mny_le (M (m + 1)) w (mo_nk (M (m + 1))) i
      have hm2 := mo_mny_le (M (m + 1)) w (mo_nk (M (m + 1))) b.toNat
      have hwi := mo_we_in (M (m + 1)) w i q
      refine mo_il3 (pc := 4) X dX5_escortFor_4 ?_
      refine mo_al0 (pc := 5) X dX5_escortFor_5 ?_
      refine mo_f_X5_7 (pc := 6) X dX5_escortFor_6 (mo_Md_o hm) (mo_Md_p0 hm) ?_
      refine mo_iconst (pc := 9) X dX5_escortFor_9 ?_
      refine mo_iald (pc := 10) (j := 5) X dX5_escortFor_10 (mo_Md_r0 hm) (by omega) ?_ ?_ rfl ?_
      · omega
      · omega
      refine mo_ic_ge (pc := 11) (tgt := 67) X dX5_escortFor_11 (by decide) ?_ ?_ (fun c_11 => ?_) (fun c_11 => ?_)
      · omega
      · omega
      · exfalso
        omega
      · skip
        refine mo_al0 (pc := 14) X dX5_escortFor_14 ?_
        refine mo_il3 (pc := 15) X dX5_escortFor_15 ?_
        refine mo_il1 (pc := 16) X dX5_escortFor_16 ?_
        refine mo_cVI (pc := 17) (As := [_, _]) X mo_k_X5_102 mo_y_yX5_whyEscort rfl dX5_escortFor_17 (ct5_whyEscort (w := w) (e := i) (q := q) hm hI hB hL (by omega)) (mo_Md_o hm) rfl (by decide) (by decide) (Nat.le_of_ble_eq_true rfl) ?_
        rintro r_17 _ ⟨h_17, rfl⟩
        refine mo_if_ne (pc := 20) (tgt := 27) X dX5_escortFor_20 (by decide) ?_ (fun c_20 => ?_) (fun c_20 => ?_)
        · omega
        · skip
          refine mo_iconst (pc := 27) X dX5_escortFor_27 ?_
          refine mo_is4 (pc := 28) X dX5_escortFor_28 rfl (by decide) ?_
          refine mo_il4 (pc := 30) X dX5_escortFor_30 ?_
          refine mo_if_eq (pc := 32) (tgt := 59) X dX5_escortFor_32 (by decide) ?_ (fun c_32 => ?_) (fun c_32 => ?_)
          · omega
          · skip
            refine mo_il2 (pc := 59) X dX5_escortFor_59 ?_
            refine mo_is2 (pc := 60) X dX5_escortFor_60 rfl (by decide) ?_
            refine mo_ii3 (pc := 61) X dX5_escortFor_61 rfl (by decide) ?_
            refine mo_goto (pc := 64) (tgt := 4) X dX5_escortFor_64 (by decide) ?_
            refine ih (i + 1) _ _ _ (by omega) (by omega) ?_
            rw [mo_ef, ← hb]
            first
              | exact (if_pos ⟨by omega, by omega⟩).symm
              | exact (if_neg (by omega)).symm
          · exfalso; omega
        · skip
          refine mo_iconst (pc := 23) X dX5_escortFor_23 ?_
          refine mo_goto (pc := 24) (tgt := 28) X dX5_escortFor_24 (by decide) ?_
          refine mo_is4 (pc := 28) X dX5_escortFor_28 rfl (by decide) ?_
          refine mo_il4 (pc := 30) X dX5_escortFor_30 ?_
          refine mo_if_eq (pc := 32) (tgt := 59) X dX5_escortFor_32 (by decide) ?_ (fun c_32 => ?_) (fun c_32 => ?_)
          · omega
          · exfalso; omega
          · skip
            refine mo_il2 (pc := 35) X dX5_escortFor_35 ?_
            refine mo_iconst (pc := 36) X dX5_escortFor_36 ?_
            refine mo_ic_eq (pc := 37) (tgt := 55) X dX5_escortFor_37 (by decide) ?_ ?_ (fun c_37 => ?_) (fun c_37 => ?_)
            · omega
            · omega
            · skip
              refine mo_il3 (pc := 55) X dX5_escortFor_55 ?_
              refine mo_goto (pc := 56) (tgt := 60) X dX5_escortFor_56 (by decide) ?_
              refine mo_is2 (pc := 60) X dX5_escortFor_60 rfl (by decide) ?_
              refine mo_ii3 (pc := 61) X dX5_escortFor_61 rfl (by decide) ?_
              refine mo_goto (pc := 64) (tgt := 4) X dX5_escortFor_64 (by decide) ?_
              refine ih (i + 1) _ _ _ (by omega) (by omega) ?_
              rw [mo_ef, ← hb]
              first
                | exact (if_pos ⟨by omega, by omega⟩).symm
                | exact (if_neg (by omega)).symm
            · skip
              refine mo_al0 (pc := 40) X dX5_escortFor_40 ?_
              refine mo_f_X5_25 (pc := 41) X dX5_escortFor_41 (mo_Md_o hm) (mo_Md_p7 hm) ?_
              refine mo_il3 (pc := 44) X dX5_escortFor_44 ?_
              refine mo_iald (pc := 45) (j := i) X dX5_escortFor_45 (mo_Md_r7 hm) (by omega) ?_ ?_ (by omega) ?_
              · omega
              · omega
              rw [hL.2.2.1 i (by omega)]
              refine mo_al0 (pc := 46) X dX5_escortFor_46 ?_
              refine mo_f_X5_25 (pc := 47) X dX5_escortFor_47 (mo_Md_o hm) (mo_Md_p7 hm) ?_
              refine mo_il2 (pc := 50) X dX5_escortFor_50 ?_
              refine mo_iald (pc := 51) (j := b.toNat) X dX5_escortFor_51 (mo_Md_r7 hm) (by omega) ?_ ?_ (by omega) ?_
              · omega
              · omega
              rw [hL.2.2.1 b.toNat (by omega)]
              refine mo_ic_ge (pc := 52) (tgt := 59) X dX5_escortFor_52 (by decide) ?_ ?_ (fun c_52 => ?_) (fun c_52 => ?_)
              · omega
              · omega
              · skip
                refine mo_il2 (pc := 59) X dX5_escortFor_59 ?_
                refine mo_is2 (pc := 60) X dX5_escortFor_60 rfl (by decide) ?_
                refine mo_ii3 (pc := 61) X dX5_escortFor_61 rfl (by decide) ?_
                refine mo_goto (pc := 64) (tgt := 4) X dX5_escortFor_64 (by decide) ?_
                refine ih (i + 1) _ _ _ (by omega) (by omega) ?_
                rw [mo_ef, ← hb]
                first
                  | exact (if_pos ⟨by omega, by omega⟩).symm
                  | exact (if_neg (by omega)).symm
              · skip
                refine mo_il3 (pc := 55) X dX5_escortFor_55 ?_
                refine mo_goto (pc := 56) (tgt := 60) X dX5_escortFor_56 (by decide) ?_
                refine mo_is2 (pc := 60) X dX5_escortFor_60 rfl (by decide) ?_
                refine mo_ii3 (pc := 61) X dX5_escortFor_61 rfl (by decide) ?_
                refine mo_goto (pc := 64) (tgt := 4) X dX5_escortFor_64 (by decide) ?_
                refine ih (i + 1) _ _ _ (by omega) (by omega) ?_
                rw [mo_ef, ← hb]
                first
                  | exact (if_pos ⟨by omega, by omega⟩).symm
                  | exact (if_neg (by omega)).symm
  refine mo_iconst (pc := 0) X dX5_escortFor_0 ?_
  refine mo_is2 (pc := 1) X dX5_escortFor_1 rfl (by decide) ?_
  refine mo_iconst (pc := 2) X dX5_escortFor_2 ?_
  refine mo_is3 (pc := 3) X dX5_escortFor_3 rfl (by decide) ?_
  exact loop _ 0 (-1) 0 none (Nat.zero_add _) rfl rfl
set_option maxHeartbeats 4000000 in
set_option maxRecDepth 100000 in
theorem ct5_slotFor {lf : Launch} {ρf : mo_E} {G : mo_G} {M : mo_M} {t : Nat} {m : Nat} (hm : mo_Md G m) {B w : Int} {o : Nat} (hI : mo_Iv (M (m + 1)) B) (hB : B ≤ 1000000000) (hL : mo_Lk M m w) (ho : o < 8) (hw : mo_In w) : mo_Ct lf ρf yX5_slotFor cX5_slotFor 4 (some .int) 3 0 0 [.ref m, mo_iv o, mo_iv w] G M t (mo_pi G t (fun x M' => x = mo_sf (M (m + 1)) w o ∧ M = M')) := by
  refine mo_ofW (ls0 := [some (.ref m), some (mo_iv o), some (mo_iv w), none]) (by decide) rfl (Nat.le_of_ble_eq_true rfl) ?_
  intro κ X Y
  have X : mo_Cx κ lf ρf cX5_slotFor 4 RX5 (some .int) 3 := X
  obtain ⟨hI0, hI1, hI2, hI3, hI4, hI5, hI6, hI7, hIh, hIa, hIe, hIm, hIs, hIl, hIw, hIr, hIt, hIs2, hIs3, hIz⟩ := id hI
  have hn : ((mo_nk (M (m + 1)) : Nat) : Int) = M (m + 1) 7 := by unfold mo_nk; omega
  have loop : ∀ (z i : Nat) (x : Int), ¬ (w < M (m + 1) 0 ∨ M (m + 1) 7 = 60) → i + z = 28 → x = i → (∀ j, j < i → mo_sp (M (m + 1)) w o j = false) → mo_V κ 0 0 26 [some (.ref m), some (mo_iv o), some (mo_iv w), some (mo_iv x)] [] G M t := by
    intro z
    induction z with
    | zero =>
      intro i x hc hi hx hj
      subst hx
      refine mo_il3 (pc := 26) X dX5_slotFor_26 ?_
      refine mo_bipush (pc := 27) X dX5_slotFor_27 (by decide) ?_
      refine mo_ic_ge (pc := 29) (tgt := 74) X dX5_slotFor_29 (by decide) ?_ ?_ (fun c_29 => ?_) (fun c_29 => ?_)
      · omega
      · omega
      · skip
        refine mo_iconst (pc := 74) X dX5_slotFor_74 ?_
        refine mo_iret (pc := 75) X Y rfl dX5_slotFor_75 ⟨rfl, rfl, _, rfl, ?_⟩
        refine ⟨?_, rfl⟩
        unfold mo_sf
        rw [if_neg hc, mo_ff_none]
        intro j hj2
        exact hj j (by omega)
      · exfalso
        omega
    | succ z ih =>
      intro i x hc hi hx hj
      subst hx
      have hvb := mo_ff_b (mo_vp (M (m + 1)) w o i) (M (m + 1) 6).toNat
      rw [show mo_ff (mo_vp (M (m + 1)) w o i) (M (m + 1) 6).toNat = mo_vf (M (m + 1)) w o i from rfl] at hvb
      have heb := mo_ef_b (M (m + 1)) w i (mo_en5 (M (m + 1)))
      have hE : ((mo_en5 (M (m + 1)) : Nat) : Int) = M (m + 1) 5 := by unfold mo_en5; omega
      refine mo_il3 (pc := 26) X dX5_slotFor_26 ?_
      refine mo_bipush (pc := 27) X dX5_slotFor_27 (by decide) ?_
      refine mo_ic_ge (pc := 29) (tgt := 74) X dX5_slotFor_29 (by decide) ?_ ?_ (fun c_29 => ?_) (fun c_29 => ?_)
      · omega
      · omega
      · exfalso
        omega
      · skip
        refine mo_al0 (pc := 32) X dX5_slotFor_32 ?_
        refine mo_f_X5_28 (pc := 33) X dX5_slotFor_33 (mo_Md_o hm) (mo_Md_p8 hm) ?_
        refine mo_il1 (pc := 36) X dX5_slotFor_36 ?_
        refine mo_iald (pc := 37) (j := o) X dX5_slotFor_37 (mo_Md_r8 hm) (by omega) ?_ ?_ (by omega) ?_
        · omega
        · omega
        rw [hL.2.2.2 o ho]
        refine mo_il3 (pc := 38) X dX5_slotFor_38 ?_
        refine mo_iconst (pc := 39) X dX5_slotFor_39 ?_
        refine mo_idiv (pc := 40) X dX5_slotFor_40 ?_ ?_ ?_
        · omega
        · omega
        rw [show ((i : Int) / 4) = ((i / 4 : Nat) : Int) by omega]
        refine mo_cSI (pc := 41) (As := [_, _]) X mo_k_X5_95 mo_y_yX5_has dX5_slotFor_41 (ct5_has) rfl (by decide) (by decide) (Nat.le_of_ble_eq_true rfl) ?_
        rintro r_41 _ ⟨h_41, rfl⟩
        refine mo_if_ne (pc := 44) (tgt := 68) X dX5_slotFor_44 (by decide) ?_ (fun c_44 => ?_) (fun c_44 => ?_)
        · omega
        · skip
          refine mo_ii3 (pc := 68) X dX5_slotFor_68 rfl (by decide) ?_
          refine mo_goto (pc := 71) (tgt := 26) X dX5_slotFor_71 (by decide) ?_
          refine ih (i + 1) _ hc (by omega) (by omega) (fun j hj2 => ?_)
          by_cases e : j = i
          · subst e
            unfold mo_sp
            first
              | (rw [mo_b1 h_41 c_44]; rfl)
              | (rw [← h_50, c_54]; simp)
              | (rw [← h_59, c_63]; simp)
          · exact hj j (by omega)
        · skip
          refine mo_al0 (pc := 47) X dX5_slotFor_47 ?_
          refine mo_il1 (pc := 48) X dX5_slotFor_48 ?_
          refine mo_il3 (pc := 49) X dX5_slotFor_49 ?_
          refine mo_cVI (pc := 50) (As := [_, _]) X mo_k_X5_129 mo_y_yX5_venueFor rfl dX5_slotFor_50 (ct5_venueFor (w := w) (o := o) (q := i) hm hI hB hL ho (by omega)) (mo_Md_o hm) rfl (by decide) (by decide) (Nat.le_of_ble_eq_true rfl) ?_
          rintro r_50 _ ⟨h_50, rfl⟩
          refine mo_iconst (pc := 53) X dX5_slotFor_53 ?_
          refine mo_ic_eq (pc := 54) (tgt := 68) X dX5_slotFor_54 (by decide) ?_ ?_ (fun c_54 => ?_) (fun c_54 => ?_)
          · omega
          · omega
          · skip
            refine mo_ii3 (pc := 68) X dX5_slotFor_68 rfl (by decide) ?_
            refine mo_goto (pc := 71) (tgt := 26) X dX5_slotFor_71 (by decide) ?_
            refine ih (i + 1) _ hc (by omega) (by omega) (fun j hj2 => ?_)
            by_cases e : j = i
            · subst e
              unfold mo_sp
              first
                | (rw [mo_b1 h_41 c_44]; rfl)
                | (rw [← h_50, c_54]; simp)
                | (rw [← h_59, c_63]; simp)
            · exact hj j (by omega)
          · skip
            refine mo_al0 (pc := 57) X dX5_slotFor_57 ?_
            refine mo_il3 (pc := 58) X dX5_slotFor_58 ?_
            refine mo_cVI (pc := 59) (As := [_]) X mo_k_X5_132 mo_y_yX5_escortFor rfl dX5_slotFor_59 (ct5_escortFor (w := w) (q := i) hm hI hB hL (by omega)) (mo_Md_o hm) rfl (by decide) (by decide) (Nat.le_of_ble_eq_true rfl) ?_
            rintro r_59 _ ⟨h_59, rfl⟩
            refine mo_iconst (pc := 62) X dX5_slotFor_62 ?_
            refine mo_ic_eq (pc := 63) (tgt := 68) X dX5_slotFor_63 (by decide) ?_ ?_ (fun c_63 => ?_) (fun c_63 => ?_)
            · omega
            · omega
            · skip
              refine mo_ii3 (pc := 68) X dX5_slotFor_68 rfl (by decide) ?_
              refine mo_goto (pc := 71) (tgt := 26) X dX5_slotFor_71 (by decide) ?_
              refine ih (i + 1) _ hc (by omega) (by omega) (fun j hj2 => ?_)
              by_cases e : j = i
              · subst e
                unfold mo_sp
                first
                  | (rw [mo_b1 h_41 c_44]; rfl)
                  | (rw [← h_50, c_54]; simp)
                  | (rw [← h_59, c_63]; simp)
              · exact hj j (by omega)
            · skip
              refine mo_il3 (pc := 66) X dX5_slotFor_66 ?_
              refine mo_iret (pc := 67) X Y rfl dX5_slotFor_67 ⟨rfl, rfl, _, rfl, ?_⟩
              refine ⟨?_, rfl⟩
              unfold mo_sf
              rw [if_neg hc, mo_ff_at (i := i) (by omega) (fun j hj2 => hj j hj2)]
              unfold mo_sp
              have k1 : mo_hb (mo_dys (M (m + 1)) w (mo_nk (M (m + 1))) o) ((i / 4 : Nat) : Int) = false := by simpa using mo_b0 h_41 c_44
              rw [k1, ← h_50, ← h_59]
              simp only [Bool.not_false, Bool.true_and, Bool.and_eq_true, decide_eq_true_eq]
              exact ⟨c_54, c_63⟩
  refine mo_il2 (pc := 0) X dX5_slotFor_0 ?_
  refine mo_al0 (pc := 1) X dX5_slotFor_1 ?_
  refine mo_f_X5_7 (pc := 2) X dX5_slotFor_2 (mo_Md_o hm) (mo_Md_p0 hm) ?_
  refine mo_iconst (pc := 5) X dX5_slotFor_5 ?_
  refine mo_iald (pc := 6) (j := 0) X dX5_slotFor_6 (mo_Md_r0 hm) (by omega) ?_ ?_ rfl ?_
  · omega
  · omega
  refine mo_ic_lt (pc := 7) (tgt := 22) X dX5_slotFor_7 (by decide) ?_ ?_ (fun c_7 => ?_) (fun c_7 => ?_)
  · omega
  · omega
  · skip
    refine mo_iconst (pc := 22) X dX5_slotFor_22 ?_
    refine mo_iret (pc := 23) X Y rfl dX5_slotFor_23 ⟨rfl, rfl, _, rfl, ?_⟩
    refine ⟨?_, rfl⟩
    unfold mo_sf
    rw [if_pos (by omega)]
  · skip
    refine mo_al0 (pc := 10) X dX5_slotFor_10 ?_
    refine mo_f_X5_7 (pc := 11) X dX5_slotFor_11 (mo_Md_o hm) (mo_Md_p0 hm) ?_
    refine mo_bipush (pc := 14) X dX5_slotFor_14 (by decide) ?_
    refine mo_iald (pc := 16) (j := 7) X dX5_slotFor_16 (mo_Md_r0 hm) (by omega) ?_ ?_ rfl ?_
    · omega
    · omega
    refine mo_bipush (pc := 17) X dX5_slotFor_17 (by decide) ?_
    refine mo_ic_ne (pc := 19) (tgt := 24) X dX5_slotFor_19 (by decide) ?_ ?_ (fun c_19 => ?_) (fun c_19 => ?_)
    · omega
    · omega
    · skip
      refine mo_iconst (pc := 24) X dX5_slotFor_24 ?_
      refine mo_is3 (pc := 25) X dX5_slotFor_25 rfl (by decide) ?_
      exact loop 28 0 0 (by omega) (by omega) rfl (fun j hj => absurd hj (by omega))
    · skip
      refine mo_iconst (pc := 22) X dX5_slotFor_22 ?_
      refine mo_iret (pc := 23) X Y rfl dX5_slotFor_23 ⟨rfl, rfl, _, rfl, ?_⟩
      refine ⟨?_, rfl⟩
      unfold mo_sf
      rw [if_pos (by omega)]
set_option maxHeartbeats 4000000 in
set_option maxRecDepth 100000 in
theorem ct5_reason {lf : Launch} {ρf : mo_E} {G : mo_G} {M : mo_M} {t : Nat} {m : Nat} (hm : mo_Md G m) {B : Int} {o w q e v : Nat} (hI : mo_Iv (M (m + 1)) B) (hB : B ≤ 1000000000) (ho : o < 8) (hw : w < 20) (hq : q < 28) (he : (e : Int) < M (m + 1) 5) (hv : v < 5) : mo_Ct lf ρf yX5_reason cX5_reason 7 (some .int) 3 0 0 [.ref m, mo_iv o, mo_iv w, mo_iv q, mo_iv e, mo_iv v] G M t (mo_pi G t (fun x M' => ∃ f4 f5 f6 f7, M' = mo_sc M m f4 f5 f6 f7 ∧ x = mo_rs (M (m + 1)) o w q e v)) := by
  refine mo_ofW (ls0 := [some (.ref m), some (mo_iv o), some (mo_iv w), some (mo_iv q), some (mo_iv e), some (mo_iv v), none]) (by decide) rfl (Nat.le_of_ble_eq_true rfl) ?_
  intro κ X Y
  have X : mo_Cx κ lf ρf cX5_reason 7 RX5 (some .int) 3 := X
  obtain ⟨hI0, hI1, hI2, hI3, hI4, hI5, hI6, hI7, hIh, hIa, hIe, hIm, hIs, hIl, hIw, hIr, hIt, hIs2, hIs3, hIz⟩ := id hI
  have hn : ((mo_nk (M (m + 1)) : Nat) : Int) = M (m + 1) 7 := by unfold mo_nk; omega
  have hfb := mo_fre_b (w := (w : Int)) hI (j := 28 * v + q) (by omega)
  have hwi := mo_we_in (M (m + 1)) w e q
  refine mo_il2 (pc := 0) X dX5_reason_0 ?_
  refine mo_al0 (pc := 1) X dX5_reason_1 ?_
  refine mo_f_X5_7 (pc := 2) X dX5_reason_2 (mo_Md_o hm) (mo_Md_p0 hm) ?_
  refine mo_iconst (pc := 5) X dX5_reason_5 ?_
  refine mo_iald (pc := 6) (j := 0) X dX5_reason_6 (mo_Md_r0 hm) (by omega) ?_ ?_ rfl ?_
  · omega
  · omega
  refine mo_ic_ge (pc := 7) (tgt := 12) X dX5_reason_7 (by decide) ?_ ?_ (fun c_7 => ?_) (fun c_7 => ?_)
  · omega
  · omega
  · skip
    refine mo_al0 (pc := 12) X dX5_reason_12 ?_
    refine mo_f_X5_7 (pc := 13) X dX5_reason_13 (mo_Md_o hm) (mo_Md_p0 hm) ?_
    refine mo_sipush (pc := 16) X dX5_reason_16 (by decide) ?_
    refine mo_il1 (pc := 19) X dX5_reason_19 ?_
    refine mo_iadd (pc := 20) X dX5_reason_20 ?_
    refine mo_iald (pc := 21) (j := 168 + o) X dX5_reason_21 (mo_Md_r0 hm) (by omega) ?_ ?_ (by omega) ?_
    · omega
    · omega
    refine mo_il5 (pc := 22) X dX5_reason_22 ?_
    refine mo_cSI (pc := 24) (As := [_, _]) X mo_k_X5_95 mo_y_yX5_has dX5_reason_24 (ct5_has) rfl (by decide) (by decide) (Nat.le_of_ble_eq_true rfl) ?_
    rintro r_24 _ ⟨h_24, rfl⟩
    refine mo_if_ne (pc := 27) (tgt := 32) X dX5_reason_27 (by decide) ?_ (fun c_27 => ?_) (fun c_27 => ?_)
    · omega
    · skip
      refine mo_al0 (pc := 32) X dX5_reason_32 ?_
      refine mo_il2 (pc := 33) X dX5_reason_33 ?_
      refine mo_cVV (pc := 34) (As := [_]) X mo_k_X5_98 mo_y_yX5_look rfl dX5_reason_34 (ct5_look (w := (w : Int)) hm hI hB (by omega)) (mo_Md_o hm) rfl (by decide) (by decide) (Nat.le_of_ble_eq_true rfl) ?_
      rintro Mz ⟨f4, f5, f6, f7, hMz, hL⟩
      have e1 : Mz (m + 1) = M (m + 1) := by rw [hMz, mo_sc_r1]
      refine mo_al0 (pc := 37) X dX5_reason_37 ?_
      refine mo_f_X5_28 (pc := 38) X dX5_reason_38 (mo_Md_o hm) (mo_Md_p8 hm) ?_
      refine mo_il1 (pc := 41) X dX5_reason_41 ?_
      refine mo_iald (pc := 42) (j := o) X dX5_reason_42 (mo_Md_r8 hm) (by omega) ?_ ?_ (by omega) ?_
      · omega
      · omega
      rw [hL.2.2.2 o ho, e1]
      refine mo_il3 (pc := 43) X dX5_reason_43 ?_
      refine mo_iconst (pc := 44) X dX5_reason_44 ?_
      refine mo_idiv (pc := 45) X dX5_reason_45 ?_ ?_ ?_
      · omega
      · omega
      rw [show ((q : Int) / 4) = ((q / 4 : Nat) : Int) by omega]
      refine mo_cSI (pc := 46) (As := [_, _]) X mo_k_X5_95 mo_y_yX5_has dX5_reason_46 (ct5_has) rfl (by decide) (by decide) (Nat.le_of_ble_eq_true rfl) ?_
      rintro r_46 _ ⟨h_46, rfl⟩
      refine mo_if_eq (pc := 49) (tgt := 54) X dX5_reason_49 (by decide) ?_ (fun c_49 => ?_) (fun c_49 => ?_)
      · omega
      · skip
        refine mo_al0 (pc := 54) X dX5_reason_54 ?_
        refine mo_il4 (pc := 55) X dX5_reason_55 ?_
        refine mo_il3 (pc := 57) X dX5_reason_57 ?_
        refine mo_cVI (pc := 58) (As := [_, _]) X mo_k_X5_102 mo_y_yX5_whyEscort rfl dX5_reason_58 (ct5_whyEscort (w := (w : Int)) (e := e) (q := q) hm (by rw [e1]; exact hI) hB hL (by rw [e1]; exact he)) (mo_Md_o hm) rfl (by decide) (by decide) (Nat.le_of_ble_eq_true rfl) ?_
        rintro r_58 _ ⟨h_58, rfl⟩
        rw [e1] at h_58
        refine mo_is6 (pc := 61) X dX5_reason_61 rfl (by decide) ?_
        refine mo_il6 (pc := 63) X dX5_reason_63 ?_
        refine mo_if_eq (pc := 65) (tgt := 73) X dX5_reason_65 (by decide) ?_ (fun c_65 => ?_) (fun c_65 => ?_)
        · omega
        · skip
          refine mo_al0 (pc := 73) X dX5_reason_73 ?_
          refine mo_f_X5_19 (pc := 74) X dX5_reason_74 (mo_Md_o hm) (mo_Md_p5 hm) ?_
          refine mo_bipush (pc := 77) X dX5_reason_77 (by decide) ?_
          refine mo_il5 (pc := 79) X dX5_reason_79 ?_
          refine mo_imul (pc := 81) X dX5_reason_81 ?_
          refine mo_il3 (pc := 82) X dX5_reason_82 ?_
          refine mo_iadd (pc := 83) X dX5_reason_83 ?_
          refine mo_iald (pc := 84) (j := 28 * v + q) X dX5_reason_84 (mo_Md_r5 hm) (by omega) ?_ ?_ (by omega) ?_
          · omega
          · omega
          rw [hL.1 _ (by omega), e1]
          refine mo_iconst (pc := 85) X dX5_reason_85 ?_
          refine mo_ic_ge (pc := 86) (tgt := 94) X dX5_reason_86 (by decide) ?_ ?_ (fun c_86 => ?_) (fun c_86 => ?_)
          · omega
          · omega
          · skip
            refine mo_al0 (pc := 94) X dX5_reason_94 ?_
            refine mo_f_X5_7 (pc := 95) X dX5_reason_95 (mo_Md_o hm) (mo_Md_p0 hm) ?_
            refine mo_bipush (pc := 98) X dX5_reason_98 (by decide) ?_
            refine mo_iald (pc := 100) (j := 7) X dX5_reason_100 (mo_Md_r0 hm) (by omega) ?_ ?_ rfl ?_
            · omega
            · omega
            rw [e1]
            refine mo_bipush (pc := 101) X dX5_reason_101 (by decide) ?_
            refine mo_ic_ne (pc := 103) (tgt := 111) X dX5_reason_103 (by decide) ?_ ?_ (fun c_103 => ?_) (fun c_103 => ?_)
            · omega
            · omega
            · skip
              refine mo_iconst (pc := 111) X dX5_reason_111 ?_
              refine mo_iret (pc := 112) X Y rfl dX5_reason_112 ⟨rfl, rfl, _, rfl, ?_⟩
              refine ⟨_, _, _, _, hMz, ?_⟩
              unfold mo_rs
              rw [if_neg (by omega), if_neg (by simpa using mo_b1 h_24 c_27), if_neg (mo_b0 h_46 c_49)]
              first
                | rw [if_pos (by omega)]; exact h_58
                | rw [if_neg (by omega), if_pos (by omega)]
                | rw [if_neg (by omega), if_neg (by omega), if_pos (by omega)]
                | rw [if_neg (by omega), if_neg (by omega), if_neg (by omega)]
            · skip
              refine mo_bipush (pc := 106) X dX5_reason_106 (by decide) ?_
              refine mo_goto (pc := 108) (tgt := 112) X dX5_reason_108 (by decide) ?_
              refine mo_iret (pc := 112) X Y rfl dX5_reason_112 ⟨rfl, rfl, _, rfl, ?_⟩
              refine ⟨_, _, _, _, hMz, ?_⟩
              unfold mo_rs
              rw [if_neg (by omega), if_neg (by simpa using mo_b1 h_24 c_27), if_neg (mo_b0 h_46 c_49)]
              first
                | rw [if_pos (by omega)]; exact h_58
                | rw [if_neg (by omega), if_pos (by omega)]
                | rw [if_neg (by omega), if_neg (by omega), if_pos (by omega)]
                | rw [if_neg (by omega), if_neg (by omega), if_neg (by omega)]
          · skip
            refine mo_bipush (pc := 89) X dX5_reason_89 (by decide) ?_
            refine mo_goto (pc := 91) (tgt := 112) X dX5_reason_91 (by decide) ?_
            refine mo_iret (pc := 112) X Y rfl dX5_reason_112 ⟨rfl, rfl, _, rfl, ?_⟩
            refine ⟨_, _, _, _, hMz, ?_⟩
            unfold mo_rs
            rw [if_neg (by omega), if_neg (by simpa using mo_b1 h_24 c_27), if_neg (mo_b0 h_46 c_49)]
            first
              | rw [if_pos (by omega)]; exact h_58
              | rw [if_neg (by omega), if_pos (by omega)]
              | rw [if_neg (by omega), if_neg (by omega), if_pos (by omega)]
              | rw [if_neg (by omega), if_neg (by omega), if_neg (by omega)]
        · skip
          refine mo_il6 (pc := 68) X dX5_reason_68 ?_
          refine mo_goto (pc := 70) (tgt := 112) X dX5_reason_70 (by decide) ?_
          refine mo_iret (pc := 112) X Y rfl dX5_reason_112 ⟨rfl, rfl, _, rfl, ?_⟩
          refine ⟨_, _, _, _, hMz, ?_⟩
          unfold mo_rs
          rw [if_neg (by omega), if_neg (by simpa using mo_b1 h_24 c_27), if_neg (mo_b0 h_46 c_49)]
          first
            | rw [if_pos (by omega)]; exact h_58
            | rw [if_neg (by omega), if_pos (by omega)]
            | rw [if_neg (by omega), if_neg (by omega), if_pos (by omega)]
            | rw [if_neg (by omega), if_neg (by omega), if_neg (by omega)]
      · skip
        refine mo_iconst (pc := 52) X dX5_reason_52 ?_
        refine mo_iret (pc := 53) X Y rfl dX5_reason_53 ⟨rfl, rfl, _, rfl, ?_⟩
        refine ⟨_, _, _, _, hMz, ?_⟩
        unfold mo_rs
        rw [if_neg (by omega), if_neg (by simpa using mo_b1 h_24 c_27), if_pos (mo_b1 h_46 c_49)]
    · skip
      refine mo_iconst (pc := 30) X dX5_reason_30 ?_
      refine mo_iret (pc := 31) X Y rfl dX5_reason_31 ⟨rfl, rfl, _, rfl, ?_⟩
      refine ⟨_, _, _, _, (mo_sc_id M m).symm, ?_⟩
      unfold mo_rs
      rw [if_neg (by omega), if_pos (by simpa using mo_b0 h_24 c_27)]
  · skip
    refine mo_iconst (pc := 10) X dX5_reason_10 ?_
    refine mo_iret (pc := 11) X Y rfl dX5_reason_11 ⟨rfl, rfl, _, rfl, ?_⟩
    refine ⟨_, _, _, _, (mo_sc_id M m).symm, ?_⟩
    unfold mo_rs
    rw [if_pos (by omega)]
set_option maxHeartbeats 4000000 in
set_option maxRecDepth 100000 in
theorem ct5_lays {lf : Launch} {ρf : mo_E} {G : mo_G} {M : mo_M} {t : Nat} {m : Nat} (hm : mo_Md G m) {B o w q e v : Int} (hI : mo_Iv (M (m + 1)) B) (hB : B ≤ 1000000000) (hk : M (m + 1) 7 < 60) : mo_Ct lf ρf yX5_lays cX5_lays 7 none 0 0 0 [.ref m, mo_iv o, mo_iv w, mo_iv q, mo_iv e, mo_iv v] G M t (mo_pv G t (fun M' => M' = mo_ur M (m + 1) (mo_ly (M (m + 1)) o w q e v))) := by
  refine mo_ofW (ls0 := [some (.ref m), some (mo_iv o), some (mo_iv w), some (mo_iv q), some (mo_iv e), some (mo_iv v), none]) (by decide) rfl (Nat.le_of_ble_eq_true rfl) ?_
  intro κ X Y
  have X : mo_Cx κ lf ρf cX5_lays 7 RX5 none 0 := X
  obtain ⟨hI0, hI1, hI2, hI3, hI4, hI5, hI6, hI7, hIh, hIa, hIe, hIm, hIs, hIl, hIw, hIr, hIt, hIs2, hIs3, hIz⟩ := id hI
  have hn : ((mo_nk (M (m + 1)) : Nat) : Int) = M (m + 1) 7 := by unfold mo_nk; omega
  refine mo_sipush (pc := 0) X dX5_lays_0 (by decide) ?_
  refine mo_bipush (pc := 3) X dX5_lays_3 (by decide) ?_
  refine mo_al0 (pc := 5) X dX5_lays_5 ?_
  refine mo_f_X5_7 (pc := 6) X dX5_lays_6 (mo_Md_o hm) (mo_Md_p0 hm) ?_
  refine mo_bipush (pc := 9) X dX5_lays_9 (by decide) ?_
  refine mo_iald (pc := 11) (j := 7) X dX5_lays_11 (mo_Md_r0 hm) (by omega) ?_ ?_ rfl ?_
  · omega
  · omega
  refine mo_imul (pc := 12) X dX5_lays_12 ?_
  refine mo_iadd (pc := 13) X dX5_lays_13 ?_
  refine mo_is6 (pc := 14) X dX5_lays_14 rfl (by decide) ?_
  refine mo_al0 (pc := 16) X dX5_lays_16 ?_
  refine mo_f_X5_7 (pc := 17) X dX5_lays_17 (mo_Md_o hm) (mo_Md_p0 hm) ?_
  refine mo_il6 (pc := 20) X dX5_lays_20 ?_
  refine mo_al0 (pc := 22) X dX5_lays_22 ?_
  refine mo_f_X5_7 (pc := 23) X dX5_lays_23 (mo_Md_o hm) (mo_Md_p0 hm) ?_
  refine mo_iconst (pc := 26) X dX5_lays_26 ?_
  refine mo_iald (pc := 27) (j := 1) X dX5_lays_27 (mo_Md_r0 hm) (by omega) ?_ ?_ rfl ?_
  · omega
  · omega
  refine mo_iast (pc := 28) (j := 215 + 7 * mo_nk (M (m + 1))) X dX5_lays_28 (mo_Md_r0 hm) (by omega) ?_ ?_ (by omega) ?_
  · omega
  · omega
  try simp only [mo_ur_ur, mo_ur_s]
  refine mo_al0 (pc := 29) X dX5_lays_29 ?_
  refine mo_f_X5_7 (pc := 30) X dX5_lays_30 (mo_Md_o hm) (mo_Md_p0 hm) ?_
  refine mo_il6 (pc := 33) X dX5_lays_33 ?_
  refine mo_iconst (pc := 35) X dX5_lays_35 ?_
  refine mo_iadd (pc := 36) X dX5_lays_36 ?_
  refine mo_il1 (pc := 37) X dX5_lays_37 ?_
  refine mo_iast (pc := 38) (j := 215 + 7 * mo_nk (M (m + 1)) + 1) X dX5_lays_38 (mo_Md_r0 hm) (by omega) ?_ ?_ (by omega) ?_
  · omega
  · omega
  try simp only [mo_ur_ur, mo_ur_s]
  refine mo_al0 (pc := 39) X dX5_lays_39 ?_
  refine mo_f_X5_7 (pc := 40) X dX5_lays_40 (mo_Md_o hm) (mo_Md_p0 hm) ?_
  refine mo_il6 (pc := 43) X dX5_lays_43 ?_
  refine mo_iconst (pc := 45) X dX5_lays_45 ?_
  refine mo_iadd (pc := 46) X dX5_lays_46 ?_
  refine mo_il2 (pc := 47) X dX5_lays_47 ?_
  refine mo_iast (pc := 48) (j := 215 + 7 * mo_nk (M (m + 1)) + 2) X dX5_lays_48 (mo_Md_r0 hm) (by omega) ?_ ?_ (by omega) ?_
  · omega
  · omega
  try simp only [mo_ur_ur, mo_ur_s]
  refine mo_al0 (pc := 49) X dX5_lays_49 ?_
  refine mo_f_X5_7 (pc := 50) X dX5_lays_50 (mo_Md_o hm) (mo_Md_p0 hm) ?_
  refine mo_il6 (pc := 53) X dX5_lays_53 ?_
  refine mo_iconst (pc := 55) X dX5_lays_55 ?_
  refine mo_iadd (pc := 56) X dX5_lays_56 ?_
  refine mo_il3 (pc := 57) X dX5_lays_57 ?_
  refine mo_iast (pc := 58) (j := 215 + 7 * mo_nk (M (m + 1)) + 3) X dX5_lays_58 (mo_Md_r0 hm) (by omega) ?_ ?_ (by omega) ?_
  · omega
  · omega
  try simp only [mo_ur_ur, mo_ur_s]
  refine mo_al0 (pc := 59) X dX5_lays_59 ?_
  refine mo_f_X5_7 (pc := 60) X dX5_lays_60 (mo_Md_o hm) (mo_Md_p0 hm) ?_
  refine mo_il6 (pc := 63) X dX5_lays_63 ?_
  refine mo_iconst (pc := 65) X dX5_lays_65 ?_
  refine mo_iadd (pc := 66) X dX5_lays_66 ?_
  refine mo_il4 (pc := 67) X dX5_lays_67 ?_
  refine mo_iast (pc := 69) (j := 215 + 7 * mo_nk (M (m + 1)) + 4) X dX5_lays_69 (mo_Md_r0 hm) (by omega) ?_ ?_ (by omega) ?_
  · omega
  · omega
  try simp only [mo_ur_ur, mo_ur_s]
  refine mo_al0 (pc := 70) X dX5_lays_70 ?_
  refine mo_f_X5_7 (pc := 71) X dX5_lays_71 (mo_Md_o hm) (mo_Md_p0 hm) ?_
  refine mo_il6 (pc := 74) X dX5_lays_74 ?_
  refine mo_iconst (pc := 76) X dX5_lays_76 ?_
  refine mo_iadd (pc := 77) X dX5_lays_77 ?_
  refine mo_il5 (pc := 78) X dX5_lays_78 ?_
  refine mo_iast (pc := 80) (j := 215 + 7 * mo_nk (M (m + 1)) + 5) X dX5_lays_80 (mo_Md_r0 hm) (by omega) ?_ ?_ (by omega) ?_
  · omega
  · omega
  try simp only [mo_ur_ur, mo_ur_s]
  refine mo_al0 (pc := 81) X dX5_lays_81 ?_
  refine mo_f_X5_7 (pc := 82) X dX5_lays_82 (mo_Md_o hm) (mo_Md_p0 hm) ?_
  refine mo_il6 (pc := 85) X dX5_lays_85 ?_
  refine mo_bipush (pc := 87) X dX5_lays_87 (by decide) ?_
  refine mo_iadd (pc := 89) X dX5_lays_89 ?_
  refine mo_iconst (pc := 90) X dX5_lays_90 ?_
  refine mo_iast (pc := 91) (j := 215 + 7 * mo_nk (M (m + 1)) + 6) X dX5_lays_91 (mo_Md_r0 hm) (by omega) ?_ ?_ (by omega) ?_
  · omega
  · omega
  try simp only [mo_ur_ur, mo_ur_s]
  refine mo_al0 (pc := 92) X dX5_lays_92 ?_
  refine mo_f_X5_7 (pc := 93) X dX5_lays_93 (mo_Md_o hm) (mo_Md_p0 hm) ?_
  refine mo_bipush (pc := 96) X dX5_lays_96 (by decide) ?_
  refine mo_dup2 (pc := 98) X dX5_lays_98 rfl rfl ?_
  refine mo_iald (pc := 99) (j := 7) X dX5_lays_99 (mo_Md_r0 hm) (by omega) ?_ ?_ rfl ?_
  · omega
  · omega
  try simp only [mo_ur_ur, mo_ur_s]
  rw [mo_up_n (by omega)]
  rw [mo_up_n (by omega)]
  rw [mo_up_n (by omega)]
  rw [mo_up_n (by omega)]
  rw [mo_up_n (by omega)]
  rw [mo_up_n (by omega)]
  rw [mo_up_n (by omega)]
  refine mo_iconst (pc := 100) X dX5_lays_100 ?_
  refine mo_iadd (pc := 101) X dX5_lays_101 ?_
  refine mo_iast (pc := 102) (j := 7) X dX5_lays_102 (mo_Md_r0 hm) (by omega) ?_ ?_ rfl ?_
  · omega
  · omega
  try simp only [mo_ur_ur, mo_ur_s]
  refine mo_al0 (pc := 103) X dX5_lays_103 ?_
  refine mo_f_X5_7 (pc := 104) X dX5_lays_104 (mo_Md_o hm) (mo_Md_p0 hm) ?_
  refine mo_iconst (pc := 107) X dX5_lays_107 ?_
  refine mo_dup2 (pc := 108) X dX5_lays_108 rfl rfl ?_
  refine mo_iald (pc := 109) (j := 1) X dX5_lays_109 (mo_Md_r0 hm) (by omega) ?_ ?_ rfl ?_
  · omega
  · omega
  try simp only [mo_ur_ur, mo_ur_s]
  rw [mo_up_n (by omega)]
  rw [mo_up_n (by omega)]
  rw [mo_up_n (by omega)]
  rw [mo_up_n (by omega)]
  rw [mo_up_n (by omega)]
  rw [mo_up_n (by omega)]
  rw [mo_up_n (by omega)]
  rw [mo_up_n (by omega)]
  refine mo_iconst (pc := 110) X dX5_lays_110 ?_
  refine mo_iadd (pc := 111) X dX5_lays_111 ?_
  refine mo_iast (pc := 112) (j := 1) X dX5_lays_112 (mo_Md_r0 hm) (by omega) ?_ ?_ rfl ?_
  · omega
  · omega
  refine mo_vret (pc := 113) X Y rfl dX5_lays_113 ⟨rfl, rfl, rfl, ?_⟩
  show mo_ur _ _ _ = _
  try simp only [mo_ur_ur, mo_ur_s]
  congr 1
set_option maxHeartbeats 4000000 in
set_option maxRecDepth 100000 in
theorem ct5_areThere {lf : Launch} {ρf : mo_E} {G : mo_G} {M : mo_M} {t : Nat} {m : Nat} (hm : mo_Md G m) {B a b c : Int} (hI : mo_Iv (M (m + 1)) B) (hB : B ≤ 1000000000) (ha : mo_In a) (hb : mo_In b) (hc : mo_In c) : mo_Ct lf ρf yX5_areThere cX5_areThere 4 (some .boolean) 2 0 0 [.ref m, mo_iv a, mo_iv b, mo_iv c] G M t (mo_pi G t (fun x M' => ((x = 1 ∧ ((0 ≤ a ∧ a < M (m + 1) 4) ∧ (0 ≤ b ∧ b < M (m + 1) 5) ∧ (0 ≤ c ∧ c < M (m + 1) 6))) ∨ (x = 0 ∧ ¬ ((0 ≤ a ∧ a < M (m + 1) 4) ∧ (0 ≤ b ∧ b < M (m + 1) 5) ∧ (0 ≤ c ∧ c < M (m + 1) 6)))) ∧ M = M')) := by
  refine mo_ofW (ls0 := [some (.ref m), some (mo_iv a), some (mo_iv b), some (mo_iv c)]) (by decide) rfl (Nat.le_of_ble_eq_true rfl) ?_
  intro κ X Y
  have X : mo_Cx κ lf ρf cX5_areThere 4 RX5 (some .boolean) 2 := X
  obtain ⟨hI0, hI1, hI2, hI3, hI4, hI5, hI6, hI7, hIh, hIa, hIe, hIm, hIs, hIl, hIw, hIr, hIt, hIs2, hIs3, hIz⟩ := id hI
  have hn : ((mo_nk (M (m + 1)) : Nat) : Int) = M (m + 1) 7 := by unfold mo_nk; omega
  refine mo_al0 (pc := 0) X dX5_areThere_0 ?_
  refine mo_il1 (pc := 1) X dX5_areThere_1 ?_
  refine mo_cVI (pc := 2) (As := [_]) X mo_k_X5_65 mo_y_yX5_isOrder rfl dX5_areThere_2 (ct5_isOrder hm ha (by omega)) (mo_Md_o hm) rfl (by decide) (by decide) (Nat.le_of_ble_eq_true rfl) ?_
  rintro r_2 _ ⟨h_2, rfl⟩
  refine mo_if_eq (pc := 5) (tgt := 28) X dX5_areThere_5 (by decide) ?_ (fun c_5 => ?_) (fun c_5 => ?_)
  · omega
  · skip
    refine mo_iconst (pc := 28) X dX5_areThere_28 ?_
    refine mo_zret (pc := 29) X Y rfl ?_ dX5_areThere_29 ⟨rfl, rfl, _, rfl, ?_⟩
    · omega
    refine ⟨?_, rfl⟩
    omega
  · skip
    refine mo_al0 (pc := 8) X dX5_areThere_8 ?_
    refine mo_il2 (pc := 9) X dX5_areThere_9 ?_
    refine mo_cVI (pc := 10) (As := [_]) X mo_k_X5_84 mo_y_yX5_isEscort rfl dX5_areThere_10 (ct5_isEscort hm hb (by omega)) (mo_Md_o hm) rfl (by decide) (by decide) (Nat.le_of_ble_eq_true rfl) ?_
    rintro r_10 _ ⟨h_10, rfl⟩
    refine mo_if_eq (pc := 13) (tgt := 28) X dX5_areThere_13 (by decide) ?_ (fun c_13 => ?_) (fun c_13 => ?_)
    · omega
    · skip
      refine mo_iconst (pc := 28) X dX5_areThere_28 ?_
      refine mo_zret (pc := 29) X Y rfl ?_ dX5_areThere_29 ⟨rfl, rfl, _, rfl, ?_⟩
      · omega
      refine ⟨?_, rfl⟩
      omega
    · skip
      refine mo_al0 (pc := 16) X dX5_areThere_16 ?_
      refine mo_il3 (pc := 17) X dX5_areThere_17 ?_
      refine mo_cVI (pc := 18) (As := [_]) X mo_k_X5_105 mo_y_yX5_isVenue rfl dX5_areThere_18 (ct5_isVenue hm hc (by omega)) (mo_Md_o hm) rfl (by decide) (by decide) (Nat.le_of_ble_eq_true rfl) ?_
      rintro r_18 _ ⟨h_18, rfl⟩
      refine mo_if_eq (pc := 21) (tgt := 28) X dX5_areThere_21 (by decide) ?_ (fun c_21 => ?_) (fun c_21 => ?_)
      · omega
      · skip
        refine mo_iconst (pc := 28) X dX5_areThere_28 ?_
        refine mo_zret (pc := 29) X Y rfl ?_ dX5_areThere_29 ⟨rfl, rfl, _, rfl, ?_⟩
        · omega
        refine ⟨?_, rfl⟩
        omega
      · skip
        refine mo_iconst (pc := 24) X dX5_areThere_24 ?_
        refine mo_goto (pc := 25) (tgt := 29) X dX5_areThere_25 (by decide) ?_
        refine mo_zret (pc := 29) X Y rfl ?_ dX5_areThere_29 ⟨rfl, rfl, _, rfl, ?_⟩
        · omega
        refine ⟨?_, rfl⟩
        omega
set_option maxHeartbeats 4000000 in
set_option maxRecDepth 100000 in
theorem ct5_plansOne {lf : Launch} {ρf : mo_E} {G : mo_G} {M : mo_M} {t : Nat} {m : Nat} (hm : mo_Md G m) {B : Int} {w : Nat} (hI : mo_Iv (M (m + 1)) B) (hB : B ≤ 1000000000) (hw : w < 20) : mo_Ct lf ρf yX5_plansOne cX5_plansOne 7 (some .boolean) 4 0 0 [.ref m, mo_iv w] G M t (mo_pi G t (fun x M' => ∃ f4 f5 f6 f7, (mo_bo (M (m + 1)) w = -1 ∧ x = 0 ∧ M' = mo_sc M m f4 f5 f6 f7) ∨ (mo_bo (M (m + 1)) w ≠ -1 ∧ x = 1 ∧ M' = mo_ur (mo_sc M m f4 f5 f6 f7) (m + 1) (mo_l1 (M (m + 1)) w)))) := by
  refine mo_ofW (ls0 := [some (.ref m), some (mo_iv w), none, none, none, none, none]) (by decide) rfl (Nat.le_of_ble_eq_true rfl) ?_
  intro κ X Y
  have X : mo_Cx κ lf ρf cX5_plansOne 7 RX5 (some .boolean) 4 := X
  obtain ⟨hI0, hI1, hI2, hI3, hI4, hI5, hI6, hI7, hIh, hIa, hIe, hIm, hIs, hIl, hIw, hIr, hIt, hIs2, hIs3, hIz⟩ := id hI
  have hn : ((mo_nk (M (m + 1)) : Nat) : Int) = M (m + 1) 7 := by unfold mo_nk; omega
  have loop : ∀ (z i : Nat) (b mx x : Int) (o5 o6 : Option Value) (Mz : mo_M) (f4 f5 f6 f7 : Nat → Int), Mz = mo_sc M m f4 f5 f6 f7 → mo_Lk Mz m w → i + z = (M (m + 1) 4).toNat → x = i → b = (mo_bst (M (m + 1)) w i).1 → mx = (mo_bst (M (m + 1)) w i).2 → mo_V κ 0 0 12 [some (.ref m), some (mo_iv w), some (mo_iv b), some (mo_iv mx), some (mo_iv x), o5, o6] [] G Mz t := by
    intro z
    induction z with
    | zero =>
      intro i b mx x o5 o6 Mz f4 f5 f6 f7 hMz hL hi hx hb hmx
      subst hx
      have e1 : Mz (m + 1) = M (m + 1) := by rw [hMz, mo_sc_r1]
      have hI' : mo_Iv (Mz (m + 1)) B := by rw [e1]; exact hI
      have hbo : mo_bo (M (m + 1)) w = b := by
        unfold mo_bo
        rw [show (M (m + 1) 4).toNat = i by omega, ← hb]
      have hbb := mo_bst_b (M (m + 1)) w i
      rw [← hb] at hbb
      refine mo_il4 (pc := 12) X dX5_plansOne_12 ?_
      refine mo_al0 (pc := 14) X dX5_plansOne_14 ?_
      refine mo_f_X5_7 (pc := 15) X dX5_plansOne_15 (mo_Md_o hm) (mo_Md_p0 hm) ?_
      refine mo_iconst (pc := 18) X dX5_plansOne_18 ?_
      refine mo_iald (pc := 19) (j := 4) X dX5_plansOne_19 (mo_Md_r0 hm) (by omega) ?_ ?_ rfl ?_
      · omega
      · omega
      rw [e1]
      refine mo_ic_ge (pc := 20) (tgt := 86) X dX5_plansOne_20 (by decide) ?_ ?_ (fun c_20 => ?_) (fun c_20 => ?_)
      · omega
      · omega
      · skip
        refine mo_il2 (pc := 86) X dX5_plansOne_86 ?_
        refine mo_iconst (pc := 87) X dX5_plansOne_87 ?_
        refine mo_ic_ne (pc := 88) (tgt := 93) X dX5_plansOne_88 (by decide) ?_ ?_ (fun c_88 => ?_) (fun c_88 => ?_)
        · omega
        · omega
        · skip
          have c_88 : b ≠ -1 := c_88
          obtain ⟨bn, rfl⟩ := Int.eq_ofNat_of_zero_le (show 0 ≤ b by omega)
          obtain ⟨p1, p2, p3, p4, p5⟩ := mo_p1 hI hw (by omega)
          rw [hbo, Int.toNat_natCast] at p5
          obtain ⟨d1, d2, d3, d4, d5, d6⟩ := mo_ch p5 hI6.1
          have hE : ((mo_en5 (M (m + 1)) : Nat) : Int) = M (m + 1) 5 := by unfold mo_en5; omega
          refine mo_al0 (pc := 93) X dX5_plansOne_93 ?_
          refine mo_il2 (pc := 94) X dX5_plansOne_94 ?_
          refine mo_il1 (pc := 95) X dX5_plansOne_95 ?_
          refine mo_cVI (pc := 96) (As := [_, _]) X mo_k_X5_136 mo_y_yX5_slotFor rfl dX5_plansOne_96 (ct5_slotFor (w := (w : Int)) (o := bn) hm hI' hB hL (by omega) (by omega)) (mo_Md_o hm) rfl (by decide) (by decide) (Nat.le_of_ble_eq_true rfl) ?_
          rintro r_96 _ ⟨h_96, rfl⟩
          rw [e1] at h_96
          refine mo_is4 (pc := 99) X dX5_plansOne_99 rfl (by decide) ?_
          obtain ⟨sn, hsn⟩ := Int.eq_ofNat_of_zero_le (show 0 ≤ r_96 by omega)
          subst hsn
          refine mo_al0 (pc := 101) X dX5_plansOne_101 ?_
          refine mo_il2 (pc := 102) X dX5_plansOne_102 ?_
          refine mo_il1 (pc := 103) X dX5_plansOne_103 ?_
          refine mo_il4 (pc := 104) X dX5_plansOne_104 ?_
          refine mo_al0 (pc := 106) X dX5_plansOne_106 ?_
          refine mo_il4 (pc := 107) X dX5_plansOne_107 ?_
          refine mo_cVI (pc := 109) (As := [_]) X mo_k_X5_132 mo_y_yX5_escortFor rfl dX5_plansOne_109 (ct5_escortFor (w := (w : Int)) (q := sn) hm hI' hB hL (by omega)) (mo_Md_o hm) rfl (by decide) (by decide) (Nat.le_of_ble_eq_true rfl) ?_
          rintro r_109 _ ⟨h_109, rfl⟩
          rw [e1] at h_109
          refine mo_al0 (pc := 112) X dX5_plansOne_112 ?_
          refine mo_il2 (pc := 113) X dX5_plansOne_113 ?_
          refine mo_il4 (pc := 114) X dX5_plansOne_114 ?_
          refine mo_cVI (pc := 116) (As := [_, _]) X mo_k_X5_129 mo_y_yX5_venueFor rfl dX5_plansOne_116 (ct5_venueFor (w := (w : Int)) (o := bn) (q := sn) hm hI' hB hL (by omega) (by omega)) (mo_Md_o hm) rfl (by decide) (by decide) (Nat.le_of_ble_eq_true rfl) ?_
          rintro r_116 _ ⟨h_116, rfl⟩
          rw [e1] at h_116
          refine mo_cVV (pc := 119) (As := [_, _, _, _, _]) X mo_k_X5_122 mo_y_yX5_lays rfl dX5_plansOne_119 (ct5_lays (o := (bn : Int)) (w := (w : Int)) hm hI' hB (by rw [e1]; omega)) (mo_Md_o hm) rfl (by decide) (by decide) (Nat.le_of_ble_eq_true rfl) ?_
          intro M9 h_119
          refine mo_iconst (pc := 122) X dX5_plansOne_122 ?_
          refine mo_zret (pc := 123) X Y rfl ?_ dX5_plansOne_123 ⟨rfl, rfl, _, rfl, ?_⟩
          · omega
          refine ⟨f4, f5, f6, f7, Or.inr ⟨by omega, rfl, ?_⟩⟩
          rw [h_119, e1, hMz]
          congr 1
          unfold mo_l1
          rw [hbo, Int.toNat_natCast, ← h_96, Int.toNat_natCast, ← h_109, ← h_116]
        · skip
          refine mo_iconst (pc := 91) X dX5_plansOne_91 ?_
          refine mo_zret (pc := 92) X Y rfl ?_ dX5_plansOne_92 ⟨rfl, rfl, _, rfl, ?_⟩
          · omega
          exact ⟨f4, f5, f6, f7, Or.inl ⟨by omega, rfl, hMz⟩⟩
      · exfalso
        omega
    | succ z ih =>
      intro i b mx x o5 o6 Mz f4 f5 f6 f7 hMz hL hi hx hb hmx
      subst hx
      have e1 : Mz (m + 1) = M (m + 1) := by rw [hMz, mo_sc_r1]
      have hI' : mo_Iv (Mz (m + 1)) B := by rw [e1]; exact hI
      have how := mo_ow_le (o := i) (w := w) hI (by omega) hw
      have hbb := mo_bst_b (M (m + 1)) w i
      rw [← hb, ← hmx] at hbb
      have how2 := mo_ow_le (o := b.toNat) (w := w) hI (by omega) hw
      have hsb := mo_ff_b (mo_sp (M (m + 1)) w i) 28
      have hsf : -1 ≤ mo_sf (M (m + 1)) w i ∧ mo_sf (M (m + 1)) w i < 28 := by
        unfold mo_sf
        split <;> omega
      refine mo_il4 (pc := 12) X dX5_plansOne_12 ?_
      refine mo_al0 (pc := 14) X dX5_plansOne_14 ?_
      refine mo_f_X5_7 (pc := 15) X dX5_plansOne_15 (mo_Md_o hm) (mo_Md_p0 hm) ?_
      refine mo_iconst (pc := 18) X dX5_plansOne_18 ?_
      refine mo_iald (pc := 19) (j := 4) X dX5_plansOne_19 (mo_Md_r0 hm) (by omega) ?_ ?_ rfl ?_
      · omega
      · omega
      rw [e1]
      refine mo_ic_ge (pc := 20) (tgt := 86) X dX5_plansOne_20 (by decide) ?_ ?_ (fun c_20 => ?_) (fun c_20 => ?_)
      · omega
      · omega
      · exfalso
        omega
      · skip
        refine mo_al0 (pc := 23) X dX5_plansOne_23 ?_
        refine mo_il4 (pc := 24) X dX5_plansOne_24 ?_
        refine mo_il1 (pc := 26) X dX5_plansOne_26 ?_
        refine mo_cVI (pc := 27) (As := [_, _]) X mo_k_X5_126 mo_y_yX5_owes rfl dX5_plansOne_27 (ct5_owes (o := i) (w := w) hm hI' hB (by omega) hw) (mo_Md_o hm) rfl (by decide) (by decide) (Nat.le_of_ble_eq_true rfl) ?_
        rintro r_27 _ ⟨h_27, rfl⟩
        rw [e1] at h_27
        refine mo_is5 (pc := 30) X dX5_plansOne_30 rfl (by decide) ?_
        refine mo_il5 (pc := 32) X dX5_plansOne_32 ?_
        refine mo_il3 (pc := 34) X dX5_plansOne_34 ?_
        refine mo_ic_le (pc := 35) (tgt := 53) X dX5_plansOne_35 (by decide) ?_ ?_ (fun c_35 => ?_) (fun c_35 => ?_)
        · omega
        · omega
        · skip
          refine mo_iconst (pc := 53) X dX5_plansOne_53 ?_
          refine mo_is6 (pc := 54) X dX5_plansOne_54 rfl (by decide) ?_
          refine mo_il6 (pc := 56) X dX5_plansOne_56 ?_
          refine mo_if_eq (pc := 58) (tgt := 66) X dX5_plansOne_58 (by decide) ?_ (fun c_58 => ?_) (fun c_58 => ?_)
          · omega
          · skip
            refine mo_il2 (pc := 66) X dX5_plansOne_66 ?_
            refine mo_is2 (pc := 67) X dX5_plansOne_67 rfl (by decide) ?_
            refine mo_il6 (pc := 68) X dX5_plansOne_68 ?_
            refine mo_if_eq (pc := 70) (tgt := 78) X dX5_plansOne_70 (by decide) ?_ (fun c_70 => ?_) (fun c_70 => ?_)
            · omega
            · skip
              refine mo_il3 (pc := 78) X dX5_plansOne_78 ?_
              refine mo_is3 (pc := 79) X dX5_plansOne_79 rfl (by decide) ?_
              refine mo_ii4 (pc := 80) X dX5_plansOne_80 rfl (by decide) ?_
              refine mo_goto (pc := 83) (tgt := 12) X dX5_plansOne_83 (by decide) ?_
              refine ih (i + 1) _ _ _ _ _ _ f4 f5 f6 f7 hMz hL (by omega) (by omega) ?_ ?_
              all_goals
                rw [mo_bst, ← hmx]
                first
                  | rw [if_pos ⟨by omega, by omega⟩]
                  | (rw [if_neg (by omega)]; exact hb)
                  | (rw [if_neg (by omega)]; exact hmx)
                try exact h_27
            · exfalso; omega
          · exfalso; omega
        · skip
          refine mo_al0 (pc := 38) X dX5_plansOne_38 ?_
          refine mo_il4 (pc := 39) X dX5_plansOne_39 ?_
          refine mo_il1 (pc := 41) X dX5_plansOne_41 ?_
          refine mo_cVI (pc := 42) (As := [_, _]) X mo_k_X5_136 mo_y_yX5_slotFor rfl dX5_plansOne_42 (ct5_slotFor (w := (w : Int)) (o := i) hm hI' hB hL (by omega) (by omega)) (mo_Md_o hm) rfl (by decide) (by decide) (Nat.le_of_ble_eq_true rfl) ?_
          rintro r_42 _ ⟨h_42, rfl⟩
          rw [e1] at h_42
          refine mo_iconst (pc := 45) X dX5_plansOne_45 ?_
          refine mo_ic_eq (pc := 46) (tgt := 53) X dX5_plansOne_46 (by decide) ?_ ?_ (fun c_46 => ?_) (fun c_46 => ?_)
          · omega
          · omega
          · skip
            refine mo_iconst (pc := 53) X dX5_plansOne_53 ?_
            refine mo_is6 (pc := 54) X dX5_plansOne_54 rfl (by decide) ?_
            refine mo_il6 (pc := 56) X dX5_plansOne_56 ?_
            refine mo_if_eq (pc := 58) (tgt := 66) X dX5_plansOne_58 (by decide) ?_ (fun c_58 => ?_) (fun c_58 => ?_)
            · omega
            · skip
              refine mo_il2 (pc := 66) X dX5_plansOne_66 ?_
              refine mo_is2 (pc := 67) X dX5_plansOne_67 rfl (by decide) ?_
              refine mo_il6 (pc := 68) X dX5_plansOne_68 ?_
              refine mo_if_eq (pc := 70) (tgt := 78) X dX5_plansOne_70 (by decide) ?_ (fun c_70 => ?_) (fun c_70 => ?_)
              · omega
              · skip
                refine mo_il3 (pc := 78) X dX5_plansOne_78 ?_
                refine mo_is3 (pc := 79) X dX5_plansOne_79 rfl (by decide) ?_
                refine mo_ii4 (pc := 80) X dX5_plansOne_80 rfl (by decide) ?_
                refine mo_goto (pc := 83) (tgt := 12) X dX5_plansOne_83 (by decide) ?_
                refine ih (i + 1) _ _ _ _ _ _ f4 f5 f6 f7 hMz hL (by omega) (by omega) ?_ ?_
                all_goals
                  rw [mo_bst, ← hmx]
                  first
                    | rw [if_pos ⟨by omega, by omega⟩]
                    | (rw [if_neg (by omega)]; exact hb)
                    | (rw [if_neg (by omega)]; exact hmx)
                  try exact h_27
              · exfalso; omega
            · exfalso; omega
          · skip
            refine mo_iconst (pc := 49) X dX5_plansOne_49 ?_
            refine mo_goto (pc := 50) (tgt := 54) X dX5_plansOne_50 (by decide) ?_
            refine mo_is6 (pc := 54) X dX5_plansOne_54 rfl (by decide) ?_
            refine mo_il6 (pc := 56) X dX5_plansOne_56 ?_
            refine mo_if_eq (pc := 58) (tgt := 66) X dX5_plansOne_58 (by decide) ?_ (fun c_58 => ?_) (fun c_58 => ?_)
            · omega
            · exfalso; omega
            · skip
              refine mo_il4 (pc := 61) X dX5_plansOne_61 ?_
              refine mo_goto (pc := 63) (tgt := 67) X dX5_plansOne_63 (by decide) ?_
              refine mo_is2 (pc := 67) X dX5_plansOne_67 rfl (by decide) ?_
              refine mo_il6 (pc := 68) X dX5_plansOne_68 ?_
              refine mo_if_eq (pc := 70) (tgt := 78) X dX5_plansOne_70 (by decide) ?_ (fun c_70 => ?_) (fun c_70 => ?_)
              · omega
              · exfalso; omega
              · skip
                refine mo_il5 (pc := 73) X dX5_plansOne_73 ?_
                refine mo_goto (pc := 75) (tgt := 79) X dX5_plansOne_75 (by decide) ?_
                refine mo_is3 (pc := 79) X dX5_plansOne_79 rfl (by decide) ?_
                refine mo_ii4 (pc := 80) X dX5_plansOne_80 rfl (by decide) ?_
                refine mo_goto (pc := 83) (tgt := 12) X dX5_plansOne_83 (by decide) ?_
                refine ih (i + 1) _ _ _ _ _ _ f4 f5 f6 f7 hMz hL (by omega) (by omega) ?_ ?_
                all_goals
                  rw [mo_bst, ← hmx]
                  first
                    | rw [if_pos ⟨by omega, by omega⟩]
                    | (rw [if_neg (by omega)]; exact hb)
                    | (rw [if_neg (by omega)]; exact hmx)
                  try exact h_27
  refine mo_iconst (pc := 0) X dX5_plansOne_0 ?_
  refine mo_is2 (pc := 1) X dX5_plansOne_1 rfl (by decide) ?_
  refine mo_iconst (pc := 2) X dX5_plansOne_2 ?_
  refine mo_is3 (pc := 3) X dX5_plansOne_3 rfl (by decide) ?_
  refine mo_al0 (pc := 4) X dX5_plansOne_4 ?_
  refine mo_il1 (pc := 5) X dX5_plansOne_5 ?_
  refine mo_cVV (pc := 6) (As := [_]) X mo_k_X5_98 mo_y_yX5_look rfl dX5_plansOne_6 (ct5_look (w := (w : Int)) hm hI hB (by omega)) (mo_Md_o hm) rfl (by decide) (by decide) (Nat.le_of_ble_eq_true rfl) ?_
  rintro Mz ⟨f4, f5, f6, f7, hMz, hL⟩
  refine mo_iconst (pc := 9) X dX5_plansOne_9 ?_
  refine mo_is4 (pc := 10) X dX5_plansOne_10 rfl (by decide) ?_
  exact loop _ 0 (-1) 0 0 none none Mz f4 f5 f6 f7 hMz hL (Nat.zero_add _) rfl rfl rfl
set_option maxHeartbeats 4000000 in
set_option maxRecDepth 100000 in
theorem ct5_plans {lf : Launch} {ρf : mo_E} {G : mo_G} {M : mo_M} {t : Nat} {m : Nat} (hm : mo_Md G m) {B : Int} {w : Nat} (hI : mo_Iv (M (m + 1)) B) (hB : B ≤ 900000000) (hw : w < 20) : mo_Ct lf ρf yX5_plans cX5_plans 3 (some .int) 5 0 0 [.ref m, mo_iv w] G M t (mo_pi G t (fun x M' => ∃ f4 f5 f6 f7, x = (mo_pl w 61 (M (m + 1))).1 ∧ M' = mo_ur (mo_sc M m f4 f5 f6 f7) (m + 1) (mo_pl w 61 (M (m + 1))).2)) := by
  refine mo_ofW (ls0 := [some (.ref m), some (mo_iv w), none]) (by decide) rfl (Nat.le_of_ble_eq_true rfl) ?_
  intro κ X Y
  have X : mo_Cx κ lf ρf cX5_plans 3 RX5 (some .int) 5 := X
  have loop : ∀ (z : Nat) (C y : Int) (g : Nat → Int) (f4 f5 f6 f7 : Nat → Int), 61 ≤ z + g 7 → mo_Iv g C → C + z ≤ 1000000000 → (mo_pl w 61 (M (m + 1))).1 = y + (mo_pl w z g).1 → (mo_pl w 61 (M (m + 1))).2 = (mo_pl w z g).2 → mo_V κ 0 0 2 [some (.ref m), some (mo_iv w), some (mo_iv y)] [] G (mo_ur (mo_sc M m f4 f5 f6 f7) (m + 1) g) t := by
    intro z
    induction z with
    | zero =>
      intro C y g f4 f5 f6 f7 hz hC hCz h1 h2
      exfalso
      have h9 := hC.2.2.2.2.2.2.2.1
      omega
    | succ z ih =>
      intro C y g f4 f5 f6 f7 hz hC hCz h1 h2
      have e1 : (mo_ur (mo_sc M m f4 f5 f6 f7) (m + 1) g) (m + 1) = g := mo_ur_s _ _ _
      have hu : mo_pl w (z + 1) g = if mo_bo g w = -1 then (0, g) else ((mo_pl w z (mo_l1 g w)).1 + 1, (mo_pl w z (mo_l1 g w)).2) := rfl
      rw [hu] at h1 h2
      refine mo_al0 (pc := 2) X dX5_plans_2 ?_
      refine mo_il1 (pc := 3) X dX5_plans_3 ?_
      refine mo_cVI (pc := 4) (As := [_]) X mo_k_X5_139 mo_y_yX5_plansOne rfl dX5_plans_4 (ct5_plansOne (B := C) (w := w) hm (by rw [e1]; exact hC) (by omega) hw) (mo_Md_o hm) rfl (by decide) (by decide) (Nat.le_of_ble_eq_true rfl) ?_
      rintro r_4 M9 ⟨g4, g5, g6, g7, h_4⟩
      rw [e1] at h_4
      have hsc : mo_sc (mo_ur (mo_sc M m f4 f5 f6 f7) (m + 1) g) m g4 g5 g6 g7 = mo_ur (mo_sc M m g4 g5 g6 g7) (m + 1) g := by rw [mo_sc_u _ _ _ _ _ _ (by omega), mo_sc_sc]
      rw [hsc, mo_ur_ur] at h_4
      refine mo_if_eq (pc := 7) (tgt := 16) X dX5_plans_7 (by decide) ?_ (fun c_7 => ?_) (fun c_7 => ?_)
      · omega
      · skip
        refine mo_il2 (pc := 16) X dX5_plans_16 ?_
        refine mo_iret (pc := 17) X Y rfl dX5_plans_17 ⟨rfl, rfl, _, rfl, ?_⟩
        have hb : mo_bo g w = -1 := by omega
        have hM : M9 = mo_ur (mo_sc M m g4 g5 g6 g7) (m + 1) g := by
          rcases h_4 with q | q
          · exact q.2.2
          · omega
        rw [if_pos hb] at h1 h2
        refine ⟨g4, g5, g6, g7, by simp only at h1; omega, ?_⟩
        rw [hM, h2]
      · skip
        refine mo_ii2 (pc := 10) X dX5_plans_10 rfl (by decide) ?_
        refine mo_goto (pc := 13) (tgt := 2) X dX5_plans_13 (by decide) ?_
        have hb : mo_bo g w ≠ -1 := by omega
        have hM : M9 = mo_ur (mo_sc M m g4 g5 g6 g7) (m + 1) (mo_l1 g w) := by
          rcases h_4 with q | q
          · omega
          · exact q.2.2
        obtain ⟨p1, p2, p3, -⟩ := mo_p1 hC hw hb
        rw [if_neg hb] at h1 h2
        rw [hM]
        exact ih (C + 1) _ (mo_l1 g w) g4 g5 g6 g7 (by omega) p1 (by omega) (by simp only at h1; omega) h2
  have hst : M = mo_ur (mo_sc M m (M (m + 4)) (M (m + 5)) (M (m + 6)) (M (m + 7))) (m + 1) (M (m + 1)) := by rw [mo_sc_id, mo_ur_id]
  refine mo_iconst (pc := 0) X dX5_plans_0 ?_
  refine mo_is2 (pc := 1) X dX5_plans_1 rfl (by decide) ?_
  rw [hst]
  exact loop 61 B 0 _ _ _ _ _ (by have := hI.2.2.2.2.2.2.2.1; omega) hI (by omega) (by omega) rfl
