theorem mo_cmp_lt (x y : Int) : mo_cmp x y < 0 ↔ x < y := by
  unfold mo_cmp
  split
  · omega
  · split <;> omega
theorem mo_cmp_gt (x y : Int) : 0 < mo_cmp x y ↔ y < x := by
  unfold mo_cmp
  split
  · omega
  · split <;> omega
theorem mo_cmp_in (x y : Int) : mo_In (mo_cmp x y) := by
  unfold mo_cmp
  split
  · omega
  · split <;> omega
theorem mo_andIn (x y : Int) : mo_In (mo_and x y) := mo_ri _
theorem mo_orIn (x y : Int) : mo_In (mo_or x y) := mo_ri _
theorem mo_shlIn (x y : Int) : mo_In (mo_shl x y) := mo_ri _
theorem mo_pow5 : ∀ n : Nat, n ≤ 5 → mo_lshl 1 (n : Int) = 2 ^ n ∧ mo_shl 1 (n : Int) = 2 ^ n := by decide
set_option maxHeartbeats 4000000 in
set_option maxRecDepth 100000 in
theorem ct5_thrown {lf : Launch} {ρf : mo_E} {G : mo_G} {M : mo_M} {t : Nat} {m : Nat} (hm : mo_Md G m) : mo_Ct lf ρf yX5_thrown cX5_thrown 1 (some .int) 0 0 0 [.ref m] G M t (mo_pi G t (fun x M' => x = M m 4 ∧ M = M')) := by
  refine mo_ofW (ls0 := [some (.ref m)]) (by decide) rfl (Nat.le_of_ble_eq_true rfl) ?_
  intro κ X Y
  have X : mo_Cx κ lf ρf cX5_thrown 1 RX5 (some .int) 0 := X
  refine mo_al0 (pc := 0) X dX5_thrown_0 ?_
  refine mo_f_X5_37 (pc := 1) X dX5_thrown_1 (mo_Md_o hm) ?_
  refine mo_iret (pc := 4) X Y rfl dX5_thrown_4 ⟨rfl, rfl, _, rfl, ?_⟩
  exact ⟨rfl, rfl⟩
set_option maxHeartbeats 4000000 in
set_option maxRecDepth 100000 in
theorem ct5_in {lf : Launch} {ρf : mo_E} {G : mo_G} {M : mo_M} {t : Nat} {v a b : Int} (hv : mo_Jn v) (ha : mo_Jn a) (hb : mo_Jn b) : mo_Ct lf ρf yX5_in cX5_in 6 (some .boolean) 0 0 0 [mo_jv v, mo_jv a, mo_jv b] G M t (mo_pi G t (fun x M' => ((x = 1 ∧ (a ≤ v ∧ v ≤ b)) ∨ (x = 0 ∧ ¬ (a ≤ v ∧ v ≤ b))) ∧ M = M')) := by
  refine mo_ofW (ls0 := [some (mo_jv v), none, some (mo_jv a), none, some (mo_jv b), none]) (by decide) rfl (Nat.le_of_ble_eq_true rfl) ?_
  intro κ X Y
  have X : mo_Cx κ lf ρf cX5_in 6 RX5 (some .boolean) 0 := X
  refine mo_ll0 (pc := 0) X dX5_in_0 ?_
  refine mo_ll2 (pc := 1) X dX5_in_1 ?_
  refine mo_lcmp (pc := 2) X dX5_in_2 ?_ ?_ ?_
  · omega
  · omega
  refine mo_if_lt (pc := 3) (tgt := 17) X dX5_in_3 (by decide) ?_ (fun c_3 => ?_) (fun c_3 => ?_)
  · exact mo_cmp_in _ _
  · skip
    refine mo_iconst (pc := 17) X dX5_in_17 ?_
    refine mo_zret (pc := 18) X Y rfl ?_ dX5_in_18 ⟨rfl, rfl, _, rfl, ?_⟩
    · omega
    have k1 := mo_cmp_lt v a
    have k2 := mo_cmp_gt v b
    refine ⟨?_, rfl⟩
    omega
  · skip
    refine mo_ll0 (pc := 6) X dX5_in_6 ?_
    refine mo_ll4 (pc := 7) X dX5_in_7 ?_
    refine mo_lcmp (pc := 9) X dX5_in_9 ?_ ?_ ?_
    · omega
    · omega
    refine mo_if_gt (pc := 10) (tgt := 17) X dX5_in_10 (by decide) ?_ (fun c_10 => ?_) (fun c_10 => ?_)
    · exact mo_cmp_in _ _
    · skip
      refine mo_iconst (pc := 17) X dX5_in_17 ?_
      refine mo_zret (pc := 18) X Y rfl ?_ dX5_in_18 ⟨rfl, rfl, _, rfl, ?_⟩
      · omega
      have k1 := mo_cmp_lt v a
      have k2 := mo_cmp_gt v b
      refine ⟨?_, rfl⟩
      omega
    · skip
      refine mo_iconst (pc := 13) X dX5_in_13 ?_
      refine mo_goto (pc := 14) (tgt := 18) X dX5_in_14 (by decide) ?_
      refine mo_zret (pc := 18) X Y rfl ?_ dX5_in_18 ⟨rfl, rfl, _, rfl, ?_⟩
      · omega
      have k1 := mo_cmp_lt v a
      have k2 := mo_cmp_gt v b
      refine ⟨?_, rfl⟩
      omega
set_option maxHeartbeats 4000000 in
set_option maxRecDepth 100000 in
theorem ct5_goes {lf : Launch} {ρf : mo_E} {G : mo_G} {M : mo_M} {t : Nat} {m : Nat} (hm : mo_Md G m) {a b c : Int} (ha : mo_In a) (hb : mo_In b) (hc : mo_In c) : mo_Ct lf ρf yX5_goes cX5_goes 4 (some .boolean) 0 0 0 [.ref m, mo_iv a, mo_iv b, mo_iv c] G M t (mo_pi G t (fun x M' => ∃ T : Int, M' = mo_ur M m (va_up (M m) 4 T) ∧ ((a = 0 ∧ T = 1 ∧ x = 0) ∨ (a ≠ 0 ∧ b = 0 ∧ T = 2 ∧ x = 0) ∨ (a ≠ 0 ∧ b ≠ 0 ∧ c = 0 ∧ T = 3 ∧ x = 0) ∨ (a ≠ 0 ∧ b ≠ 0 ∧ c ≠ 0 ∧ T = 0 ∧ x = 1)))) := by
  refine mo_ofW (ls0 := [some (.ref m), some (mo_iv a), some (mo_iv b), some (mo_iv c)]) (by decide) rfl (Nat.le_of_ble_eq_true rfl) ?_
  intro κ X Y
  have X : mo_Cx κ lf ρf cX5_goes 4 RX5 (some .boolean) 0 := X
  refine mo_al0 (pc := 0) X dX5_goes_0 ?_
  refine mo_il1 (pc := 1) X dX5_goes_1 ?_
  refine mo_if_ne (pc := 2) (tgt := 9) X dX5_goes_2 (by decide) ?_ (fun c_2 => ?_) (fun c_2 => ?_)
  · omega
  · skip
    refine mo_il2 (pc := 9) X dX5_goes_9 ?_
    refine mo_if_ne (pc := 10) (tgt := 17) X dX5_goes_10 (by decide) ?_ (fun c_10 => ?_) (fun c_10 => ?_)
    · omega
    · skip
      refine mo_il3 (pc := 17) X dX5_goes_17 ?_
      refine mo_if_ne (pc := 18) (tgt := 25) X dX5_goes_18 (by decide) ?_ (fun c_18 => ?_) (fun c_18 => ?_)
      · omega
      · skip
        refine mo_iconst (pc := 25) X dX5_goes_25 ?_
        refine mo_p_X5_37 (pc := 26) X dX5_goes_26 (mo_Md_o hm) ?_
        refine mo_al0 (pc := 29) X dX5_goes_29 ?_
        refine mo_f_X5_37 (pc := 30) X dX5_goes_30 (mo_Md_o hm) ?_
        rw [mo_ur_s, mo_up_s]
        refine mo_if_ne (pc := 33) (tgt := 40) X dX5_goes_33 (by decide) ?_ (fun c_33 => ?_) (fun c_33 => ?_)
        · omega
        · skip
          refine mo_iconst (pc := 40) X dX5_goes_40 ?_
          refine mo_zret (pc := 41) X Y rfl ?_ dX5_goes_41 ⟨rfl, rfl, _, rfl, ?_⟩
          · omega
          exact ⟨_, rfl, by omega⟩
        · skip
          refine mo_iconst (pc := 36) X dX5_goes_36 ?_
          refine mo_goto (pc := 37) (tgt := 41) X dX5_goes_37 (by decide) ?_
          refine mo_zret (pc := 41) X Y rfl ?_ dX5_goes_41 ⟨rfl, rfl, _, rfl, ?_⟩
          · omega
          exact ⟨_, rfl, by omega⟩
      · skip
        refine mo_iconst (pc := 21) X dX5_goes_21 ?_
        refine mo_goto (pc := 22) (tgt := 26) X dX5_goes_22 (by decide) ?_
        refine mo_p_X5_37 (pc := 26) X dX5_goes_26 (mo_Md_o hm) ?_
        refine mo_al0 (pc := 29) X dX5_goes_29 ?_
        refine mo_f_X5_37 (pc := 30) X dX5_goes_30 (mo_Md_o hm) ?_
        rw [mo_ur_s, mo_up_s]
        refine mo_if_ne (pc := 33) (tgt := 40) X dX5_goes_33 (by decide) ?_ (fun c_33 => ?_) (fun c_33 => ?_)
        · omega
        · skip
          refine mo_iconst (pc := 40) X dX5_goes_40 ?_
          refine mo_zret (pc := 41) X Y rfl ?_ dX5_goes_41 ⟨rfl, rfl, _, rfl, ?_⟩
          · omega
          exact ⟨_, rfl, by omega⟩
        · skip
          refine mo_iconst (pc := 36) X dX5_goes_36 ?_
          refine mo_goto (pc := 37) (tgt := 41) X dX5_goes_37 (by decide) ?_
          refine mo_zret (pc := 41) X Y rfl ?_ dX5_goes_41 ⟨rfl, rfl, _, rfl, ?_⟩
          · omega
          exact ⟨_, rfl, by omega⟩
    · skip
      refine mo_iconst (pc := 13) X dX5_goes_13 ?_
      refine mo_goto (pc := 14) (tgt := 26) X dX5_goes_14 (by decide) ?_
      refine mo_p_X5_37 (pc := 26) X dX5_goes_26 (mo_Md_o hm) ?_
      refine mo_al0 (pc := 29) X dX5_goes_29 ?_
      refine mo_f_X5_37 (pc := 30) X dX5_goes_30 (mo_Md_o hm) ?_
      rw [mo_ur_s, mo_up_s]
      refine mo_if_ne (pc := 33) (tgt := 40) X dX5_goes_33 (by decide) ?_ (fun c_33 => ?_) (fun c_33 => ?_)
      · omega
      · skip
        refine mo_iconst (pc := 40) X dX5_goes_40 ?_
        refine mo_zret (pc := 41) X Y rfl ?_ dX5_goes_41 ⟨rfl, rfl, _, rfl, ?_⟩
        · omega
        exact ⟨_, rfl, by omega⟩
      · skip
        refine mo_iconst (pc := 36) X dX5_goes_36 ?_
        refine mo_goto (pc := 37) (tgt := 41) X dX5_goes_37 (by decide) ?_
        refine mo_zret (pc := 41) X Y rfl ?_ dX5_goes_41 ⟨rfl, rfl, _, rfl, ?_⟩
        · omega
        exact ⟨_, rfl, by omega⟩
  · skip
    refine mo_iconst (pc := 5) X dX5_goes_5 ?_
    refine mo_goto (pc := 6) (tgt := 26) X dX5_goes_6 (by decide) ?_
    refine mo_p_X5_37 (pc := 26) X dX5_goes_26 (mo_Md_o hm) ?_
    refine mo_al0 (pc := 29) X dX5_goes_29 ?_
    refine mo_f_X5_37 (pc := 30) X dX5_goes_30 (mo_Md_o hm) ?_
    rw [mo_ur_s, mo_up_s]
    refine mo_if_ne (pc := 33) (tgt := 40) X dX5_goes_33 (by decide) ?_ (fun c_33 => ?_) (fun c_33 => ?_)
    · omega
    · skip
      refine mo_iconst (pc := 40) X dX5_goes_40 ?_
      refine mo_zret (pc := 41) X Y rfl ?_ dX5_goes_41 ⟨rfl, rfl, _, rfl, ?_⟩
      · omega
      exact ⟨_, rfl, by omega⟩
    · skip
      refine mo_iconst (pc := 36) X dX5_goes_36 ?_
      refine mo_goto (pc := 37) (tgt := 41) X dX5_goes_37 (by decide) ?_
      refine mo_zret (pc := 41) X Y rfl ?_ dX5_goes_41 ⟨rfl, rfl, _, rfl, ?_⟩
      · omega
      exact ⟨_, rfl, by omega⟩
set_option maxHeartbeats 4000000 in
set_option maxRecDepth 100000 in
theorem ct5_has {lf : Launch} {ρf : mo_E} {G : mo_G} {M : mo_M} {t : Nat} {a b : Int} : mo_Ct lf ρf yX5_has cX5_has 2 (some .boolean) 0 0 0 [mo_iv a, mo_iv b] G M t (mo_pi G t (fun x M' => ((x = 1 ∧ (mo_hb a b = true)) ∨ (x = 0 ∧ ¬ (mo_hb a b = true))) ∧ M = M')) := by
  refine mo_ofW (ls0 := [some (mo_iv a), some (mo_iv b)]) (by decide) rfl (Nat.le_of_ble_eq_true rfl) ?_
  intro κ X Y
  have X : mo_Cx κ lf ρf cX5_has 2 RX5 (some .boolean) 0 := X
  refine mo_il0 (pc := 0) X dX5_has_0 ?_
  refine mo_il1 (pc := 1) X dX5_has_1 ?_
  refine mo_ishr (pc := 2) X dX5_has_2 ?_
  refine mo_iconst (pc := 3) X dX5_has_3 ?_
  refine mo_iand (pc := 4) X dX5_has_4 ?_
  refine mo_iconst (pc := 5) X dX5_has_5 ?_
  refine mo_ic_ne (pc := 6) (tgt := 13) X dX5_has_6 (by decide) ?_ ?_ (fun c_6 => ?_) (fun c_6 => ?_)
  · exact mo_andIn _ _
  · omega
  · skip
    refine mo_iconst (pc := 13) X dX5_has_13 ?_
    refine mo_zret (pc := 14) X Y rfl ?_ dX5_has_14 ⟨rfl, rfl, _, rfl, ?_⟩
    · omega
    refine ⟨?_, rfl⟩
    first | exact Or.inl ⟨rfl, by simpa [mo_hb] using c_6⟩ | exact Or.inr ⟨rfl, by simpa [mo_hb] using c_6⟩
  · skip
    refine mo_iconst (pc := 9) X dX5_has_9 ?_
    refine mo_goto (pc := 10) (tgt := 14) X dX5_has_10 (by decide) ?_
    refine mo_zret (pc := 14) X Y rfl ?_ dX5_has_14 ⟨rfl, rfl, _, rfl, ?_⟩
    · omega
    refine ⟨?_, rfl⟩
    first | exact Or.inl ⟨rfl, by simpa [mo_hb] using c_6⟩ | exact Or.inr ⟨rfl, by simpa [mo_hb] using c_6⟩
set_option maxHeartbeats 4000000 in
set_option maxRecDepth 100000 in
theorem ct5_isOrder {lf : Launch} {ρf : mo_E} {G : mo_G} {M : mo_M} {t : Nat} {m : Nat} (hm : mo_Md G m) {a : Int} (ha : mo_In a) (hg : mo_In (M (m + 1) 4)) : mo_Ct lf ρf yX5_isOrder cX5_isOrder 2 (some .boolean) 1 0 0 [.ref m, mo_iv a] G M t (mo_pi G t (fun x M' => ((x = 1 ∧ (0 ≤ a ∧ a < M (m + 1) 4)) ∨ (x = 0 ∧ ¬ (0 ≤ a ∧ a < M (m + 1) 4))) ∧ M = M')) := by
  refine mo_ofW (ls0 := [some (.ref m), some (mo_iv a)]) (by decide) rfl (Nat.le_of_ble_eq_true rfl) ?_
  intro κ X Y
  have X : mo_Cx κ lf ρf cX5_isOrder 2 RX5 (some .boolean) 1 := X
  refine mo_il1 (pc := 0) X dX5_isOrder_0 ?_
  refine mo_i2l (pc := 1) X dX5_isOrder_1 ?_ ?_
  · omega
  refine mo_lconst (pc := 2) (z := 0) X dX5_isOrder_2 (by decide) ?_
  refine mo_al0 (pc := 3) X dX5_isOrder_3 ?_
  refine mo_f_X5_7 (pc := 4) X dX5_isOrder_4 (mo_Md_o hm) (mo_Md_p0 hm) ?_
  refine mo_iconst (pc := 7) X dX5_isOrder_7 ?_
  refine mo_iald (pc := 8) (j := 4) X dX5_isOrder_8 (mo_Md_r0 hm) (by omega) ?_ ?_ rfl ?_
  · omega
  · omega
  have hg : mo_In (M (m + 1) 4) := hg
  refine mo_i2l (pc := 9) X dX5_isOrder_9 ?_ ?_
  · exact hg
  refine mo_lconst (pc := 10) (z := 1) X dX5_isOrder_10 (by decide) ?_
  refine mo_lsub (pc := 11) X dX5_isOrder_11 ?_
  refine mo_cSI (pc := 12) (As := [_, _, _]) X mo_k_X5_44 mo_y_yX5_in dX5_isOrder_12 (ct5_in (by omega) (by omega) (by have hg : mo_In (M (m + 1) 4) := hg; show mo_Jn (M (m + 1) 4 - 1); omega)) rfl (by decide) (by decide) (Nat.le_of_ble_eq_true rfl) ?_
  rintro r_12 _ ⟨h_12, rfl⟩
  refine mo_zret (pc := 15) X Y rfl ?_ dX5_isOrder_15 ⟨rfl, rfl, _, rfl, ?_⟩
  · omega
  refine ⟨?_, rfl⟩
  have h_12 : _ := h_12
  omega
set_option maxHeartbeats 4000000 in
set_option maxRecDepth 100000 in
theorem ct5_isEscort {lf : Launch} {ρf : mo_E} {G : mo_G} {M : mo_M} {t : Nat} {m : Nat} (hm : mo_Md G m) {a : Int} (ha : mo_In a) (hg : mo_In (M (m + 1) 5)) : mo_Ct lf ρf yX5_isEscort cX5_isEscort 2 (some .boolean) 1 0 0 [.ref m, mo_iv a] G M t (mo_pi G t (fun x M' => ((x = 1 ∧ (0 ≤ a ∧ a < M (m + 1) 5)) ∨ (x = 0 ∧ ¬ (0 ≤ a ∧ a < M (m + 1) 5))) ∧ M = M')) := by
  refine mo_ofW (ls0 := [some (.ref m), some (mo_iv a)]) (by decide) rfl (Nat.le_of_ble_eq_true rfl) ?_
  intro κ X Y
  have X : mo_Cx κ lf ρf cX5_isEscort 2 RX5 (some .boolean) 1 := X
  refine mo_il1 (pc := 0) X dX5_isEscort_0 ?_
  refine mo_i2l (pc := 1) X dX5_isEscort_1 ?_ ?_
  · omega
  refine mo_lconst (pc := 2) (z := 0) X dX5_isEscort_2 (by decide) ?_
  refine mo_al0 (pc := 3) X dX5_isEscort_3 ?_
  refine mo_f_X5_7 (pc := 4) X dX5_isEscort_4 (mo_Md_o hm) (mo_Md_p0 hm) ?_
  refine mo_iconst (pc := 7) X dX5_isEscort_7 ?_
  refine mo_iald (pc := 8) (j := 5) X dX5_isEscort_8 (mo_Md_r0 hm) (by omega) ?_ ?_ rfl ?_
  · omega
  · omega
  have hg : mo_In (M (m + 1) 5) := hg
  refine mo_i2l (pc := 9) X dX5_isEscort_9 ?_ ?_
  · exact hg
  refine mo_lconst (pc := 10) (z := 1) X dX5_isEscort_10 (by decide) ?_
  refine mo_lsub (pc := 11) X dX5_isEscort_11 ?_
  refine mo_cSI (pc := 12) (As := [_, _, _]) X mo_k_X5_44 mo_y_yX5_in dX5_isEscort_12 (ct5_in (by omega) (by omega) (by have hg : mo_In (M (m + 1) 5) := hg; show mo_Jn (M (m + 1) 5 - 1); omega)) rfl (by decide) (by decide) (Nat.le_of_ble_eq_true rfl) ?_
  rintro r_12 _ ⟨h_12, rfl⟩
  refine mo_zret (pc := 15) X Y rfl ?_ dX5_isEscort_15 ⟨rfl, rfl, _, rfl, ?_⟩
  · omega
  refine ⟨?_, rfl⟩
  have h_12 : _ := h_12
  omega
set_option maxHeartbeats 4000000 in
set_option maxRecDepth 100000 in
theorem ct5_isVenue {lf : Launch} {ρf : mo_E} {G : mo_G} {M : mo_M} {t : Nat} {m : Nat} (hm : mo_Md G m) {a : Int} (ha : mo_In a) (hg : mo_In (M (m + 1) 6)) : mo_Ct lf ρf yX5_isVenue cX5_isVenue 2 (some .boolean) 1 0 0 [.ref m, mo_iv a] G M t (mo_pi G t (fun x M' => ((x = 1 ∧ (0 ≤ a ∧ a < M (m + 1) 6)) ∨ (x = 0 ∧ ¬ (0 ≤ a ∧ a < M (m + 1) 6))) ∧ M = M')) := by
  refine mo_ofW (ls0 := [some (.ref m), some (mo_iv a)]) (by decide) rfl (Nat.le_of_ble_eq_true rfl) ?_
  intro κ X Y
  have X : mo_Cx κ lf ρf cX5_isVenue 2 RX5 (some .boolean) 1 := X
  refine mo_il1 (pc := 0) X dX5_isVenue_0 ?_
  refine mo_i2l (pc := 1) X dX5_isVenue_1 ?_ ?_
  · omega
  refine mo_lconst (pc := 2) (z := 0) X dX5_isVenue_2 (by decide) ?_
  refine mo_al0 (pc := 3) X dX5_isVenue_3 ?_
  refine mo_f_X5_7 (pc := 4) X dX5_isVenue_4 (mo_Md_o hm) (mo_Md_p0 hm) ?_
  refine mo_bipush (pc := 7) X dX5_isVenue_7 (by decide) ?_
  refine mo_iald (pc := 9) (j := 6) X dX5_isVenue_9 (mo_Md_r0 hm) (by omega) ?_ ?_ rfl ?_
  · omega
  · omega
  have hg : mo_In (M (m + 1) 6) := hg
  refine mo_i2l (pc := 10) X dX5_isVenue_10 ?_ ?_
  · exact hg
  refine mo_lconst (pc := 11) (z := 1) X dX5_isVenue_11 (by decide) ?_
  refine mo_lsub (pc := 12) X dX5_isVenue_12 ?_
  refine mo_cSI (pc := 13) (As := [_, _, _]) X mo_k_X5_44 mo_y_yX5_in dX5_isVenue_13 (ct5_in (by omega) (by omega) (by have hg : mo_In (M (m + 1) 6) := hg; show mo_Jn (M (m + 1) 6 - 1); omega)) rfl (by decide) (by decide) (Nat.le_of_ble_eq_true rfl) ?_
  rintro r_13 _ ⟨h_13, rfl⟩
  refine mo_zret (pc := 16) X Y rfl ?_ dX5_isVenue_16 ⟨rfl, rfl, _, rfl, ?_⟩
  · omega
  refine ⟨?_, rfl⟩
  have h_13 : _ := h_13
  omega
set_option maxHeartbeats 4000000 in
set_option maxRecDepth 100000 in
theorem ct5_isWeek {lf : Launch} {ρf : mo_E} {G : mo_G} {M : mo_M} {t : Nat} {a : Int} (ha : mo_In a) : mo_Ct lf ρf yX5_isWeek cX5_isWeek 1 (some .boolean) 1 0 0 [mo_iv a] G M t (mo_pi G t (fun x M' => ((x = 1 ∧ (0 ≤ a ∧ a ≤ 19)) ∨ (x = 0 ∧ ¬ (0 ≤ a ∧ a ≤ 19))) ∧ M = M')) := by
  refine mo_ofW (ls0 := [some (mo_iv a)]) (by decide) rfl (Nat.le_of_ble_eq_true rfl) ?_
  intro κ X Y
  have X : mo_Cx κ lf ρf cX5_isWeek 1 RX5 (some .boolean) 1 := X
  refine mo_il0 (pc := 0) X dX5_isWeek_0 ?_
  refine mo_i2l (pc := 1) X dX5_isWeek_1 ?_ ?_
  · omega
  refine mo_lconst (pc := 2) (z := 0) X dX5_isWeek_2 (by decide) ?_
  refine mo_ldc2 (pc := 3) (v := 19) X dX5_isWeek_3 mo_wk_X5_48 ?_
  refine mo_cSI (pc := 6) (As := [_, _, _]) X mo_k_X5_44 mo_y_yX5_in dX5_isWeek_6 (ct5_in (by omega) (by omega) (by omega)) rfl (by decide) (by decide) (Nat.le_of_ble_eq_true rfl) ?_
  rintro r_6 _ ⟨h_6, rfl⟩
  refine mo_zret (pc := 9) X Y rfl ?_ dX5_isWeek_9 ⟨rfl, rfl, _, rfl, ?_⟩
  · omega
  exact ⟨h_6, rfl⟩
set_option maxHeartbeats 4000000 in
set_option maxRecDepth 100000 in
theorem ct5_isSlot {lf : Launch} {ρf : mo_E} {G : mo_G} {M : mo_M} {t : Nat} {a : Int} (ha : mo_In a) : mo_Ct lf ρf yX5_isSlot cX5_isSlot 1 (some .boolean) 1 0 0 [mo_iv a] G M t (mo_pi G t (fun x M' => ((x = 1 ∧ (0 ≤ a ∧ a ≤ 27)) ∨ (x = 0 ∧ ¬ (0 ≤ a ∧ a ≤ 27))) ∧ M = M')) := by
  refine mo_ofW (ls0 := [some (mo_iv a)]) (by decide) rfl (Nat.le_of_ble_eq_true rfl) ?_
  intro κ X Y
  have X : mo_Cx κ lf ρf cX5_isSlot 1 RX5 (some .boolean) 1 := X
  refine mo_il0 (pc := 0) X dX5_isSlot_0 ?_
  refine mo_i2l (pc := 1) X dX5_isSlot_1 ?_ ?_
  · omega
  refine mo_lconst (pc := 2) (z := 0) X dX5_isSlot_2 (by decide) ?_
  refine mo_ldc2 (pc := 3) (v := 27) X dX5_isSlot_3 mo_wk_X5_50 ?_
  refine mo_cSI (pc := 6) (As := [_, _, _]) X mo_k_X5_44 mo_y_yX5_in dX5_isSlot_6 (ct5_in (by omega) (by omega) (by omega)) rfl (by decide) (by decide) (Nat.le_of_ble_eq_true rfl) ?_
  rintro r_6 _ ⟨h_6, rfl⟩
  refine mo_zret (pc := 9) X Y rfl ?_ dX5_isSlot_9 ⟨rfl, rfl, _, rfl, ?_⟩
  · omega
  exact ⟨h_6, rfl⟩
set_option maxHeartbeats 4000000 in
set_option maxRecDepth 100000 in
theorem ct5_areVenues {lf : Launch} {ρf : mo_E} {G : mo_G} {M : mo_M} {t : Nat} {m : Nat} (hm : mo_Md G m) {a : Int} (ha : mo_In a) (hg : 0 ≤ M (m + 1) 6 ∧ M (m + 1) 6 ≤ 5) : mo_Ct lf ρf yX5_areVenues cX5_areVenues 2 (some .boolean) 1 0 0 [.ref m, mo_iv a] G M t (mo_pi G t (fun x M' => ((x = 1 ∧ (0 ≤ a ∧ a < 2 ^ (M (m + 1) 6).toNat)) ∨ (x = 0 ∧ ¬ (0 ≤ a ∧ a < 2 ^ (M (m + 1) 6).toNat))) ∧ M = M')) := by
  refine mo_ofW (ls0 := [some (.ref m), some (mo_iv a)]) (by decide) rfl (Nat.le_of_ble_eq_true rfl) ?_
  intro κ X Y
  have X : mo_Cx κ lf ρf cX5_areVenues 2 RX5 (some .boolean) 1 := X
  have hp := (mo_pow5 (M (m + 1) 6).toNat (by omega)).1
  rw [show (((M (m + 1) 6).toNat : Nat) : Int) = M (m + 1) 6 by omega] at hp
  have hq : (2 : Int) ^ (M (m + 1) 6).toNat ≤ 2 ^ 5 := by
    have h9 : (2 : Nat) ^ (M (m + 1) 6).toNat ≤ 2 ^ 5 := Nat.pow_le_pow_right (by omega) (by omega)
    exact_mod_cast h9
  have hq0 : (0 : Int) ≤ 2 ^ (M (m + 1) 6).toNat := by
    have h9 : 0 ≤ (2 : Nat) ^ (M (m + 1) 6).toNat := Nat.zero_le _
    exact_mod_cast h9
  refine mo_il1 (pc := 0) X dX5_areVenues_0 ?_
  refine mo_i2l (pc := 1) X dX5_areVenues_1 ?_ ?_
  · omega
  refine mo_lconst (pc := 2) (z := 0) X dX5_areVenues_2 (by decide) ?_
  refine mo_lconst (pc := 3) (z := 1) X dX5_areVenues_3 (by decide) ?_
  refine mo_al0 (pc := 4) X dX5_areVenues_4 ?_
  refine mo_f_X5_7 (pc := 5) X dX5_areVenues_5 (mo_Md_o hm) (mo_Md_p0 hm) ?_
  refine mo_bipush (pc := 8) X dX5_areVenues_8 (by decide) ?_
  refine mo_iald (pc := 10) (j := 6) X dX5_areVenues_10 (mo_Md_r0 hm) (by omega) ?_ ?_ rfl ?_
  · omega
  · omega
  refine mo_lsh (pc := 11) X dX5_areVenues_11 ?_
  refine mo_lconst (pc := 12) (z := 1) X dX5_areVenues_12 (by decide) ?_
  refine mo_lsub (pc := 13) X dX5_areVenues_13 ?_
  refine mo_cSI (pc := 14) (As := [_, _, _]) X mo_k_X5_44 mo_y_yX5_in dX5_areVenues_14 (ct5_in (by omega) (by omega) (by show mo_Jn (mo_lshl 1 (M (m + 1) 6) - 1); rw [hp]; omega)) rfl (by decide) (by decide) (Nat.le_of_ble_eq_true rfl) ?_
  rintro r_14 _ ⟨h_14, rfl⟩
  refine mo_zret (pc := 17) X Y rfl ?_ dX5_areVenues_17 ⟨rfl, rfl, _, rfl, ?_⟩
  · omega
  refine ⟨?_, rfl⟩
  have h_14 : (r_14 = 1 ∧ (0 ≤ a ∧ a ≤ mo_lshl 1 (M (m + 1) 6) - 1)) ∨ (r_14 = 0 ∧ ¬ (0 ≤ a ∧ a ≤ mo_lshl 1 (M (m + 1) 6) - 1)) := h_14
  rw [hp] at h_14
  omega
set_option maxHeartbeats 4000000 in
set_option maxRecDepth 100000 in
theorem ct5_of {lf : Launch} {ρf : mo_E} {G : mo_G} {M : mo_M} {t : Nat} {m : Nat} (hm : mo_Md G m) {k j : Nat} (hk : 215 + 7 * k + j < 640) : mo_Ct lf ρf yX5_of cX5_of 3 (some .int) 0 0 0 [.ref m, mo_iv k, mo_iv j] G M t (mo_pi G t (fun x M' => x = mo_fld (M (m + 1)) k j ∧ M = M')) := by
  refine mo_ofW (ls0 := [some (.ref m), some (mo_iv k), some (mo_iv j)]) (by decide) rfl (Nat.le_of_ble_eq_true rfl) ?_
  intro κ X Y
  have X : mo_Cx κ lf ρf cX5_of 3 RX5 (some .int) 0 := X
  refine mo_al0 (pc := 0) X dX5_of_0 ?_
  refine mo_f_X5_7 (pc := 1) X dX5_of_1 (mo_Md_o hm) (mo_Md_p0 hm) ?_
  refine mo_sipush (pc := 4) X dX5_of_4 (by decide) ?_
  refine mo_bipush (pc := 7) X dX5_of_7 (by decide) ?_
  refine mo_il1 (pc := 9) X dX5_of_9 ?_
  refine mo_imul (pc := 10) X dX5_of_10 ?_
  refine mo_iadd (pc := 11) X dX5_of_11 ?_
  refine mo_il2 (pc := 12) X dX5_of_12 ?_
  refine mo_iadd (pc := 13) X dX5_of_13 ?_
  refine mo_iald (pc := 14) (j := 215 + 7 * k + j) X dX5_of_14 (mo_Md_r0 hm) (by omega) ?_ ?_ (by omega) ?_
  · omega
  · omega
  refine mo_iret (pc := 15) X Y rfl dX5_of_15 ⟨rfl, rfl, _, rfl, ?_⟩
  exact ⟨rfl, rfl⟩
theorem mo_nk_lt {g : Nat → Int} {k : Nat} (h0 : 0 ≤ g 7) : k < mo_nk g ↔ (k : Int) < g 7 := by
  unfold mo_nk
  omega
set_option maxHeartbeats 4000000 in
set_option maxRecDepth 100000 in
theorem ct5_placeOf {lf : Launch} {ρf : mo_E} {G : mo_G} {M : mo_M} {t : Nat} {m : Nat} (hm : mo_Md G m) {B p : Int} (hI : mo_Iv (M (m + 1)) B) (hB : B ≤ 1000000000) (hp : mo_In p) : mo_Ct lf ρf yX5_placeOf cX5_placeOf 3 (some .int) 1 0 0 [.ref m, mo_iv p] G M t (mo_pi G t (fun x M' => x = mo_ff (fun k => decide (mo_fld (M (m + 1)) k 0 = p)) (mo_nk (M (m + 1))) ∧ M = M')) := by
  refine mo_ofW (ls0 := [some (.ref m), some (mo_iv p), none]) (by decide) rfl (Nat.le_of_ble_eq_true rfl) ?_
  intro κ X Y
  have X : mo_Cx κ lf ρf cX5_placeOf 3 RX5 (some .int) 1 := X
  obtain ⟨hI0, hI1, hI2, hI3, hI4, hI5, hI6, hI7, hIh, hIa, hIe, hIm, hIs, hIl, hIw, hIr, hIt, hIs2, hIs3, hIz⟩ := id hI
  have hn : ((mo_nk (M (m + 1)) : Nat) : Int) = M (m + 1) 7 := by unfold mo_nk; omega
  have loop : ∀ (z i : Nat) (x : Int), i + z = mo_nk (M (m + 1)) → x = i → (∀ j, j < i → mo_fld (M (m + 1)) j 0 ≠ p) → mo_V κ 0 0 2 [some (.ref m), some (mo_iv p), some (mo_iv x)] [] G M t := by
    intro z
    induction z with
    | zero =>
      intro i x hi hx hj
      subst hx
      refine mo_il2 (pc := 2) X dX5_placeOf_2 ?_
      refine mo_al0 (pc := 3) X dX5_placeOf_3 ?_
      refine mo_f_X5_7 (pc := 4) X dX5_placeOf_4 (mo_Md_o hm) (mo_Md_p0 hm) ?_
      refine mo_bipush (pc := 7) X dX5_placeOf_7 (by decide) ?_
      refine mo_iald (pc := 9) (j := 7) X dX5_placeOf_9 (mo_Md_r0 hm) (by omega) ?_ ?_ rfl ?_
      · omega
      · omega
      refine mo_ic_ge (pc := 10) (tgt := 31) X dX5_placeOf_10 (by decide) ?_ ?_ (fun c_10 => ?_) (fun c_10 => ?_)
      · omega
      · show mo_In (M (m + 1) 7)
        omega
      · skip
        refine mo_iconst (pc := 31) X dX5_placeOf_31 ?_
        refine mo_iret (pc := 32) X Y rfl dX5_placeOf_32 ⟨rfl, rfl, _, rfl, ?_⟩
        refine ⟨?_, rfl⟩
        rw [mo_ff_none]
        intro j hj2
        have h9 := hj j (by omega)
        simpa using h9
      · exfalso
        have c_10 : (i : Int) < M (m + 1) 7 := c_10
        omega
    | succ z ih =>
      intro i x hi hx hj
      subst hx
      have hmt := hIt i (by omega)
      unfold mo_Mt at hmt
      refine mo_il2 (pc := 2) X dX5_placeOf_2 ?_
      refine mo_al0 (pc := 3) X dX5_placeOf_3 ?_
      refine mo_f_X5_7 (pc := 4) X dX5_placeOf_4 (mo_Md_o hm) (mo_Md_p0 hm) ?_
      refine mo_bipush (pc := 7) X dX5_placeOf_7 (by decide) ?_
      refine mo_iald (pc := 9) (j := 7) X dX5_placeOf_9 (mo_Md_r0 hm) (by omega) ?_ ?_ rfl ?_
      · omega
      · omega
      refine mo_ic_ge (pc := 10) (tgt := 31) X dX5_placeOf_10 (by decide) ?_ ?_ (fun c_10 => ?_) (fun c_10 => ?_)
      · omega
      · show mo_In (M (m + 1) 7)
        omega
      · exfalso
        have c_10 : M (m + 1) 7 ≤ (i : Int) := c_10
        omega
      · skip
        refine mo_al0 (pc := 13) X dX5_placeOf_13 ?_
        refine mo_il2 (pc := 14) X dX5_placeOf_14 ?_
        refine mo_iconst (pc := 15) X dX5_placeOf_15 ?_
        refine mo_cVI (pc := 16) (As := [_, _]) X mo_k_X5_89 mo_y_yX5_of rfl dX5_placeOf_16 (ct5_of (k := i) (j := 0) hm (by omega)) (mo_Md_o hm) rfl (by decide) (by decide) (Nat.le_of_ble_eq_true rfl) ?_
        rintro r_16 _ ⟨h_16, rfl⟩
        refine mo_il1 (pc := 19) X dX5_placeOf_19 ?_
        refine mo_ic_ne (pc := 20) (tgt := 25) X dX5_placeOf_20 (by decide) ?_ ?_ (fun c_20 => ?_) (fun c_20 => ?_)
        · omega
        · omega
        · skip
          refine mo_ii2 (pc := 25) X dX5_placeOf_25 rfl (by decide) ?_
          refine mo_goto (pc := 28) (tgt := 2) X dX5_placeOf_28 (by decide) ?_
          exact ih (i + 1) _ (by omega) (by omega) (fun j hj2 => by
            by_cases e : j = i
            · rw [e, ← h_16]; exact c_20
            · exact hj j (by omega))
        · skip
          refine mo_il2 (pc := 23) X dX5_placeOf_23 ?_
          refine mo_iret (pc := 24) X Y rfl dX5_placeOf_24 ⟨rfl, rfl, _, rfl, ?_⟩
          refine ⟨?_, rfl⟩
          rw [mo_ff_at (i := i) (by omega)]
          · intro j hj2
            simpa using hj j hj2
          · simpa [← h_16] using c_20
  refine mo_iconst (pc := 0) X dX5_placeOf_0 ?_
  refine mo_is2 (pc := 1) X dX5_placeOf_1 rfl (by decide) ?_
  exact loop _ 0 0 (Nat.zero_add _) rfl (fun j hj => absurd hj (by omega))
set_option maxHeartbeats 4000000 in
set_option maxRecDepth 100000 in
theorem ct5_stands {lf : Launch} {ρf : mo_E} {G : mo_G} {M : mo_M} {t : Nat} {m : Nat} (hm : mo_Md G m) {B w : Int} {k : Nat} (hI : mo_Iv (M (m + 1)) B) (hB : B ≤ 1000000000) (hk : (k : Int) < M (m + 1) 7) (hw : mo_In w) : mo_Ct lf ρf yX5_stands cX5_stands 3 (some .boolean) 1 0 0 [.ref m, mo_iv k, mo_iv w] G M t (mo_pi G t (fun x M' => ((x = 1 ∧ (mo_std (M (m + 1)) w k = true)) ∨ (x = 0 ∧ ¬ (mo_std (M (m + 1)) w k = true))) ∧ M = M')) := by
  refine mo_ofW (ls0 := [some (.ref m), some (mo_iv k), some (mo_iv w)]) (by decide) rfl (Nat.le_of_ble_eq_true rfl) ?_
  intro κ X Y
  have X : mo_Cx κ lf ρf cX5_stands 3 RX5 (some .boolean) 1 := X
  obtain ⟨hI0, hI1, hI2, hI3, hI4, hI5, hI6, hI7, hIh, hIa, hIe, hIm, hIs, hIl, hIw, hIr, hIt, hIs2, hIs3, hIz⟩ := id hI
  have hmt := hIt k hk
  unfold mo_Mt at hmt
  refine mo_al0 (pc := 0) X dX5_stands_0 ?_
  refine mo_il1 (pc := 1) X dX5_stands_1 ?_
  refine mo_iconst (pc := 2) X dX5_stands_2 ?_
  refine mo_cVI (pc := 3) (As := [_, _]) X mo_k_X5_89 mo_y_yX5_of rfl dX5_stands_3 (ct5_of (k := k) (j := 2) hm (by omega)) (mo_Md_o hm) rfl (by decide) (by decide) (Nat.le_of_ble_eq_true rfl) ?_
  rintro r_3 _ ⟨h_3, rfl⟩
  refine mo_il2 (pc := 6) X dX5_stands_6 ?_
  refine mo_ic_ne (pc := 7) (tgt := 25) X dX5_stands_7 (by decide) ?_ ?_ (fun c_7 => ?_) (fun c_7 => ?_)
  · omega
  · omega
  · skip
    refine mo_iconst (pc := 25) X dX5_stands_25 ?_
    refine mo_zret (pc := 26) X Y rfl ?_ dX5_stands_26 ⟨rfl, rfl, _, rfl, ?_⟩
    · omega
    refine ⟨?_, rfl⟩
    first
      | exact Or.inl ⟨rfl, by simp only [mo_std, decide_eq_true_eq]; omega⟩
      | exact Or.inr ⟨rfl, by simp only [mo_std, decide_eq_true_eq]; omega⟩
  · skip
    refine mo_al0 (pc := 10) X dX5_stands_10 ?_
    refine mo_il1 (pc := 11) X dX5_stands_11 ?_
    refine mo_bipush (pc := 12) X dX5_stands_12 (by decide) ?_
    refine mo_cVI (pc := 14) (As := [_, _]) X mo_k_X5_89 mo_y_yX5_of rfl dX5_stands_14 (ct5_of (k := k) (j := 6) hm (by omega)) (mo_Md_o hm) rfl (by decide) (by decide) (Nat.le_of_ble_eq_true rfl) ?_
    rintro r_14 _ ⟨h_14, rfl⟩
    refine mo_iconst (pc := 17) X dX5_stands_17 ?_
    refine mo_ic_eq (pc := 18) (tgt := 25) X dX5_stands_18 (by decide) ?_ ?_ (fun c_18 => ?_) (fun c_18 => ?_)
    · omega
    · omega
    · skip
      refine mo_iconst (pc := 25) X dX5_stands_25 ?_
      refine mo_zret (pc := 26) X Y rfl ?_ dX5_stands_26 ⟨rfl, rfl, _, rfl, ?_⟩
      · omega
      refine ⟨?_, rfl⟩
      first
        | exact Or.inl ⟨rfl, by simp only [mo_std, decide_eq_true_eq]; omega⟩
        | exact Or.inr ⟨rfl, by simp only [mo_std, decide_eq_true_eq]; omega⟩
    · skip
      refine mo_iconst (pc := 21) X dX5_stands_21 ?_
      refine mo_goto (pc := 22) (tgt := 26) X dX5_stands_22 (by decide) ?_
      refine mo_zret (pc := 26) X Y rfl ?_ dX5_stands_26 ⟨rfl, rfl, _, rfl, ?_⟩
      · omega
      refine ⟨?_, rfl⟩
      first
        | exact Or.inl ⟨rfl, by simp only [mo_std, decide_eq_true_eq]; omega⟩
        | exact Or.inr ⟨rfl, by simp only [mo_std, decide_eq_true_eq]; omega⟩
set_option maxHeartbeats 4000000 in
set_option maxRecDepth 100000 in
theorem ct5_owes {lf : Launch} {ρf : mo_E} {G : mo_G} {M : mo_M} {t : Nat} {m : Nat} (hm : mo_Md G m) {B : Int} {o w : Nat} (hI : mo_Iv (M (m + 1)) B) (hB : B ≤ 1000000000) (ho : o < 8) (hw : w < 20) : mo_Ct lf ρf yX5_owes cX5_owes 5 (some .int) 1 0 0 [.ref m, mo_iv o, mo_iv w] G M t (mo_pi G t (fun x M' => x = mo_ow (M (m + 1)) o w ∧ M = M')) := by
  refine mo_ofW (ls0 := [some (.ref m), some (mo_iv o), some (mo_iv w), none, none]) (by decide) rfl (Nat.le_of_ble_eq_true rfl) ?_
  intro κ X Y
  have X : mo_Cx κ lf ρf cX5_owes 5 RX5 (some .int) 1 := X
  obtain ⟨hI0, hI1, hI2, hI3, hI4, hI5, hI6, hI7, hIh, hIa, hIe, hIm, hIs, hIl, hIw, hIr, hIt, hIs2, hIs3, hIz⟩ := id hI
  have hn : ((mo_nk (M (m + 1)) : Nat) : Int) = M (m + 1) 7 := by unfold mo_nk; omega
  have hEo := hIe o ho
  have hHs : ∀ i, i ≤ 20 → 0 ≤ mo_hsum (M (m + 1)) o i ∧ mo_hsum (M (m + 1)) o i ≤ i * 7 := by
    intro i hi
    refine mo_sum_le (c := 7) (fun j hj => ?_)
    have h9 := hIh (20 * o + j) (by omega)
    rw [show 8 + (20 * o + j) = 8 + 20 * o + j by omega] at h9
    exact h9
  have hHw := hHs (w + 1) (by omega)
  have lp2 : ∀ (z i : Nat) (s x : Int), i + z = mo_nk (M (m + 1)) → x = i → s = -(M (m + 1) (176 + o)) + mo_hsum (M (m + 1)) o (w + 1) - mo_cnt (mo_plb (M (m + 1)) o w) i → mo_V κ 0 0 48 [some (.ref m), some (mo_iv o), some (mo_iv w), some (mo_iv s), some (mo_iv x)] [] G M t := by
    intro z
    induction z with
    | zero =>
      intro i s x hi hx hs
      subst hx
      have hc := mo_cnt_le (mo_plb (M (m + 1)) o w) i
      have he : mo_ow (M (m + 1)) o w = if s < 0 then 0 else s := by
        unfold mo_ow
        rw [show mo_nk (M (m + 1)) = i by omega, ← hs]
      refine mo_il4 (pc := 48) X dX5_owes_48 ?_
      refine mo_al0 (pc := 50) X dX5_owes_50 ?_
      refine mo_f_X5_7 (pc := 51) X dX5_owes_51 (mo_Md_o hm) (mo_Md_p0 hm) ?_
      refine mo_bipush (pc := 54) X dX5_owes_54 (by decide) ?_
      refine mo_iald (pc := 56) (j := 7) X dX5_owes_56 (mo_Md_r0 hm) (by omega) ?_ ?_ rfl ?_
      · omega
      · omega
      refine mo_ic_ge (pc := 57) (tgt := 107) X dX5_owes_57 (by decide) ?_ ?_ (fun c_57 => ?_) (fun c_57 => ?_)
      · omega
      · show mo_In (M (m + 1) 7)
        omega
      · skip
        refine mo_il3 (pc := 107) X dX5_owes_107 ?_
        refine mo_if_ge (pc := 108) (tgt := 115) X dX5_owes_108 (by decide) ?_ (fun c_108 => ?_) (fun c_108 => ?_)
        · omega
        · skip
          refine mo_il3 (pc := 115) X dX5_owes_115 ?_
          refine mo_iret (pc := 116) X Y rfl dX5_owes_116 ⟨rfl, rfl, _, rfl, ?_⟩
          refine ⟨?_, rfl⟩
          rw [he]
          split <;> omega
        · skip
          refine mo_iconst (pc := 111) X dX5_owes_111 ?_
          refine mo_goto (pc := 112) (tgt := 116) X dX5_owes_112 (by decide) ?_
          refine mo_iret (pc := 116) X Y rfl dX5_owes_116 ⟨rfl, rfl, _, rfl, ?_⟩
          refine ⟨?_, rfl⟩
          rw [he]
          split <;> omega
      · exfalso
        have c_57 : (i : Int) < M (m + 1) 7 := c_57
        omega
    | succ z ih =>
      intro i s x hi hx hs
      subst hx
      have hc := mo_cnt_le (mo_plb (M (m + 1)) o w) i
      have hmt := hIt i (by omega)
      unfold mo_Mt at hmt
      have hstep : mo_cnt (mo_plb (M (m + 1)) o w) (i + 1) = mo_cnt (mo_plb (M (m + 1)) o w) i + (if mo_fld (M (m + 1)) i 1 = (o : Int) ∧ mo_fld (M (m + 1)) i 6 = 0 ∧ mo_fld (M (m + 1)) i 2 ≤ (w : Int) then 1 else 0) := by
        rw [mo_cnt]
        simp only [mo_plb, decide_eq_true_eq]
      refine mo_il4 (pc := 48) X dX5_owes_48 ?_
      refine mo_al0 (pc := 50) X dX5_owes_50 ?_
      refine mo_f_X5_7 (pc := 51) X dX5_owes_51 (mo_Md_o hm) (mo_Md_p0 hm) ?_
      refine mo_bipush (pc := 54) X dX5_owes_54 (by decide) ?_
      refine mo_iald (pc := 56) (j := 7) X dX5_owes_56 (mo_Md_r0 hm) (by omega) ?_ ?_ rfl ?_
      · omega
      · omega
      refine mo_ic_ge (pc := 57) (tgt := 107) X dX5_owes_57 (by decide) ?_ ?_ (fun c_57 => ?_) (fun c_57 => ?_)
      · omega
      · show mo_In (M (m + 1) 7)
        omega
      · exfalso
        have c_57 : M (m + 1) 7 ≤ (i : Int) := c_57
        omega
      · skip
        refine mo_il3 (pc := 60) X dX5_owes_60 ?_
        refine mo_al0 (pc := 61) X dX5_owes_61 ?_
        refine mo_il4 (pc := 62) X dX5_owes_62 ?_
        refine mo_iconst (pc := 64) X dX5_owes_64 ?_
        refine mo_cVI (pc := 65) (As := [_, _]) X mo_k_X5_89 mo_y_yX5_of rfl dX5_owes_65 (ct5_of (k := i) (j := 1) hm (by omega)) (mo_Md_o hm) rfl (by decide) (by decide) (Nat.le_of_ble_eq_true rfl) ?_
        rintro r_65 _ ⟨h_65, rfl⟩
        refine mo_il1 (pc := 68) X dX5_owes_68 ?_
        refine mo_ic_ne (pc := 69) (tgt := 98) X dX5_owes_69 (by decide) ?_ ?_ (fun c_69 => ?_) (fun c_69 => ?_)
        · omega
        · omega
        · skip
          refine mo_iconst (pc := 98) X dX5_owes_98 ?_
          refine mo_isub (pc := 99) X dX5_owes_99 ?_
          refine mo_is3 (pc := 100) X dX5_owes_100 rfl (by decide) ?_
          refine mo_ii4 (pc := 101) X dX5_owes_101 rfl (by decide) ?_
          refine mo_goto (pc := 104) (tgt := 48) X dX5_owes_104 (by decide) ?_
          refine ih (i + 1) _ _ (by omega) (by omega) ?_
          rw [hstep]
          split <;> omega
        · skip
          refine mo_al0 (pc := 72) X dX5_owes_72 ?_
          refine mo_il4 (pc := 73) X dX5_owes_73 ?_
          refine mo_bipush (pc := 75) X dX5_owes_75 (by decide) ?_
          refine mo_cVI (pc := 77) (As := [_, _]) X mo_k_X5_89 mo_y_yX5_of rfl dX5_owes_77 (ct5_of (k := i) (j := 6) hm (by omega)) (mo_Md_o hm) rfl (by decide) (by decide) (Nat.le_of_ble_eq_true rfl) ?_
          rintro r_77 _ ⟨h_77, rfl⟩
          refine mo_if_ne (pc := 80) (tgt := 98) X dX5_owes_80 (by decide) ?_ (fun c_80 => ?_) (fun c_80 => ?_)
          · omega
          · skip
            refine mo_iconst (pc := 98) X dX5_owes_98 ?_
            refine mo_isub (pc := 99) X dX5_owes_99 ?_
            refine mo_is3 (pc := 100) X dX5_owes_100 rfl (by decide) ?_
            refine mo_ii4 (pc := 101) X dX5_owes_101 rfl (by decide) ?_
            refine mo_goto (pc := 104) (tgt := 48) X dX5_owes_104 (by decide) ?_
            refine ih (i + 1) _ _ (by omega) (by omega) ?_
            rw [hstep]
            split <;> omega
          · skip
            refine mo_al0 (pc := 83) X dX5_owes_83 ?_
            refine mo_il4 (pc := 84) X dX5_owes_84 ?_
            refine mo_iconst (pc := 86) X dX5_owes_86 ?_
            refine mo_cVI (pc := 87) (As := [_, _]) X mo_k_X5_89 mo_y_yX5_of rfl dX5_owes_87 (ct5_of (k := i) (j := 2) hm (by omega)) (mo_Md_o hm) rfl (by decide) (by decide) (Nat.le_of_ble_eq_true rfl) ?_
            rintro r_87 _ ⟨h_87, rfl⟩
            refine mo_il2 (pc := 90) X dX5_owes_90 ?_
            refine mo_ic_gt (pc := 91) (tgt := 98) X dX5_owes_91 (by decide) ?_ ?_ (fun c_91 => ?_) (fun c_91 => ?_)
            · omega
            · omega
            · skip
              refine mo_iconst (pc := 98) X dX5_owes_98 ?_
              refine mo_isub (pc := 99) X dX5_owes_99 ?_
              refine mo_is3 (pc := 100) X dX5_owes_100 rfl (by decide) ?_
              refine mo_ii4 (pc := 101) X dX5_owes_101 rfl (by decide) ?_
              refine mo_goto (pc := 104) (tgt := 48) X dX5_owes_104 (by decide) ?_
              refine ih (i + 1) _ _ (by omega) (by omega) ?_
              rw [hstep]
              split <;> omega
            · skip
              refine mo_iconst (pc := 94) X dX5_owes_94 ?_
              refine mo_goto (pc := 95) (tgt := 99) X dX5_owes_95 (by decide) ?_
              refine mo_isub (pc := 99) X dX5_owes_99 ?_
              refine mo_is3 (pc := 100) X dX5_owes_100 rfl (by decide) ?_
              refine mo_ii4 (pc := 101) X dX5_owes_101 rfl (by decide) ?_
              refine mo_goto (pc := 104) (tgt := 48) X dX5_owes_104 (by decide) ?_
              refine ih (i + 1) _ _ (by omega) (by omega) ?_
              rw [hstep]
              split <;> omega
  have lp1 : ∀ (z i : Nat) (s x : Int), i + z = w + 1 → x = i → s = -(M (m + 1) (176 + o)) + mo_hsum (M (m + 1)) o i → mo_V κ 0 0 15 [some (.ref m), some (mo_iv o), some (mo_iv w), some (mo_iv s), some (mo_iv x)] [] G M t := by
    intro z
    induction z with
    | zero =>
      intro i s x hi hx hs
      subst hx
      refine mo_il4 (pc := 15) X dX5_owes_15 ?_
      refine mo_il2 (pc := 17) X dX5_owes_17 ?_
      refine mo_ic_gt (pc := 18) (tgt := 45) X dX5_owes_18 (by decide) ?_ ?_ (fun c_18 => ?_) (fun c_18 => ?_)
      · omega
      · omega
      · skip
        refine mo_iconst (pc := 45) X dX5_owes_45 ?_
        refine mo_is4 (pc := 46) X dX5_owes_46 rfl (by decide) ?_
        exact lp2 _ 0 _ 0 (Nat.zero_add _) rfl (by rw [hs, show i = w + 1 by omega, mo_cnt]; omega)
      · exfalso
        omega
    | succ z ih =>
      intro i s x hi hx hs
      subst hx
      refine mo_il4 (pc := 15) X dX5_owes_15 ?_
      refine mo_il2 (pc := 17) X dX5_owes_17 ?_
      refine mo_ic_gt (pc := 18) (tgt := 45) X dX5_owes_18 (by decide) ?_ ?_ (fun c_18 => ?_) (fun c_18 => ?_)
      · omega
      · omega
      · exfalso
        omega
      · skip
        refine mo_il3 (pc := 21) X dX5_owes_21 ?_
        refine mo_al0 (pc := 22) X dX5_owes_22 ?_
        refine mo_f_X5_7 (pc := 23) X dX5_owes_23 (mo_Md_o hm) (mo_Md_p0 hm) ?_
        refine mo_bipush (pc := 26) X dX5_owes_26 (by decide) ?_
        refine mo_bipush (pc := 28) X dX5_owes_28 (by decide) ?_
        refine mo_il1 (pc := 30) X dX5_owes_30 ?_
        refine mo_imul (pc := 31) X dX5_owes_31 ?_
        refine mo_iadd (pc := 32) X dX5_owes_32 ?_
        refine mo_il4 (pc := 33) X dX5_owes_33 ?_
        refine mo_iadd (pc := 35) X dX5_owes_35 ?_
        refine mo_iald (pc := 36) (j := 8 + 20 * o + i) X dX5_owes_36 (mo_Md_r0 hm) (by omega) ?_ ?_ (by omega) ?_
        · omega
        · omega
        refine mo_iadd (pc := 37) X dX5_owes_37 ?_
        refine mo_is3 (pc := 38) X dX5_owes_38 rfl (by decide) ?_
        refine mo_ii4 (pc := 39) X dX5_owes_39 rfl (by decide) ?_
        refine mo_goto (pc := 42) (tgt := 15) X dX5_owes_42 (by decide) ?_
        refine ih (i + 1) _ _ (by omega) (by omega) ?_
        rw [hs, show mo_hsum (M (m + 1)) o (i + 1) = mo_hsum (M (m + 1)) o i + M (m + 1) (8 + 20 * o + i) from rfl]
        omega
  refine mo_al0 (pc := 0) X dX5_owes_0 ?_
  refine mo_f_X5_7 (pc := 1) X dX5_owes_1 (mo_Md_o hm) (mo_Md_p0 hm) ?_
  refine mo_sipush (pc := 4) X dX5_owes_4 (by decide) ?_
  refine mo_il1 (pc := 7) X dX5_owes_7 ?_
  refine mo_iadd (pc := 8) X dX5_owes_8 ?_
  refine mo_iald (pc := 9) (j := 176 + o) X dX5_owes_9 (mo_Md_r0 hm) (by omega) ?_ ?_ (by omega) ?_
  · omega
  · omega
  refine mo_ineg (pc := 10) X dX5_owes_10 ?_
  refine mo_is3 (pc := 11) X dX5_owes_11 rfl (by decide) ?_
  refine mo_iconst (pc := 12) X dX5_owes_12 ?_
  refine mo_is4 (pc := 13) X dX5_owes_13 rfl (by decide) ?_
  exact lp1 _ 0 _ 0 (Nat.zero_add _) rfl (by simp [mo_hsum, mo_sum])
theorem mo_ow_le {g : Nat → Int} {B : Int} {o w : Nat} (hI : mo_Iv g B) (ho : o < 8) (hw : w < 20) : 0 ≤ mo_ow g o w ∧ mo_ow g o w ≤ 140 := by
  obtain ⟨hI0, hI1, hI2, hI3, hI4, hI5, hI6, hI7, hIh, hIa, hIe, hIm, hIs, hIl, hIw, hIr, hIt, hIs2, hIs3, hIz⟩ := hI
  have hEo := hIe o ho
  have hHs : 0 ≤ mo_hsum g o (w + 1) ∧ mo_hsum g o (w + 1) ≤ ((w + 1 : Nat) : Int) * 7 := by
    refine mo_sum_le (c := 7) (fun j hj => ?_)
    have h9 := hIh (20 * o + j) (by omega)
    rw [show 8 + (20 * o + j) = 8 + 20 * o + j by omega] at h9
    exact h9
  have hc := mo_cnt_le (mo_plb g o w) (mo_nk g)
  unfold mo_ow
  split <;> omega
set_option maxHeartbeats 4000000 in
set_option maxRecDepth 100000 in
theorem ct5_owedByAll {lf : Launch} {ρf : mo_E} {G : mo_G} {M : mo_M} {t : Nat} {m : Nat} (hm : mo_Md G m) {B : Int} {w : Nat} (hI : mo_Iv (M (m + 1)) B) (hB : B ≤ 1000000000) (hw : w < 20) : mo_Ct lf ρf yX5_owedByAll cX5_owedByAll 4 (some .int) 2 0 0 [.ref m, mo_iv w] G M t (mo_pi G t (fun x M' => x = mo_owa (M (m + 1)) w ∧ M = M')) := by
  refine mo_ofW (ls0 := [some (.ref m), some (mo_iv w), none, none]) (by decide) rfl (Nat.le_of_ble_eq_true rfl) ?_
  intro κ X Y
  have X : mo_Cx κ lf ρf cX5_owedByAll 4 RX5 (some .int) 2 := X
  obtain ⟨hI0, hI1, hI2, hI3, hI4, hI5, hI6, hI7, hIh, hIa, hIe, hIm, hIs, hIl, hIw, hIr, hIt, hIs2, hIs3, hIz⟩ := id hI
  have loop : ∀ (z i : Nat) (s x : Int), i + z = (M (m + 1) 4).toNat → x = i → s = mo_sum (fun o => mo_ow (M (m + 1)) o w) i → mo_V κ 0 0 4 [some (.ref m), some (mo_iv w), some (mo_iv s), some (mo_iv x)] [] G M t := by
    intro z
    induction z with
    | zero =>
      intro i s x hi hx hs
      subst hx
      refine mo_il3 (pc := 4) X dX5_owedByAll_4 ?_
      refine mo_al0 (pc := 5) X dX5_owedByAll_5 ?_
      refine mo_f_X5_7 (pc := 6) X dX5_owedByAll_6 (mo_Md_o hm) (mo_Md_p0 hm) ?_
      refine mo_iconst (pc := 9) X dX5_owedByAll_9 ?_
      refine mo_iald (pc := 10) (j := 4) X dX5_owedByAll_10 (mo_Md_r0 hm) (by omega) ?_ ?_ rfl ?_
      · omega
      · omega
      refine mo_ic_ge (pc := 11) (tgt := 29) X dX5_owedByAll_11 (by decide) ?_ ?_ (fun c_11 => ?_) (fun c_11 => ?_)
      · omega
      · show mo_In (M (m + 1) 4)
        omega
      · skip
        refine mo_il2 (pc := 29) X dX5_owedByAll_29 ?_
        refine mo_iret (pc := 30) X Y rfl dX5_owedByAll_30 ⟨rfl, rfl, _, rfl, ?_⟩
        refine ⟨?_, rfl⟩
        unfold mo_owa
        rw [hs, show (M (m + 1) 4).toNat = i by omega]
      · exfalso
        have c_11 : (i : Int) < M (m + 1) 4 := c_11
        omega
    | succ z ih =>
      intro i s x hi hx hs
      subst hx
      refine mo_il3 (pc := 4) X dX5_owedByAll_4 ?_
      refine mo_al0 (pc := 5) X dX5_owedByAll_5 ?_
      refine mo_f_X5_7 (pc := 6) X dX5_owedByAll_6 (mo_Md_o hm) (mo_Md_p0 hm) ?_
      refine mo_iconst (pc := 9) X dX5_owedByAll_9 ?_
      refine mo_iald (pc := 10) (j := 4) X dX5_owedByAll_10 (mo_Md_r0 hm) (by omega) ?_ ?_ rfl ?_
      · omega
      · omega
      refine mo_ic_ge (pc := 11) (tgt := 29) X dX5_owedByAll_11 (by decide) ?_ ?_ (fun c_11 => ?_) (fun c_11 => ?_)
      · omega
      · show mo_In (M (m + 1) 4)
        omega
      · exfalso
        have c_11 : M (m + 1) 4 ≤ (i : Int) := c_11
        omega
      · skip
        refine mo_il2 (pc := 14) X dX5_owedByAll_14 ?_
        refine mo_al0 (pc := 15) X dX5_owedByAll_15 ?_
        refine mo_il3 (pc := 16) X dX5_owedByAll_16 ?_
        refine mo_il1 (pc := 17) X dX5_owedByAll_17 ?_
        refine mo_cVI (pc := 18) (As := [_, _]) X mo_k_X5_126 mo_y_yX5_owes rfl dX5_owedByAll_18 (ct5_owes (o := i) (w := w) hm hI hB (by omega) hw) (mo_Md_o hm) rfl (by decide) (by decide) (Nat.le_of_ble_eq_true rfl) ?_
        rintro r_18 _ ⟨h_18, rfl⟩
        refine mo_iadd (pc := 21) X dX5_owedByAll_21 ?_
        refine mo_is2 (pc := 22) X dX5_owedByAll_22 rfl (by decide) ?_
        refine mo_ii3 (pc := 23) X dX5_owedByAll_23 rfl (by decide) ?_
        refine mo_goto (pc := 26) (tgt := 4) X dX5_owedByAll_26 (by decide) ?_
        exact ih (i + 1) _ _ (by omega) (by omega) (by rw [hs, h_18]; rfl)
  refine mo_iconst (pc := 0) X dX5_owedByAll_0 ?_
  refine mo_is2 (pc := 1) X dX5_owedByAll_1 rfl (by decide) ?_
  refine mo_iconst (pc := 2) X dX5_owedByAll_2 ?_
  refine mo_is3 (pc := 3) X dX5_owedByAll_3 rfl (by decide) ?_
  exact loop _ 0 0 0 (Nat.zero_add _) rfl rfl
