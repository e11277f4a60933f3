theorem mo_Iv_CH {g : Nat → Int} {B : Int} {o w : Nat} {v : Int} (h : mo_Iv g B) (ho : (o : Int) < g 4) (hv : 0 ≤ v ∧ v ≤ 7) : mo_Iv (mo_gCH g o w v) B := by
  obtain ⟨hI0, hI1, hI2, hI3, hI4, hI5, hI6, hI7, hIh, hIa, hIe, hIm, hIs, hIl, hIw, hIr, hIt, hIs2, hIs3, hIz⟩ := h
  have lo : ∀ j, j < 8 ∨ 168 ≤ j → mo_gCH g o w v j = g j := fun j hj => by unfold mo_gCH; rw [if_neg (by omega)]
  refine ⟨?_, ?_, ?_, ?_, ?_, ?_, ?_, ?_, fun j hj => ?_, fun j hj => ?_, fun j hj => ?_, fun j hj => ?_, fun j hj => ?_, fun j hj => ?_, fun j hj => ?_, fun j hj => ?_, fun k hk2 => ?_, ?_, ?_, fun a b h1 h2 h3 => ?_⟩
  · rw [lo 0 (by omega)]; exact hI0
  · rw [lo 1 (by omega)]; exact hI1
  · rw [lo 2 (by omega)]; exact hI2
  · rw [lo 3 (by omega)]; exact hI3
  · rw [lo 4 (by omega)]; exact hI4
  · rw [lo 5 (by omega)]; exact hI5
  · rw [lo 6 (by omega)]; exact hI6
  · rw [lo 7 (by omega)]; exact hI7
  · unfold mo_gCH
    split
    · exact hv
    · exact hIh j hj
  · rw [lo _ (by omega)]; exact hIa j hj
  · rw [lo _ (by omega)]; exact hIe j hj
  · rw [lo _ (by omega)]; exact hIm j hj
  · rw [lo _ (by omega)]; exact hIs j hj
  · rw [lo _ (by omega)]; exact hIl j hj
  · rw [lo _ (by omega)]; exact hIw j hj
  · rw [lo _ (by omega)]; exact hIr j hj
  · rw [lo 7 (by omega)] at hk2
    have h9 := hIt k hk2
    unfold mo_Mt mo_fld at h9 ⊢
    rw [lo 4 (by omega), lo 5 (by omega), lo 6 (by omega), lo _ (by omega), lo _ (by omega), lo _ (by omega), lo _ (by omega), lo _ (by omega), lo _ (by omega), lo _ (by omega)]
    exact h9
  · rw [lo 2 (by omega), ← hIs2]
    exact mo_sum_congr fun j hj => lo _ (by omega)
  · rw [lo 3 (by omega), ← hIs3]
    exact mo_sum_congr fun j hj => lo _ (by omega)
  · rw [lo 4 (by omega)] at h1
    unfold mo_gCH
    rw [if_neg (by omega)]
    exact hIz a b h1 h2 h3
theorem mo_dx_Iv {g : Nat → Int} {B k H : Int} {N W : Nat} (hI : mo_Iv g B) (hW : k = 112 → W < 20) : mo_Iv (mo_dx g k N W H).2 (B + 61) := by
  have h0 := hI.1
  unfold mo_dx
  split
  · split
    · rename_i c
      exact mo_Iv_mono (mo_Iv_CH hI c.1 c.2.2) (by omega)
    · exact mo_Iv_mono hI (by omega)
  · split
    · rename_i c
      split
      · exact mo_Iv_mono hI (by omega)
      · exact mo_Iv_mono (mo_pl_Iv (hW c) 61 hI).1 (by omega)
    · split
      · split
        · exact mo_Iv_mono hI (by omega)
        · exact mo_Iv_mono (mo_e_b hI (by omega)).1 (by omega)
      · split
        · rename_i c
          rcases mo_ff_cases (fun j => decide (mo_fld g j 0 = (N : Int))) (mo_nk g) with ⟨e1, e2⟩ | ⟨i, e1, e2, e3, e4⟩
          · exact absurd e1 c.1
          · have h7 := hI.2.2.2.2.2.2.2.1
            have hi : (i : Int) < g 7 := by unfold mo_nk at e1; omega
            simp only [e2, Int.toNat_natCast]
            split
            · exact mo_Iv_mono (mo_Iv_hd hI hi) (by omega)
            · exact mo_Iv_mono (mo_Iv_ms hI hi) (by omega)
        · exact mo_Iv_mono hI (by omega)
def mo_do (b : Nat → Int) (p : Nat) (g : Nat → Int) : Bool × (Nat → Int) := mo_dx g (b p) (mo_oN b p).toNat (mo_oW b p).toNat (mo_oH b p)
/-- the orders from the i-th on are carried out one by one -/
def mo_run (b : Nat → Int) (n : Nat) : Nat → Nat → (Nat → Int) → Int × (Nat → Int)
  | 0, i, g => ((i : Int), g)
  | z + 1, i, g => if mo_os b i < n ∧ (mo_do b (mo_os b i) g).1 = true then mo_run b n z (i + 1) (mo_do b (mo_os b i) g).2 else ((i : Int), g)
theorem mo_dx_no {g : Nat → Int} {k H : Int} {N W : Nat} (h : ¬ ((mo_dx g k N W H).1 = true)) : (mo_dx g k N W H).2 = g := by
  revert h
  unfold mo_dx
  split
  · split
    · exact fun h => absurd rfl h
    · exact fun _ => rfl
  · split
    · split
      · exact fun _ => rfl
      · exact fun h => absurd rfl h
    · split
      · split
        · exact fun _ => rfl
        · exact fun h => absurd rfl h
      · split
        · exact fun h => absurd rfl h
        · exact fun _ => rfl
/-- the numbers of an order that stands -/
theorem mo_ok_v {b : Nat → Int} {p : Nat} (h : mo_okp b p = true) : (b p = 99 ∨ b p = 112 ∨ b p = 104 ∨ b p = 109 ∨ b p = 119) ∧ (b p = 99 → (0 ≤ mo_oN b p ∧ mo_oN b p ≤ 7) ∧ (0 ≤ mo_oW b p ∧ mo_oW b p ≤ 19) ∧ (0 ≤ mo_oH b p ∧ mo_oH b p ≤ 7)) ∧ (b p = 104 ∨ b p = 109 → 0 ≤ mo_oN b p ∧ mo_oN b p ≤ 99) ∧ (b p = 112 → 0 ≤ mo_oW b p ∧ mo_oW b p ≤ 19) := by
  unfold mo_okp at h
  rw [Bool.and_eq_true] at h
  obtain ⟨h1, h2⟩ := h
  have hnum : ∀ q hi, mo_nok b q hi = true → 0 ≤ mo_nvl b q ∧ mo_nvl b q ≤ hi := fun q hi hq => by
    have h3 := mo_nok_c hq
    unfold mo_nok at hq
    rw [Bool.and_eq_true, Bool.and_eq_true, decide_eq_true_eq] at hq
    refine ⟨?_, hq.2.2⟩
    unfold mo_nvl mo_dg
    split
    · rename_i c; rw [decide_eq_true_eq] at c; omega
    · omega
  unfold mo_ltr at h1
  rw [decide_eq_true_eq] at h1
  refine ⟨h1, fun k99 => ?_, fun kh => ?_, fun kp => ?_⟩
  · unfold mo_pt at h2
    rw [if_pos k99] at h2
    by_cases c1 : mo_dok b (p + 1) = true
    · rw [if_pos c1] at h2
      by_cases c2 : mo_nok b (p + 2) 19 = true
      · rw [if_pos c2] at h2
        by_cases c3 : b (mo_ne b (p + 2)) = 58
        · rw [if_pos c3] at h2
          by_cases c4 : mo_dok b (mo_ne b (p + 2) + 1) = true
          · have e1 := mo_dok_c c1
            have e2 := hnum _ _ c2
            have e4 := mo_dok_c c4
            unfold mo_oN mo_oW mo_oH
            rw [if_pos k99, if_pos k99]
            omega
          · rw [if_neg c4] at h2; exact Bool.noConfusion h2
        · rw [if_neg c3] at h2; exact Bool.noConfusion h2
      · rw [if_neg c2] at h2; exact Bool.noConfusion h2
    · rw [if_neg c1] at h2; exact Bool.noConfusion h2
  · unfold mo_pt at h2
    rw [if_neg (by omega), if_neg (by omega), if_pos kh] at h2
    by_cases c : mo_nok b (p + 1) 99 = true
    · unfold mo_oN
      rw [if_neg (by omega)]
      exact hnum _ _ c
    · rw [if_neg c] at h2; exact Bool.noConfusion h2
  · unfold mo_pt at h2
    rw [if_neg (by omega), if_pos kp] at h2
    by_cases c : mo_nok b (p + 1) 19 = true
    · unfold mo_oW
      rw [if_neg (by omega)]
      exact hnum _ _ c
    · rw [if_neg c] at h2; exact Bool.noConfusion h2
theorem mo_rd_b {b : Nat → Int} {n : Nat} (hb : ∀ q, b q ≠ -1 → q < n) : ∀ {k : Nat}, mo_rd b n k → 2 * k ≤ mo_os b k ∧ mo_os b k ≤ n
  | 0, _ => ⟨Nat.le_refl _, Nat.zero_le _⟩
  | k + 1, h => by
    have h1 := mo_rd_b hb (k := k) (fun i hi => h i (by omega))
    obtain ⟨h2, h3⟩ := h k (by omega)
    obtain ⟨q1, q2, q3⟩ := mo_oe_b h3
    have q4 := hb _ (show b (mo_oq b (mo_os b k)) ≠ -1 by rw [q3]; decide)
    rw [show mo_os b (k + 1) = mo_oe b (mo_os b k) from rfl]
    omega
set_option maxHeartbeats 4000000 in
set_option maxRecDepth 100000 in
theorem ct5_append {lf : Launch} {ρf : mo_E} {G : mo_G} {M : mo_M} {t : Nat} {m : Nat} (hm : mo_Md G m) {n : Nat} {v : Int} (hn : n ≤ 100) (h10 : M m 10 = n) (hv : mo_In v) : mo_Ct lf ρf yX5_append cX5_append 2 (some .int) 1 0 0 [.ref m, mo_iv v] G M t (mo_pi G t (fun x M' => (¬ (0 ≤ v ∧ v ≤ 127) ∧ x = 0 ∧ mo_Qr M M' m 1) ∨ ((0 ≤ v ∧ v ≤ 127) ∧ ¬ (n < 100) ∧ x = 0 ∧ mo_Qr M M' m 2) ∨ ((0 ≤ v ∧ v ≤ 127) ∧ n < 100 ∧ x = (n : Int) + 1 ∧ M' m 4 = 0 ∧ M' m 2 = M m 2 ∧ M' m 10 = (n : Int) + 1 ∧ M' (m + 8) = va_up (M (m + 8)) n v ∧ ∀ a, a ≠ m → a ≠ m + 8 → M' a = M a))) := by
  refine mo_ofW (ls0 := [some (.ref m), some (mo_iv v)]) (by decide) rfl (Nat.le_of_ble_eq_true rfl) ?_
  intro κ X Y
  have X : mo_Cx κ lf ρf cX5_append 2 RX5 (some .int) 1 := X
  refine mo_al0 (pc := 0) X dX5_append_0 ?_
  refine mo_il1 (pc := 1) X dX5_append_1 ?_
  refine mo_i2l (pc := 2) X dX5_append_2 ?_ ?_
  · omega
  refine mo_lconst (pc := 3) (z := 0) X dX5_append_3 (by decide) ?_
  refine mo_ldc2 (pc := 4) (v := 127) X dX5_append_4 mo_wk_X5_209 ?_
  refine mo_cSI (pc := 7) (As := [_, _, _]) X mo_k_X5_44 mo_y_yX5_in dX5_append_7 (ct5_in (by omega) (by omega) (by omega)) rfl (by decide) (by decide) (Nat.le_of_ble_eq_true rfl) ?_
  rintro r_7 _ ⟨h_7, rfl⟩
  refine mo_al0 (pc := 10) X dX5_append_10 ?_
  refine mo_f_X5_211 (pc := 11) X dX5_append_11 (mo_Md_o hm) ?_
  rw [h10]
  refine mo_bipush (pc := 14) X dX5_append_14 (by decide) ?_
  refine mo_ic_ge (pc := 16) (tgt := 23) X dX5_append_16 (by decide) ?_ ?_ (fun c_16 => ?_) (fun c_16 => ?_)
  · omega
  · omega
  · skip
    refine mo_iconst (pc := 23) X dX5_append_23 ?_
    refine mo_iconst (pc := 24) X dX5_append_24 ?_
    refine mo_cVI (pc := 25) (As := [_, _, _]) X mo_k_X5_58 mo_y_yX5_goes rfl dX5_append_25 (ct5_goes hm (by omega) (by omega) (by omega)) (mo_Md_o hm) rfl (by decide) (by decide) (Nat.le_of_ble_eq_true rfl) ?_
    rintro r_25 M_25 ⟨T_25, hT_25, h_25⟩
    have e10 : M_25 m 10 = n := by rw [hT_25, mo_ur_s, mo_up_n (by omega), h10]
    refine mo_if_ne (pc := 28) (tgt := 33) X dX5_append_28 (by decide) ?_ (fun c_28 => ?_) (fun c_28 => ?_)
    · omega
    · skip
      exfalso
      omega
    · skip
      refine mo_iconst (pc := 31) X dX5_append_31 ?_
      refine mo_iret (pc := 32) X Y rfl dX5_append_32 ⟨rfl, rfl, _, rfl, ?_⟩
      rcases h_25 with q | q | q | q
      all_goals
        first
          | exact Or.inl ⟨by omega, rfl, mo_Qr_go hT_25 (by omega)⟩
          | exact Or.inr (Or.inl ⟨by omega, by omega, rfl, mo_Qr_go hT_25 (by omega)⟩)
          | (exfalso; omega)
  · skip
    refine mo_iconst (pc := 19) X dX5_append_19 ?_
    refine mo_goto (pc := 20) (tgt := 24) X dX5_append_20 (by decide) ?_
    refine mo_iconst (pc := 24) X dX5_append_24 ?_
    refine mo_cVI (pc := 25) (As := [_, _, _]) X mo_k_X5_58 mo_y_yX5_goes rfl dX5_append_25 (ct5_goes hm (by omega) (by omega) (by omega)) (mo_Md_o hm) rfl (by decide) (by decide) (Nat.le_of_ble_eq_true rfl) ?_
    rintro r_25 M_25 ⟨T_25, hT_25, h_25⟩
    have e10 : M_25 m 10 = n := by rw [hT_25, mo_ur_s, mo_up_n (by omega), h10]
    refine mo_if_ne (pc := 28) (tgt := 33) X dX5_append_28 (by decide) ?_ (fun c_28 => ?_) (fun c_28 => ?_)
    · omega
    · skip
      refine mo_al0 (pc := 33) X dX5_append_33 ?_
      refine mo_f_X5_31 (pc := 34) X dX5_append_34 (mo_Md_o hm) (mo_Md_p9 hm) ?_
      refine mo_al0 (pc := 37) X dX5_append_37 ?_
      refine mo_f_X5_211 (pc := 38) X dX5_append_38 (mo_Md_o hm) ?_
      rw [e10]
      refine mo_il1 (pc := 41) X dX5_append_41 ?_
      refine mo_iast (pc := 42) (j := n) X dX5_append_42 (mo_Md_r9 hm) (by omega) ?_ ?_ (by omega) ?_
      · omega
      · omega
      refine mo_al0 (pc := 43) X dX5_append_43 ?_
      refine mo_dup (pc := 44) X dX5_append_44 rfl ?_
      refine mo_f_X5_211 (pc := 45) X dX5_append_45 (mo_Md_o hm) ?_
      rw [mo_ur_n (by omega), e10]
      refine mo_iconst (pc := 48) X dX5_append_48 ?_
      refine mo_iadd (pc := 49) X dX5_append_49 ?_
      refine mo_p_X5_211 (pc := 50) X dX5_append_50 (mo_Md_o hm) ?_
      refine mo_al0 (pc := 53) X dX5_append_53 ?_
      refine mo_f_X5_211 (pc := 54) X dX5_append_54 (mo_Md_o hm) ?_
      rw [mo_ur_s, mo_up_s]
      refine mo_iret (pc := 57) X Y rfl dX5_append_57 ⟨rfl, rfl, _, rfl, ?_⟩
      refine Or.inr (Or.inr ⟨by omega, by omega, rfl, ?_, ?_, ?_, ?_, fun a h1 h2 => ?_⟩)
      · rw [mo_ur_s, mo_up_n (by omega), mo_ur_n (by omega), hT_25, mo_ur_s, mo_up_s]; omega
      · rw [mo_ur_s, mo_up_n (by omega), mo_ur_n (by omega), hT_25, mo_ur_s, mo_up_n (by omega)]
      · rw [mo_ur_s, mo_up_s]
      · rw [mo_ur_n (by omega), mo_ur_s, hT_25, mo_ur_n (by omega)]
      · rw [mo_ur_n h1, mo_ur_n h2, hT_25, mo_ur_n h1]
    · skip
      refine mo_iconst (pc := 31) X dX5_append_31 ?_
      refine mo_iret (pc := 32) X Y rfl dX5_append_32 ⟨rfl, rfl, _, rfl, ?_⟩
      rcases h_25 with q | q | q | q
      all_goals
        first
          | exact Or.inl ⟨by omega, rfl, mo_Qr_go hT_25 (by omega)⟩
          | exact Or.inr (Or.inl ⟨by omega, by omega, rfl, mo_Qr_go hT_25 (by omega)⟩)
          | (exfalso; omega)
set_option maxHeartbeats 4000000 in
set_option maxRecDepth 100000 in
theorem ct5_clearText {lf : Launch} {ρf : mo_E} {G : mo_G} {M : mo_M} {t : Nat} {m : Nat} (hm : mo_Md G m) {n : Nat} (h10 : M m 10 = n) : mo_Ct lf ρf yX5_clearText cX5_clearText 2 (some .int) 0 0 0 [.ref m] G M t (mo_pi G t (fun x M' => x = n ∧ M' = mo_ur M m (va_up (va_up (M m) 4 0) 10 0))) := by
  refine mo_ofW (ls0 := [some (.ref m), none]) (by decide) rfl (Nat.le_of_ble_eq_true rfl) ?_
  intro κ X Y
  have X : mo_Cx κ lf ρf cX5_clearText 2 RX5 (some .int) 0 := X
  refine mo_al0 (pc := 0) X dX5_clearText_0 ?_
  refine mo_iconst (pc := 1) X dX5_clearText_1 ?_
  refine mo_p_X5_37 (pc := 2) X dX5_clearText_2 (mo_Md_o hm) ?_
  refine mo_al0 (pc := 5) X dX5_clearText_5 ?_
  refine mo_f_X5_211 (pc := 6) X dX5_clearText_6 (mo_Md_o hm) ?_
  rw [mo_ur_s, mo_up_n (by omega), h10]
  refine mo_is1 (pc := 9) X dX5_clearText_9 rfl (by decide) ?_
  refine mo_al0 (pc := 10) X dX5_clearText_10 ?_
  refine mo_iconst (pc := 11) X dX5_clearText_11 ?_
  refine mo_p_X5_211 (pc := 12) X dX5_clearText_12 (mo_Md_o hm) ?_
  rw [mo_ur_s, mo_ur_ur]
  refine mo_il1 (pc := 15) X dX5_clearText_15 ?_
  refine mo_iret (pc := 16) X Y rfl dX5_clearText_16 ⟨rfl, rfl, _, rfl, ?_⟩
  exact ⟨rfl, rfl⟩
