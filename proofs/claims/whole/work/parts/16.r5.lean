set_option maxHeartbeats 4000000 in
set_option maxRecDepth 100000 in
theorem ct5_holdsAll {lf : Launch} {ρf : mo_E} {G : mo_G} {M : mo_M} {t : Nat} {m : Nat} (hm : mo_Md G m) {B : Int} (hI : mo_Iv (M (m + 1)) B) (hB : B ≤ 900000000) : mo_Ct lf ρf yX5_holdsAll cX5_holdsAll 2 none 2 0 0 [.ref m] G M t (mo_pv G t (fun M' => M' = mo_ur M (m + 1) (mo_hw (M (m + 1)) (mo_nk (M (m + 1)))))) := by
  refine mo_ofW (ls0 := [some (.ref m), none]) (by decide) rfl (Nat.le_of_ble_eq_true rfl) ?_
  intro κ X Y
  have X : mo_Cx κ lf ρf cX5_holdsAll 2 RX5 none 2 := X
  obtain ⟨hI0, hI1, hI2, hI3, hI4, hI5, hI6, hI7, hIh, hIa, hIe, hIm, hIs, hIl, hIw, hIr, hIt, hIs2, hIs3, hIz⟩ := id hI
  have hn : ((mo_nk (M (m + 1)) : Nat) : Int) = M (m + 1) 7 := by unfold mo_nk; omega
  have lp1 : ∀ (z i : Nat) (x : Int) (g : Nat → Int), i + z = mo_nk (M (m + 1)) → x = i → g = mo_hw (M (m + 1)) i → mo_V κ 0 0 2 [some (.ref m), some (mo_iv x)] [] G (mo_ur M (m + 1) g) t := by
    intro z
    induction z with
    | zero =>
      intro i x g hi hx hg
      subst hx
      obtain ⟨k1, k2, k3⟩ := mo_hw_b hI i (by omega)
      rw [← hg] at k1 k2 k3
      have e1 : (mo_ur M (m + 1) g) (m + 1) = g := mo_ur_s _ _ _
      refine mo_il1 (pc := 2) X dX5_holdsAll_2 ?_
      refine mo_al0 (pc := 3) X dX5_holdsAll_3 ?_
      refine mo_f_X5_7 (pc := 4) X dX5_holdsAll_4 (mo_Md_o hm) (mo_Md_p0 hm) ?_
      refine mo_bipush (pc := 7) X dX5_holdsAll_7 (by decide) ?_
      refine mo_iald (pc := 9) (j := 7) X dX5_holdsAll_9 (mo_Md_r0 hm) (by omega) ?_ ?_ rfl ?_
      · omega
      · omega
      rw [e1]
      refine mo_ic_ge (pc := 10) (tgt := 32) X dX5_holdsAll_10 (by decide) ?_ ?_ (fun c_10 => ?_) (fun c_10 => ?_)
      · omega
      · omega
      · skip
        refine mo_vret (pc := 32) X Y rfl dX5_holdsAll_32 ⟨rfl, rfl, rfl, ?_⟩
        show mo_ur _ _ _ = _
        rw [hg, show i = mo_nk (M (m + 1)) by omega]
      · exfalso
        omega
    | succ z ih =>
      intro i x g hi hx hg
      subst hx
      obtain ⟨k1, k2, k3⟩ := mo_hw_b hI i (by omega)
      rw [← hg] at k1 k2 k3
      have e1 : (mo_ur M (m + 1) g) (m + 1) = g := mo_ur_s _ _ _
      have hu : mo_hw (M (m + 1)) (i + 1) = if mo_op g i = true then mo_hd g i else g := by
        rw [mo_hw, ← hg]
      refine mo_il1 (pc := 2) X dX5_holdsAll_2 ?_
      refine mo_al0 (pc := 3) X dX5_holdsAll_3 ?_
      refine mo_f_X5_7 (pc := 4) X dX5_holdsAll_4 (mo_Md_o hm) (mo_Md_p0 hm) ?_
      refine mo_bipush (pc := 7) X dX5_holdsAll_7 (by decide) ?_
      refine mo_iald (pc := 9) (j := 7) X dX5_holdsAll_9 (mo_Md_r0 hm) (by omega) ?_ ?_ rfl ?_
      · omega
      · omega
      rw [e1]
      refine mo_ic_ge (pc := 10) (tgt := 32) X dX5_holdsAll_10 (by decide) ?_ ?_ (fun c_10 => ?_) (fun c_10 => ?_)
      · omega
      · omega
      · exfalso
        omega
      · skip
        refine mo_al0 (pc := 13) X dX5_holdsAll_13 ?_
        refine mo_il1 (pc := 14) X dX5_holdsAll_14 ?_
        refine mo_cVI (pc := 15) (As := [_]) X mo_k_X5_157 mo_y_yX5_mayTell rfl dX5_holdsAll_15 (ct5_mayTell (B := B + i) (x0 := (i : Int)) hm (by rw [e1]; exact k1) (by omega) (by rw [e1]; omega)) (mo_Md_o hm) rfl (by decide) (by decide) (Nat.le_of_ble_eq_true rfl) ?_
        rintro r_15 _ ⟨h_15, rfl⟩
        rw [e1, Int.toNat_natCast] at h_15
        refine mo_if_eq (pc := 18) (tgt := 26) X dX5_holdsAll_18 (by decide) ?_ (fun c_18 => ?_) (fun c_18 => ?_)
        · omega
        · skip
          refine mo_ii1 (pc := 26) X dX5_holdsAll_26 rfl (by decide) ?_
          refine mo_goto (pc := 29) (tgt := 2) X dX5_holdsAll_29 (by decide) ?_
          first
            | (rw [if_pos (mo_b1 h_15 c_18).2] at hu
               exact ih (i + 1) _ _ (by omega) (by omega) hu.symm)
            | (rw [if_neg (fun q => mo_b0 h_15 c_18 ⟨by omega, q⟩)] at hu
               exact ih (i + 1) _ _ (by omega) (by omega) hu.symm)
        · skip
          refine mo_al0 (pc := 21) X dX5_holdsAll_21 ?_
          refine mo_il1 (pc := 22) X dX5_holdsAll_22 ?_
          refine mo_cVV (pc := 23) (As := [_]) X mo_k_X5_151 mo_y_yX5_holds rfl dX5_holdsAll_23 (ct5_holds (B := B + i) (p := i) hm (by rw [e1]; exact k1) (by omega) (by rw [e1]; omega)) (mo_Md_o hm) rfl (by decide) (by decide) (Nat.le_of_ble_eq_true rfl) ?_
          rintro M_23 h_23
          rw [e1, mo_ur_ur] at h_23
          subst h_23
          refine mo_ii1 (pc := 26) X dX5_holdsAll_26 rfl (by decide) ?_
          refine mo_goto (pc := 29) (tgt := 2) X dX5_holdsAll_29 (by decide) ?_
          first
            | (rw [if_pos (mo_b1 h_15 c_18).2] at hu
               exact ih (i + 1) _ _ (by omega) (by omega) hu.symm)
            | (rw [if_neg (fun q => mo_b0 h_15 c_18 ⟨by omega, q⟩)] at hu
               exact ih (i + 1) _ _ (by omega) (by omega) hu.symm)
  have h0 := lp1 _ 0 0 (M (m + 1)) (Nat.zero_add _) rfl rfl
  rw [mo_ur_id] at h0
  refine mo_iconst (pc := 0) X dX5_holdsAll_0 ?_
  refine mo_is1 (pc := 1) X dX5_holdsAll_1 rfl (by decide) ?_
  exact h0
set_option maxHeartbeats 4000000 in
set_option maxRecDepth 100000 in
theorem ct5_layAside {lf : Launch} {ρf : mo_E} {G : mo_G} {M : mo_M} {t : Nat} {m : Nat} (hm : mo_Md G m) : mo_Ct lf ρf yX5_layAside cX5_layAside 2 none 0 0 0 [.ref m] G M t (mo_pv G t (fun M' => ∃ f, M' = mo_ur M (m + 3) f ∧ mo_ag f (M (m + 1)) ∧ ∀ k, 640 ≤ k → f k = M (m + 3) k)) := by
  refine mo_ofW (ls0 := [some (.ref m), none]) (by decide) rfl (Nat.le_of_ble_eq_true rfl) ?_
  intro κ X Y
  have X : mo_Cx κ lf ρf cX5_layAside 2 RX5 none 0 := X
  have lp1 : ∀ (z i : Nat) (x : Int) (f : Nat → Int), i + z = 640 → x = i → (∀ k, k < i → f k = M (m + 1) k) → (∀ k, 640 ≤ k → f k = M (m + 3) k) → mo_V κ 0 0 2 [some (.ref m), some (mo_iv x)] [] G (mo_ur M (m + 3) f) t := by
    intro z
    induction z with
    | zero =>
      intro i x f hi hx hf hf2
      subst hx
      refine mo_il1 (pc := 2) X dX5_layAside_2 ?_
      refine mo_sipush (pc := 3) X dX5_layAside_3 (by decide) ?_
      refine mo_ic_ge (pc := 6) (tgt := 27) X dX5_layAside_6 (by decide) ?_ ?_ (fun c_6 => ?_) (fun c_6 => ?_)
      · omega
      · omega
      · skip
        refine mo_vret (pc := 27) X Y rfl dX5_layAside_27 ⟨rfl, rfl, rfl, ?_⟩
        exact ⟨f, rfl, fun k hk => hf k (by omega), hf2⟩
      · exfalso
        omega
    | succ z ih =>
      intro i x f hi hx hf hf2
      subst hx
      have e1 : (mo_ur M (m + 3) f) (m + 1) = M (m + 1) := mo_ur_n (by omega)
      refine mo_il1 (pc := 2) X dX5_layAside_2 ?_
      refine mo_sipush (pc := 3) X dX5_layAside_3 (by decide) ?_
      refine mo_ic_ge (pc := 6) (tgt := 27) X dX5_layAside_6 (by decide) ?_ ?_ (fun c_6 => ?_) (fun c_6 => ?_)
      · omega
      · omega
      · exfalso
        omega
      · skip
        refine mo_al0 (pc := 9) X dX5_layAside_9 ?_
        refine mo_f_X5_16 (pc := 10) X dX5_layAside_10 (mo_Md_o hm) (mo_Md_p3 hm) ?_
        refine mo_il1 (pc := 13) X dX5_layAside_13 ?_
        refine mo_al0 (pc := 14) X dX5_layAside_14 ?_
        refine mo_f_X5_7 (pc := 15) X dX5_layAside_15 (mo_Md_o hm) (mo_Md_p0 hm) ?_
        refine mo_il1 (pc := 18) X dX5_layAside_18 ?_
        refine mo_iald (pc := 19) (j := i) X dX5_layAside_19 (mo_Md_r0 hm) (by omega) ?_ ?_ (by omega) ?_
        · omega
        · omega
        rw [e1]
        refine mo_iast (pc := 20) (j := i) X dX5_layAside_20 (mo_Md_r3 hm) (by omega) ?_ ?_ (by omega) ?_
        · omega
        · omega
        try simp only [mo_ur_ur, mo_ur_s]
        refine mo_ii1 (pc := 21) X dX5_layAside_21 rfl (by decide) ?_
        refine mo_goto (pc := 24) (tgt := 2) X dX5_layAside_24 (by decide) ?_
        refine ih (i + 1) _ _ (by omega) (by omega) (fun k hk => ?_) (fun k hk => by rw [mo_up_n (by omega)]; exact hf2 k hk)
        by_cases e : k = i
        · rw [e, mo_up_s]
        · rw [mo_up_n e]; exact hf k (by omega)
  have h0 := lp1 640 0 0 (M (m + 3)) (by omega) rfl (fun k hk => absurd hk (by omega)) (fun k hk => rfl)
  rw [mo_ur_id] at h0
  refine mo_iconst (pc := 0) X dX5_layAside_0 ?_
  refine mo_is1 (pc := 1) X dX5_layAside_1 rfl (by decide) ?_
  exact h0
set_option maxHeartbeats 4000000 in
set_option maxRecDepth 100000 in
theorem ct5_takeBack {lf : Launch} {ρf : mo_E} {G : mo_G} {M : mo_M} {t : Nat} {m : Nat} (hm : mo_Md G m) : mo_Ct lf ρf yX5_takeBack cX5_takeBack 2 none 0 0 0 [.ref m] G M t (mo_pv G t (fun M' => ∃ f, M' = mo_ur M (m + 1) f ∧ mo_ag f (M (m + 3)) ∧ ∀ k, 640 ≤ k → f k = M (m + 1) k)) := by
  refine mo_ofW (ls0 := [some (.ref m), none]) (by decide) rfl (Nat.le_of_ble_eq_true rfl) ?_
  intro κ X Y
  have X : mo_Cx κ lf ρf cX5_takeBack 2 RX5 none 0 := X
  have lp1 : ∀ (z i : Nat) (x : Int) (f : Nat → Int), i + z = 640 → x = i → (∀ k, k < i → f k = M (m + 3) k) → (∀ k, 640 ≤ k → f k = M (m + 1) k) → mo_V κ 0 0 2 [some (.ref m), some (mo_iv x)] [] G (mo_ur M (m + 1) f) t := by
    intro z
    induction z with
    | zero =>
      intro i x f hi hx hf hf2
      subst hx
      refine mo_il1 (pc := 2) X dX5_takeBack_2 ?_
      refine mo_sipush (pc := 3) X dX5_takeBack_3 (by decide) ?_
      refine mo_ic_ge (pc := 6) (tgt := 27) X dX5_takeBack_6 (by decide) ?_ ?_ (fun c_6 => ?_) (fun c_6 => ?_)
      · omega
      · omega
      · skip
        refine mo_vret (pc := 27) X Y rfl dX5_takeBack_27 ⟨rfl, rfl, rfl, ?_⟩
        exact ⟨f, rfl, fun k hk => hf k (by omega), hf2⟩
      · exfalso
        omega
    | succ z ih =>
      intro i x f hi hx hf hf2
      subst hx
      have e1 : (mo_ur M (m + 1) f) (m + 3) = M (m + 3) := mo_ur_n (by omega)
      refine mo_il1 (pc := 2) X dX5_takeBack_2 ?_
      refine mo_sipush (pc := 3) X dX5_takeBack_3 (by decide) ?_
      refine mo_ic_ge (pc := 6) (tgt := 27) X dX5_takeBack_6 (by decide) ?_ ?_ (fun c_6 => ?_) (fun c_6 => ?_)
      · omega
      · omega
      · exfalso
        omega
      · skip
        refine mo_al0 (pc := 9) X dX5_takeBack_9 ?_
        refine mo_f_X5_7 (pc := 10) X dX5_takeBack_10 (mo_Md_o hm) (mo_Md_p0 hm) ?_
        refine mo_il1 (pc := 13) X dX5_takeBack_13 ?_
        refine mo_al0 (pc := 14) X dX5_takeBack_14 ?_
        refine mo_f_X5_16 (pc := 15) X dX5_takeBack_15 (mo_Md_o hm) (mo_Md_p3 hm) ?_
        refine mo_il1 (pc := 18) X dX5_takeBack_18 ?_
        refine mo_iald (pc := 19) (j := i) X dX5_takeBack_19 (mo_Md_r3 hm) (by omega) ?_ ?_ (by omega) ?_
        · omega
        · omega
        rw [e1]
        refine mo_iast (pc := 20) (j := i) X dX5_takeBack_20 (mo_Md_r0 hm) (by omega) ?_ ?_ (by omega) ?_
        · omega
        · omega
        try simp only [mo_ur_ur, mo_ur_s]
        refine mo_ii1 (pc := 21) X dX5_takeBack_21 rfl (by decide) ?_
        refine mo_goto (pc := 24) (tgt := 2) X dX5_takeBack_24 (by decide) ?_
        refine ih (i + 1) _ _ (by omega) (by omega) (fun k hk => ?_) (fun k hk => by rw [mo_up_n (by omega)]; exact hf2 k hk)
        by_cases e : k = i
        · rw [e, mo_up_s]
        · rw [mo_up_n e]; exact hf k (by omega)
  have h0 := lp1 640 0 0 (M (m + 1)) (by omega) rfl (fun k hk => absurd hk (by omega)) (fun k hk => rfl)
  rw [mo_ur_id] at h0
  refine mo_iconst (pc := 0) X dX5_takeBack_0 ?_
  refine mo_is1 (pc := 1) X dX5_takeBack_1 rfl (by decide) ?_
  exact h0
def mo_svq (n : Nat) : Nat := if n = 4 then 3 else n
/-- the state is saved: what the saved rows are then -/
def mo_Sv (M M' : mo_M) (m : Nat) (n : Nat) : Prop := M' m 2 = ((mo_svq n + 1 : Nat) : Int) ∧ (∀ k, k < 640 → M' (m + 2) (640 * mo_svq n + k) = M (m + 1) k) ∧ (∀ i k, i < mo_svq n → k < 640 → M' (m + 2) (640 * i + k) = M (m + 2) (640 * (if n = 4 then i + 1 else i) + k)) ∧ (∀ j, j ≠ 2 → M' m j = M m j) ∧ ∀ a, a ≠ m → a ≠ m + 2 → M' a = M a
set_option maxHeartbeats 4000000 in
set_option maxRecDepth 100000 in
theorem ct5_save {lf : Launch} {ρf : mo_E} {G : mo_G} {M : mo_M} {t : Nat} {m : Nat} (hm : mo_Md G m) {n : Nat} (hn : M m 2 = n) (hn4 : n ≤ 4) : mo_Ct lf ρf yX5_save cX5_save 2 none 0 0 0 [.ref m] G M t (mo_pv G t (fun M' => mo_Sv M M' m n)) := by
  refine mo_ofW (ls0 := [some (.ref m), none]) (by decide) rfl (Nat.le_of_ble_eq_true rfl) ?_
  intro κ X Y
  have X : mo_Cx κ lf ρf cX5_save 2 RX5 none 0 := X
  have lp2 : ∀ (z i : Nat) (x : Int) (M1 : mo_M) (f : Nat → Int) (q : Nat), q ≤ 3 → M1 m 2 = q → (∀ k, k < i → f (640 * q + k) = M1 (m + 1) k) → (∀ j, j < 640 * q → f j = M1 (m + 2) j) → i + z = 640 → x = i → (∀ M' : mo_M, M' m 2 = ((q + 1 : Nat) : Int) → (∀ k, k < 640 → M' (m + 2) (640 * q + k) = M1 (m + 1) k) → (∀ j, j < 640 * q → M' (m + 2) j = M1 (m + 2) j) → (∀ j, j ≠ 2 → M' m j = M1 m j) → (∀ a, a ≠ m → a ≠ m + 2 → M' a = M1 a) → mo_Sv M M' m n) → mo_V κ 0 0 51 [some (.ref m), some (mo_iv x)] [] G (mo_ur M1 (m + 2) f) t := by
    intro z
    induction z with
    | zero =>
      intro i x M1 f q hq hq1 hf1 hf2 hi hx kk
      subst hx
      have e0 : (mo_ur M1 (m + 2) f) m = M1 m := mo_ur_n (by omega)
      refine mo_il1 (pc := 51) X dX5_save_51 ?_
      refine mo_sipush (pc := 52) X dX5_save_52 (by decide) ?_
      refine mo_ic_ge (pc := 55) (tgt := 85) X dX5_save_55 (by decide) ?_ ?_ (fun c_55 => ?_) (fun c_55 => ?_)
      · omega
      · omega
      · skip
        refine mo_al0 (pc := 85) X dX5_save_85 ?_
        refine mo_dup (pc := 86) X dX5_save_86 rfl ?_
        refine mo_f_X5_41 (pc := 87) X dX5_save_87 (mo_Md_o hm) ?_
        refine mo_iconst (pc := 90) X dX5_save_90 ?_
        refine mo_iadd (pc := 91) X dX5_save_91 ?_
        rw [e0, hq1]
        refine mo_p_X5_41 (pc := 92) X dX5_save_92 (mo_Md_o hm) ?_
        refine mo_vret (pc := 95) X Y rfl dX5_save_95 ⟨rfl, rfl, rfl, ?_⟩
        refine kk _ ?_ ?_ ?_ ?_ ?_
        · rw [mo_ur_s, mo_up_s]; omega
        · intro k hk
          rw [mo_ur_n (by omega), mo_ur_s]
          exact hf1 k (by omega)
        · intro j hj
          rw [mo_ur_n (by omega), mo_ur_s]
          exact hf2 j hj
        · intro j hj
          rw [mo_ur_s, mo_up_n hj, e0]
        · intro a h1 h2
          rw [mo_ur_n h1, mo_ur_n h2]
      · exfalso
        omega
    | succ z ih =>
      intro i x M1 f q hq hq1 hf1 hf2 hi hx kk
      subst hx
      have e0 : (mo_ur M1 (m + 2) f) m = M1 m := mo_ur_n (by omega)
      have e1 : (mo_ur M1 (m + 2) f) (m + 1) = M1 (m + 1) := mo_ur_n (by omega)
      refine mo_il1 (pc := 51) X dX5_save_51 ?_
      refine mo_sipush (pc := 52) X dX5_save_52 (by decide) ?_
      refine mo_ic_ge (pc := 55) (tgt := 85) X dX5_save_55 (by decide) ?_ ?_ (fun c_55 => ?_) (fun c_55 => ?_)
      · omega
      · omega
      · exfalso
        omega
      · skip
        refine mo_al0 (pc := 58) X dX5_save_58 ?_
        refine mo_f_X5_13 (pc := 59) X dX5_save_59 (mo_Md_o hm) (mo_Md_p1 hm) ?_
        refine mo_sipush (pc := 62) X dX5_save_62 (by decide) ?_
        refine mo_al0 (pc := 65) X dX5_save_65 ?_
        refine mo_f_X5_41 (pc := 66) X dX5_save_66 (mo_Md_o hm) ?_
        rw [e0, hq1]
        refine mo_imul (pc := 69) X dX5_save_69 ?_
        refine mo_il1 (pc := 70) X dX5_save_70 ?_
        refine mo_iadd (pc := 71) X dX5_save_71 ?_
        refine mo_al0 (pc := 72) X dX5_save_72 ?_
        refine mo_f_X5_7 (pc := 73) X dX5_save_73 (mo_Md_o hm) (mo_Md_p0 hm) ?_
        refine mo_il1 (pc := 76) X dX5_save_76 ?_
        refine mo_iald (pc := 77) (j := i) X dX5_save_77 (mo_Md_r0 hm) (by omega) ?_ ?_ (by omega) ?_
        · omega
        · omega
        rw [e1]
        refine mo_iast (pc := 78) (j := 640 * q + i) X dX5_save_78 (mo_Md_r1 hm) (by omega) ?_ ?_ (by omega) ?_
        · omega
        · omega
        try simp only [mo_ur_ur, mo_ur_s]
        refine mo_ii1 (pc := 79) X dX5_save_79 rfl (by decide) ?_
        refine mo_goto (pc := 82) (tgt := 51) X dX5_save_82 (by decide) ?_
        refine ih (i + 1) _ M1 _ q hq hq1 (fun k hk => ?_) (fun j hj => ?_) (by omega) (by omega) kk
        · by_cases e : k = i
          · rw [e, mo_up_s]
          · rw [mo_up_n (by omega)]; exact hf1 k (by omega)
        · rw [mo_up_n (by omega)]; exact hf2 j hj
  have lp1 : ∀ (z i : Nat) (x : Int) (f : Nat → Int), n = 4 → i + z = 1920 → x = i → (∀ j, f j = if j < i then M (m + 2) (j + 640) else M (m + 2) j) → mo_V κ 0 0 10 [some (.ref m), some (mo_iv x)] [] G (mo_ur M (m + 2) f) t := by
    intro z
    induction z with
    | zero =>
      intro i x f h4 hi hx hf
      subst hx
      have e0 : (mo_ur M (m + 2) f) m = M m := mo_ur_n (by omega)
      refine mo_il1 (pc := 10) X dX5_save_10 ?_
      refine mo_sipush (pc := 11) X dX5_save_11 (by decide) ?_
      refine mo_ic_ge (pc := 14) (tgt := 39) X dX5_save_14 (by decide) ?_ ?_ (fun c_14 => ?_) (fun c_14 => ?_)
      · omega
      · omega
      · skip
        refine mo_al0 (pc := 39) X dX5_save_39 ?_
        refine mo_dup (pc := 40) X dX5_save_40 rfl ?_
        refine mo_f_X5_41 (pc := 41) X dX5_save_41 (mo_Md_o hm) ?_
        refine mo_iconst (pc := 44) X dX5_save_44 ?_
        refine mo_isub (pc := 45) X dX5_save_45 ?_
        rw [e0, hn, h4]
        refine mo_p_X5_41 (pc := 46) X dX5_save_46 (mo_Md_o hm) ?_
        refine mo_iconst (pc := 49) X dX5_save_49 ?_
        refine mo_is1 (pc := 50) X dX5_save_50 rfl (by decide) ?_
        rw [e0]
        generalize hM1 : mo_ur (mo_ur M (m + 2) f) m (va_up (M m) 2 (((4 : Nat) : Int) - 1)) = M1
        have k0 : M1 m = va_up (M m) 2 (((4 : Nat) : Int) - 1) := by rw [← hM1, mo_ur_s]
        have k1 : M1 (m + 1) = M (m + 1) := by rw [← hM1, mo_ur_n (by omega), mo_ur_n (by omega)]
        have k2 : M1 (m + 2) = f := by rw [← hM1, mo_ur_n (by omega), mo_ur_s]
        have h0 := lp2 640 0 0 M1 f 3 (by omega) (by rw [k0, mo_up_s]; rfl) (fun k hk => absurd hk (by omega)) (fun j hj => by rw [k2]) (by omega) rfl (fun M' a1 a2 a3 a4 a5 => by
          have hq : mo_svq n = 3 := by unfold mo_svq; rw [if_pos h4]
          refine ⟨by rw [hq]; exact a1, fun k hk => by rw [hq, ← k1]; exact a2 k hk, fun i9 k hi9 hk => ?_, fun j hj => by rw [a4 j hj, k0, mo_up_n hj], fun a b1 b2 => by rw [a5 a b1 b2, ← hM1, mo_ur_n b1, mo_ur_n b2]⟩
          rw [hq] at hi9
          rw [a3 _ (by omega), k2, hf, if_pos (by omega), if_pos h4]
          congr 1
          omega)
        rw [← k2, mo_ur_id] at h0
        exact h0
      · exfalso
        omega
    | succ z ih =>
      intro i x f h4 hi hx hf
      subst hx
      have hfi : f (i + 640) = M (m + 2) (i + 640) := by rw [hf, if_neg (by omega)]
      refine mo_il1 (pc := 10) X dX5_save_10 ?_
      refine mo_sipush (pc := 11) X dX5_save_11 (by decide) ?_
      refine mo_ic_ge (pc := 14) (tgt := 39) X dX5_save_14 (by decide) ?_ ?_ (fun c_14 => ?_) (fun c_14 => ?_)
      · omega
      · omega
      · exfalso
        omega
      · skip
        refine mo_al0 (pc := 17) X dX5_save_17 ?_
        refine mo_f_X5_13 (pc := 18) X dX5_save_18 (mo_Md_o hm) (mo_Md_p1 hm) ?_
        refine mo_il1 (pc := 21) X dX5_save_21 ?_
        refine mo_al0 (pc := 22) X dX5_save_22 ?_
        refine mo_f_X5_13 (pc := 23) X dX5_save_23 (mo_Md_o hm) (mo_Md_p1 hm) ?_
        refine mo_il1 (pc := 26) X dX5_save_26 ?_
        refine mo_sipush (pc := 27) X dX5_save_27 (by decide) ?_
        refine mo_iadd (pc := 30) X dX5_save_30 ?_
        refine mo_iald (pc := 31) (j := i + 640) X dX5_save_31 (mo_Md_r1 hm) (by omega) ?_ ?_ (by omega) ?_
        · omega
        · omega
        try simp only [mo_ur_s]
        rw [hfi]
        refine mo_iast (pc := 32) (j := i) X dX5_save_32 (mo_Md_r1 hm) (by omega) ?_ ?_ (by omega) ?_
        · omega
        · omega
        try simp only [mo_ur_ur, mo_ur_s]
        refine mo_ii1 (pc := 33) X dX5_save_33 rfl (by decide) ?_
        refine mo_goto (pc := 36) (tgt := 10) X dX5_save_36 (by decide) ?_
        refine ih (i + 1) _ _ h4 (by omega) (by omega) (fun j => ?_)
        by_cases e : j = i
        · rw [e, mo_up_s, if_pos (by omega)]
        · rw [mo_up_n e, hf]
          by_cases c : j < i
          · rw [if_pos c, if_pos (by omega)]
          · rw [if_neg c, if_neg (by omega)]
  refine mo_al0 (pc := 0) X dX5_save_0 ?_
  refine mo_f_X5_41 (pc := 1) X dX5_save_1 (mo_Md_o hm) ?_
  refine mo_iconst (pc := 4) X dX5_save_4 ?_
  rw [hn]
  refine mo_ic_ne (pc := 5) (tgt := 49) X dX5_save_5 (by decide) ?_ ?_ (fun c_5 => ?_) (fun c_5 => ?_)
  · omega
  · omega
  · skip
    refine mo_iconst (pc := 49) X dX5_save_49 ?_
    refine mo_is1 (pc := 50) X dX5_save_50 rfl (by decide) ?_
    have h0 := lp2 640 0 0 M (M (m + 2)) n (by omega) hn (fun k hk => absurd hk (by omega)) (fun j hj => rfl) (by omega) rfl (fun M' a1 a2 a3 a4 a5 => by
      have hq : mo_svq n = n := by unfold mo_svq; rw [if_neg (by omega)]
      refine ⟨by rw [hq]; exact a1, by rw [hq]; exact a2, fun i k hi hk => ?_, a4, a5⟩
      rw [hq] at hi
      rw [if_neg (by omega)]
      exact a3 _ (by omega))
    rw [mo_ur_id] at h0
    exact h0
  · skip
    refine mo_iconst (pc := 8) X dX5_save_8 ?_
    refine mo_is1 (pc := 9) X dX5_save_9 rfl (by decide) ?_
    have h0 := lp1 1920 0 0 (M (m + 2)) (by omega) (by omega) rfl (fun j => by rw [if_neg (by omega)])
    rw [mo_ur_id] at h0
    exact h0
