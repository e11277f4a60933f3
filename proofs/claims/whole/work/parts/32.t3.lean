def mo_odf (b : Nat → Int) (p : Nat) : Bool := mo_okp b p && decide (b (mo_oq b p) = 59)
def mo_oe (b : Nat → Int) (p : Nat) : Nat := if mo_odf b p = true then mo_oq b p + 1 else mo_oq b p
def mo_os (b : Nat → Int) : Nat → Nat
  | 0 => 0
  | k + 1 => mo_oe b (mo_os b k)
theorem mo_pt_b (b : Nat → Int) (p : Nat) : p + 1 ≤ (mo_pt b p).2 := by
  have h1 := mo_ne_b b (p + 2)
  have h2 := mo_nf_b b (p + 2)
  have h3 := mo_ne_b b (p + 1)
  have h4 := mo_nf_b b (p + 1)
  unfold mo_pt
  split
  · split
    · split
      · split
        · split <;> simp only <;> omega
        · simp only; omega
      · simp only; omega
    · simp only; omega
  · split
    · split <;> simp only <;> omega
    · split
      · split <;> simp only <;> omega
      · simp only; omega
theorem mo_oq_b {b : Nat → Int} {p : Nat} (h : mo_okp b p = true) : p + 1 ≤ mo_oq b p := by
  unfold mo_okp at h
  rw [Bool.and_eq_true] at h
  unfold mo_oq
  rw [if_pos h.1]
  exact mo_pt_b b p
theorem mo_oe_b {b : Nat → Int} {p : Nat} (h : mo_odf b p = true) : p + 2 ≤ mo_oe b p ∧ mo_oe b p = mo_oq b p + 1 ∧ b (mo_oq b p) = 59 := by
  have e : mo_oe b p = mo_oq b p + 1 := by unfold mo_oe; rw [if_pos h]
  unfold mo_odf at h
  rw [Bool.and_eq_true, decide_eq_true_eq] at h
  have := mo_oq_b h.1
  exact ⟨by omega, e, h.2⟩
theorem mo_okp_n {b : Nat → Int} {p n : Nat} (hb : ∀ q, b q ≠ -1 → q < n) (h : mo_okp b p = true) : mo_oq b p ≤ n := by
  unfold mo_okp at h
  rw [Bool.and_eq_true] at h
  unfold mo_oq
  rw [if_pos h.1]
  obtain ⟨h1, h2⟩ := h
  have hp : p < n := hb p (by unfold mo_ltr at h1; rw [decide_eq_true_eq] at h1; omega)
  have hnum : ∀ q hi, mo_nok b q hi = true → mo_ne b q ≤ n := fun q hi hq => by
    have h3 := mo_nok_c hq
    have h4 := hb q (by omega)
    have h5 := mo_ne_b b q
    by_cases c : mo_ne b q = q + 2
    · have h6 := hb (q + 1) (by have := h3.2.2 c; omega)
      omega
    · omega
  unfold mo_pt at h2 ⊢
  by_cases k99 : b p = 99
  · rw [if_pos k99] at h2 ⊢
    by_cases c1 : mo_dok b (p + 1) = true
    · rw [if_pos c1] at h2 ⊢
      by_cases c2 : mo_nok b (p + 2) 19 = true
      · rw [if_pos c2] at h2 ⊢
        by_cases c3 : b (mo_ne b (p + 2)) = 58
        · rw [if_pos c3] at h2 ⊢
          by_cases c4 : mo_dok b (mo_ne b (p + 2) + 1) = true
          · rw [if_pos c4]
            have := hb _ (show b (mo_ne b (p + 2) + 1) ≠ -1 by have := mo_dok_c c4; omega)
            simp only; omega
          · rw [if_neg c4] at h2; exact Bool.noConfusion h2
        · rw [if_neg c3] at h2; exact Bool.noConfusion h2
      · rw [if_neg c2] at h2; exact Bool.noConfusion h2
    · rw [if_neg c1] at h2; exact Bool.noConfusion h2
  · rw [if_neg k99] at h2 ⊢
    by_cases k112 : b p = 112
    · rw [if_pos k112] at h2 ⊢
      by_cases c : mo_nok b (p + 1) 19 = true
      · rw [if_pos c]; exact hnum _ _ c
      · rw [if_neg c] at h2; exact Bool.noConfusion h2
    · rw [if_neg k112] at h2 ⊢
      by_cases k104 : b p = 104 ∨ b p = 109
      · rw [if_pos k104] at h2 ⊢
        by_cases c : mo_nok b (p + 1) 99 = true
        · rw [if_pos c]; exact hnum _ _ c
        · rw [if_neg c] at h2; exact Bool.noConfusion h2
      · rw [if_neg k104]
        simp only; omega
/-- the rows at place i hold the order at p -/
def mo_RV (M : mo_M) (x i : Nat) (b : Nat → Int) (p : Nat) : Prop := M (x + 4) i = b p ∧ (b p = 99 ∨ b p = 104 ∨ b p = 109 → M (x + 6) i = mo_oN b p) ∧ (b p = 99 ∨ b p = 112 → M (x + 8) i = mo_oW b p) ∧ (b p = 99 → M (x + 10) i = mo_oH b p)
theorem mo_RV_fr {M M' : mo_M} {x i p : Nat} {b : Nat → Int} (h : mo_RV M x i b p) (h4 : M' (x + 4) i = M (x + 4) i) (h6 : M' (x + 6) i = M (x + 6) i) (h8 : M' (x + 8) i = M (x + 8) i) (h10 : M' (x + 10) i = M (x + 10) i) : mo_RV M' x i b p := by
  unfold mo_RV
  rw [h4, h6, h8, h10]
  exact h
/-- the first k orders stand; k is the last, or the one behind is at fault -/
def mo_rd (b : Nat → Int) (n k : Nat) : Prop := ∀ i, i < k → mo_os b i < n ∧ mo_odf b (mo_os b i) = true
set_option maxHeartbeats 4000000 in
set_option maxRecDepth 100000 in
theorem ct0_readAll {lf : Launch} {ρf : mo_E} {G : mo_G} {M : mo_M} {t : Nat} {x : Nat} (hx : mo_Tx G x) {n : Nat} (hn : n ≤ 100) (h5 : M x 5 = n) (hr : ∀ j, j < n → 0 ≤ M (x + 2) j ∧ M (x + 2) j ≤ 127) : mo_Ct lf ρf yX0_readAll cX0_readAll 2 (some .int) 5 0 0 [.ref x] G M t (mo_pi G t (fun y M' => (∃ k, mo_rd (mo_bh (M (x + 2)) n) n k ∧ ((n ≤ mo_os (mo_bh (M (x + 2)) n) k ∧ y = -1 ∧ M' x 6 = k ∧ ∀ i, i < k → mo_RV M' x i (mo_bh (M (x + 2)) n) (mo_os (mo_bh (M (x + 2)) n) i)) ∨ (mo_os (mo_bh (M (x + 2)) n) k < n ∧ mo_odf (mo_bh (M (x + 2)) n) (mo_os (mo_bh (M (x + 2)) n) k) = false ∧ y = (mo_oe (mo_bh (M (x + 2)) n) (mo_os (mo_bh (M (x + 2)) n) k) : Nat)))) ∧ M' x 5 = n ∧ ∀ a, a ≠ x → a ≠ x + 4 → a ≠ x + 6 → a ≠ x + 8 → a ≠ x + 10 → M' a = M a)) := by
  refine mo_ofW (ls0 := [some (.ref x), none]) (by decide) rfl (Nat.le_of_ble_eq_true rfl) ?_
  intro κ X Y
  have X : mo_Cx κ lf ρf cX0_readAll 2 RX0 (some .int) 5 := X
  have hbr : ∀ q, -1 ≤ mo_bh (M (x + 2)) n q ∧ mo_bh (M (x + 2)) n q ≤ 127 := fun q => by
    unfold mo_bh
    split
    · rename_i c; have := hr q c; omega
    · omega
  have hbn : ∀ q, (mo_bh (M (x + 2)) n) q ≠ -1 → q < n := fun q h => by
    unfold mo_bh at h
    split at h
    · assumption
    · omega
  have lp1 : ∀ (z k : Nat) (v : Int) (M1 : mo_M), k + z = 51 → v = k → mo_TS M1 x (M (x + 2)) n k (mo_os (mo_bh (M (x + 2)) n) k) → mo_rd (mo_bh (M (x + 2)) n) n k → 2 * k ≤ mo_os (mo_bh (M (x + 2)) n) k ∧ mo_os (mo_bh (M (x + 2)) n) k ≤ n → (∀ i, i < k → mo_RV M1 x i (mo_bh (M (x + 2)) n) (mo_os (mo_bh (M (x + 2)) n) i)) → (∀ a, a ≠ x → a ≠ x + 4 → a ≠ x + 6 → a ≠ x + 8 → a ≠ x + 10 → M1 a = M a) → mo_V κ 0 0 12 [some (.ref x), some (mo_iv v)] [] G M1 t := by
    intro z
    induction z with
    | zero =>
      intro k v M1 hk hv hT hrd hb2 hRV hM
      exfalso
      omega
    | succ z ih =>
      intro k v M1 hk hv hT hrd hb2 hRV hM
      subst hv
      have hr1 : ∀ j, j < n → 0 ≤ M1 (x + 2) j ∧ M1 (x + 2) j ≤ 127 := by rw [hT.2.2.2]; exact hr
      refine mo_il1 (pc := 12) X dX0_readAll_12 ?_
      refine mo_bipush (pc := 13) X dX0_readAll_13 (by decide) ?_
      refine mo_ic_ge (pc := 15) (tgt := 66) X dX0_readAll_15 (by decide) ?_ ?_ (fun c_15 => ?_) (fun c_15 => ?_)
      · omega
      · omega
      · exfalso
        omega
      · skip
        refine mo_al0 (pc := 18) X dX0_readAll_18 ?_
        refine mo_f_X0_43 (pc := 19) X dX0_readAll_19 (mo_Tx_o hx) ?_
        rw [hT.2.1]
        refine mo_al0 (pc := 22) X dX0_readAll_22 ?_
        refine mo_f_X0_32 (pc := 23) X dX0_readAll_23 (mo_Tx_o hx) ?_
        rw [hT.1]
        refine mo_ic_ge (pc := 26) (tgt := 66) X dX0_readAll_26 (by decide) ?_ ?_ (fun c_26 => ?_) (fun c_26 => ?_)
        · omega
        · omega
        · skip
          refine mo_iconst (pc := 66) X dX0_readAll_66 ?_
          refine mo_iret (pc := 67) X Y rfl dX0_readAll_67 ⟨rfl, rfl, _, rfl, ?_⟩
          refine ⟨⟨k, hrd, Or.inl ⟨by omega, rfl, hT.2.2.1, hRV⟩⟩, hT.1, hM⟩
        · skip
          refine mo_al0 (pc := 29) X dX0_readAll_29 ?_
          refine mo_cVI (pc := 30) (As := []) X mo_k_X0_46 mo_y_yX0_readOrder rfl dX0_readAll_30 (ct0_readOrder (c := k) hx hn hT.1 hT.2.1 (by omega) hr1 (by omega) hT.2.2.1) (mo_Tx_o hx) rfl (by decide) (by decide) (Nat.le_of_ble_eq_true rfl) ?_
          rintro r_30 M_30 ⟨h_30, t5, t6, t7, t8, t9, t10⟩
          rw [hT.2.2.2] at h_30 t7 t9 t10
          refine mo_if_eq (pc := 33) (tgt := 45) X dX0_readAll_33 (by decide) ?_ (fun c_33 => ?_) (fun c_33 => ?_)
          · omega
          · skip
            refine mo_al0 (pc := 45) X dX0_readAll_45 ?_
            refine mo_f_X0_43 (pc := 46) X dX0_readAll_46 (mo_Tx_o hx) ?_
            rw [t7]
            refine mo_iret (pc := 49) X Y rfl dX0_readAll_49 ⟨rfl, rfl, _, rfl, ?_⟩
            have e1 := mo_b0 h_30 c_33
            have e2 : mo_odf (mo_bh (M (x + 2)) n) (mo_os (mo_bh (M (x + 2)) n) k) = false := by unfold mo_odf; rw [Bool.eq_false_iff.mpr e1]; rfl
            refine ⟨⟨k, hrd, Or.inr ⟨by omega, e2, ?_⟩⟩, t5, fun a a1 a2 a3 a4 a5 => ?_⟩
            · unfold mo_oe; rw [if_neg (by rw [e2]; decide)]
            · rw [← hM a a1 a2 a3 a4 a5]
              exact funext fun j => t8 a j a1 (Or.inr ⟨a2, a3, a4, a5⟩)
          · skip
            have T30 : mo_TS M_30 x (M (x + 2)) n k (mo_oq (mo_bh (M (x + 2)) n) (mo_os (mo_bh (M (x + 2)) n) k)) := ⟨t5, t7, t6, by rw [← hT.2.2.2]; exact funext fun j => t8 (x + 2) j (by omega) (Or.inr ⟨by omega, by omega, by omega, by omega⟩)⟩
            refine mo_al0 (pc := 36) X dX0_readAll_36 ?_
            refine mo_bipush (pc := 37) X dX0_readAll_37 (by decide) ?_
            refine mo_cVI (pc := 39) (As := [_]) X mo_k_X0_50 mo_y_yX0_readSign rfl dX0_readAll_39 (ct0_readSign (p := mo_oq (mo_bh (M (x + 2)) n) (mo_os (mo_bh (M (x + 2)) n) k)) hx hn T30.1 T30.2.1 (by have := mo_okp_n hbn (mo_b1 h_30 c_33); omega) (by rw [T30.2.2.2]; exact hr) (by omega)) (mo_Tx_o hx) rfl (by decide) (by decide) (Nat.le_of_ble_eq_true rfl) ?_
            rintro r_39 M_39 ⟨h_39, e_39⟩
            rw [T30.2.2.2] at h_39 e_39
            refine mo_if_ne (pc := 42) (tgt := 50) X dX0_readAll_42 (by decide) ?_ (fun c_42 => ?_) (fun c_42 => ?_)
            · omega
            · skip
              have e3 := mo_b1 h_39 c_42
              rw [if_pos e3] at e_39
              obtain ⟨T39, f39⟩ := mo_tsP (q := mo_oq (mo_bh (M (x + 2)) n) (mo_os (mo_bh (M (x + 2)) n) k) + 1) e_39 (by omega) T30
              refine mo_al0 (pc := 50) X dX0_readAll_50 ?_
              refine mo_dup (pc := 51) X dX0_readAll_51 rfl ?_
              refine mo_f_X0_40 (pc := 52) X dX0_readAll_52 (mo_Tx_o hx) ?_
              rw [T39.2.2.1]
              refine mo_iconst (pc := 55) X dX0_readAll_55 ?_
              refine mo_iadd (pc := 56) X dX0_readAll_56 ?_
              refine mo_p_X0_40 (pc := 57) X dX0_readAll_57 (mo_Tx_o hx) ?_
              refine mo_ii1 (pc := 60) X dX0_readAll_60 rfl (by decide) ?_
              refine mo_goto (pc := 63) (tgt := 12) X dX0_readAll_63 (by decide) ?_
              have e1 := mo_b1 h_30 c_33
              have e3 := mo_b1 h_39 c_42
              have e2 : mo_odf (mo_bh (M (x + 2)) n) (mo_os (mo_bh (M (x + 2)) n) k) = true := by
                unfold mo_odf
                rw [e1, decide_eq_true e3]; rfl
              obtain ⟨q1, q2, q3⟩ := mo_oe_b e2
              have q4 := hbn _ (show (mo_bh (M (x + 2)) n) (mo_oq (mo_bh (M (x + 2)) n) (mo_os (mo_bh (M (x + 2)) n) k)) ≠ -1 by rw [q3]; decide)
              have q5 : mo_os (mo_bh (M (x + 2)) n) (k + 1) = mo_oq (mo_bh (M (x + 2)) n) (mo_os (mo_bh (M (x + 2)) n) k) + 1 := by rw [mo_os, q2]
              refine ih (k + 1) _ _ (by omega) (by omega) ?_ ?_ (by rw [q5]; omega) ?_ ?_
              · rw [q5]
                exact ⟨by rw [mo_ur_s, mo_up_n (by omega)]; exact T39.1, by rw [mo_ur_s, mo_up_n (by omega)]; exact T39.2.1, by rw [mo_ur_s, mo_up_s]; rfl, by rw [mo_ur_n (by omega)]; exact T39.2.2.2⟩
              · intro i hi
                by_cases c : i = k
                · rw [c]; exact ⟨by omega, e2⟩
                · exact hrd i (by omega)
              · intro i hi
                have fr : ∀ o, o ≠ 0 → mo_ur M_39 x (va_up (M_39 x) 6 ((k : Int) + 1)) (x + o) i = M_30 (x + o) i := fun o ho => by rw [mo_ur_n (by omega), f39 _ _ (by omega)]
                by_cases c : i = k
                · rw [c] at fr ⊢
                  exact mo_RV_fr (M := M_30) ⟨t9, t10 e1⟩ (fr 4 (by omega)) (fr 6 (by omega)) (fr 8 (by omega)) (fr 10 (by omega))
                · have fr2 : ∀ o, o ≠ 0 → M_30 (x + o) i = M1 (x + o) i := fun o ho => t8 _ _ (by omega) (Or.inl c)
                  exact mo_RV_fr (hRV i (by omega)) ((fr 4 (by omega)).trans (fr2 4 (by omega))) ((fr 6 (by omega)).trans (fr2 6 (by omega))) ((fr 8 (by omega)).trans (fr2 8 (by omega))) ((fr 10 (by omega)).trans (fr2 10 (by omega)))
              · intro a a1 a2 a3 a4 a5
                rw [mo_ur_n a1, ← hM a a1 a2 a3 a4 a5]
                exact funext fun j => (f39 a j a1).trans (t8 a j a1 (Or.inr ⟨a2, a3, a4, a5⟩))
            · skip
              refine mo_al0 (pc := 45) X dX0_readAll_45 ?_
              refine mo_f_X0_43 (pc := 46) X dX0_readAll_46 (mo_Tx_o hx) ?_
              have e_40 := e_39
              rw [if_neg (mo_b0 h_39 c_42), mo_upid t7, mo_ur_id] at e_40
              rw [e_40, t7]
              refine mo_iret (pc := 49) X Y rfl dX0_readAll_49 ⟨rfl, rfl, _, rfl, ?_⟩
              have e2 : mo_odf (mo_bh (M (x + 2)) n) (mo_os (mo_bh (M (x + 2)) n) k) = false := by
                unfold mo_odf
                rw [decide_eq_false (mo_b0 h_39 c_42), Bool.and_false]
              rw [if_neg (mo_b0 h_39 c_42)] at e_39
              rw [mo_upid t7, mo_ur_id] at e_39
              subst e_39
              refine ⟨⟨k, hrd, Or.inr ⟨by omega, e2, ?_⟩⟩, t5, fun a a1 a2 a3 a4 a5 => ?_⟩
              · unfold mo_oe; rw [if_neg (by rw [e2]; decide)]
              · rw [← hM a a1 a2 a3 a4 a5]
                exact funext fun j => t8 a j a1 (Or.inr ⟨a2, a3, a4, a5⟩)
  refine mo_al0 (pc := 0) X dX0_readAll_0 ?_
  refine mo_iconst (pc := 1) X dX0_readAll_1 ?_
  refine mo_p_X0_40 (pc := 2) X dX0_readAll_2 (mo_Tx_o hx) ?_
  refine mo_al0 (pc := 5) X dX0_readAll_5 ?_
  refine mo_iconst (pc := 6) X dX0_readAll_6 ?_
  refine mo_p_X0_43 (pc := 7) X dX0_readAll_7 (mo_Tx_o hx) ?_
  refine mo_iconst (pc := 10) X dX0_readAll_10 ?_
  refine mo_is1 (pc := 11) X dX0_readAll_11 rfl (by decide) ?_
  rw [mo_ur_s, mo_ur_ur]
  refine lp1 51 0 0 _ rfl rfl ⟨by rw [mo_ur_s, mo_up_n (by omega), mo_up_n (by omega)]; exact h5, by rw [mo_ur_s, mo_up_s]; rfl, by rw [mo_ur_s, mo_up_n (by omega), mo_up_s]; rfl, by rw [mo_ur_n (by omega)]⟩ (fun i hi => absurd hi (by omega)) ⟨Nat.le_refl _, Nat.zero_le _⟩ (fun i hi => absurd hi (by omega)) fun a a1 _ _ _ _ => by rw [mo_ur_n a1]
