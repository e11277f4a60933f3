set_option maxHeartbeats 4000000 in
set_option maxRecDepth 100000 in
theorem ct5_carryOut {lf : Launch} {ρf : mo_E} {G : mo_G} {M : mo_M} {t : Nat} {m : Nat} (hm : mo_Md G m) {B : Int} {n sv : Nat} (hI : mo_Iv (M (m + 1)) B) (hB : B ≤ 700000000) (hn : n ≤ 100) (h10 : M m 10 = n) (hr : ∀ j, j < n → 0 ≤ M (m + 8) j ∧ M (m + 8) j ≤ 127) (hs : M m 2 = sv) (hn4 : sv ≤ 4) : mo_Ct lf ρf yX5_carryOut cX5_carryOut 2 (some .int) 7 0 0 [.ref m] G M t (mo_pi G t (fun x M' => ∃ k, mo_rd (mo_bh (M (m + 8)) n) n k ∧ ((mo_os (mo_bh (M (m + 8)) n) k < n ∧ mo_odf (mo_bh (M (m + 8)) n) (mo_os (mo_bh (M (m + 8)) n) k) = false ∧ x = -10 - (mo_oe (mo_bh (M (m + 8)) n) (mo_os (mo_bh (M (m + 8)) n) k) : Nat) ∧ mo_Qr M M' m 0) ∨ (n ≤ mo_os (mo_bh (M (m + 8)) n) k ∧ x = (mo_run (mo_bh (M (m + 8)) n) n 51 0 (M (m + 1))).1 ∧ mo_Ur M M' m sv (mo_run (mo_bh (M (m + 8)) n) n 51 0 (M (m + 1))).2)))) := by
  refine mo_ofW (ls0 := [some (.ref m), none]) (by decide) rfl (Nat.le_of_ble_eq_true rfl) ?_
  intro κ X Y
  have X : mo_Cx κ lf ρf cX5_carryOut 2 RX5 (some .int) 7 := X
  have hbr : ∀ q, -1 ≤ mo_bh (M (m + 8)) n q ∧ mo_bh (M (m + 8)) n q ≤ 127 := fun q => by
    unfold mo_bh
    split
    · rename_i c; have := hr q c; omega
    · omega
  have hbn : ∀ q, (mo_bh (M (m + 8)) n) q ≠ -1 → q < n := fun q h => by
    unfold mo_bh at h
    split at h
    · assumption
    · omega
  have k36 : ∀ (M1 : mo_M) (j : Nat), mo_PS M1 m (M (m + 8)) n (mo_os (mo_bh (M (m + 8)) n) j) → n ≤ mo_os (mo_bh (M (m + 8)) n) j → mo_rd (mo_bh (M (m + 8)) n) n j → M1 m 4 = 0 → M1 m 2 = M m 2 → (∀ a, a ≠ m → a ≠ m + 9 → M1 a = M a) → mo_V κ 0 0 36 [some (.ref m), none] [] G M1 t := by
    intro M1 j hT hj hrd f4 f2 fa
    have lp2 : ∀ (M2 : mo_M), mo_Sv M1 M2 m sv → ∀ (z i : Nat) (x : Int) (M4 : mo_M) (g4 : Nat → Int), i + z = 51 → x = i → i ≤ j → mo_PS M4 m (M (m + 8)) n (mo_os (mo_bh (M (m + 8)) n) i) → M4 (m + 1) = g4 → mo_Iv g4 (B + 61 * i) → mo_run (mo_bh (M (m + 8)) n) n z i g4 = (mo_run (mo_bh (M (m + 8)) n) n 51 0 (M (m + 1))) → (∀ f, f ≠ 11 → f ≠ 12 → M4 m f = M2 m f) → (∀ a, a ≠ m → a ≠ m + 1 → a ≠ m + 4 → a ≠ m + 5 → a ≠ m + 6 → a ≠ m + 7 → a ≠ m + 9 → M4 a = M2 a) → mo_V κ 0 0 47 [some (.ref m), some (mo_iv x)] [] G M4 t := by
      intro M2 hSv z
      have fin : ∀ (i : Nat) (M' : mo_M), (mo_run (mo_bh (M (m + 8)) n) n 51 0 (M (m + 1))) = ((i : Int), M' (m + 1)) → (∀ f, f ≠ 11 → f ≠ 12 → M' m f = M2 m f) → (∀ a, a ≠ m → a ≠ m + 1 → a ≠ m + 4 → a ≠ m + 5 → a ≠ m + 6 → a ≠ m + 7 → a ≠ m + 9 → M' a = M2 a) → ∃ k, mo_rd (mo_bh (M (m + 8)) n) n k ∧ ((mo_os (mo_bh (M (m + 8)) n) k < n ∧ mo_odf (mo_bh (M (m + 8)) n) (mo_os (mo_bh (M (m + 8)) n) k) = false ∧ ((i : Nat) : Int) = -10 - (mo_oe (mo_bh (M (m + 8)) n) (mo_os (mo_bh (M (m + 8)) n) k) : Nat) ∧ mo_Qr M M' m 0) ∨ (n ≤ mo_os (mo_bh (M (m + 8)) n) k ∧ ((i : Nat) : Int) = (mo_run (mo_bh (M (m + 8)) n) n 51 0 (M (m + 1))).1 ∧ mo_Ur M M' m sv (mo_run (mo_bh (M (m + 8)) n) n 51 0 (M (m + 1))).2)) := fun i M' hrun hf ha => by
        rw [hrun]
        obtain ⟨s1, s2, s3, s4, s5⟩ := hSv
        refine ⟨j, hrd, Or.inr ⟨hj, rfl, ?_, ?_, ?_, mo_ag_rf _, fun k hk => ?_, fun i k hi hk => ?_, ?_, fun a ha2 => ?_⟩⟩
        · rw [hf 4 (by omega) (by omega), s4 4 (by omega), f4]
        · rw [hf 2 (by omega) (by omega), s1]
        · rw [hf 10 (by omega) (by omega), s4 10 (by omega), hT.1, h10]
        · rw [ha (m + 2) (by omega) (by omega) (by omega) (by omega) (by omega) (by omega) (by omega), s2 k hk, fa (m + 1) (by omega) (by omega)]
        · rw [ha (m + 2) (by omega) (by omega) (by omega) (by omega) (by omega) (by omega) (by omega), s3 i k hi hk, fa (m + 2) (by omega) (by omega)]
        · rw [ha (m + 8) (by omega) (by omega) (by omega) (by omega) (by omega) (by omega) (by omega), s5 _ (by omega) (by omega), fa _ (by omega) (by omega)]
        · rw [ha a (by omega) (by omega) (by omega) (by omega) (by omega) (by omega) (by omega), s5 _ (by omega) (by omega), fa _ (by omega) (by omega)]
      induction z with
      | zero =>
        intro i x M4 g4 hi hx hij hT4 hg hI4 hrun hf ha
        exfalso
        have := mo_rd_b hbn hrd
        omega
      | succ z ih =>
        intro i x M4 g4 hi hx hij hT4 hg hI4 hrun hf ha
        subst hx
        have h8r : ∀ q, q < n → 0 ≤ M4 (m + 8) q ∧ M4 (m + 8) q ≤ 127 := by rw [hT4.2.2]; exact hr
        have hj50 := mo_rd_b hbn hrd
        have hpi := mo_rd_b hbn (k := i) (fun q hq => hrd q (by omega))
        refine mo_al0 (pc := 47) X dX5_carryOut_47 ?_
        refine mo_f_X5_214 (pc := 48) X dX5_carryOut_48 (mo_Md_o hm) ?_
        rw [hT4.2.1]
        refine mo_al0 (pc := 51) X dX5_carryOut_51 ?_
        refine mo_f_X5_211 (pc := 52) X dX5_carryOut_52 (mo_Md_o hm) ?_
        rw [hT4.1]
        refine mo_ic_ge (pc := 55) (tgt := 78) X dX5_carryOut_55 (by decide) ?_ ?_ (fun c_55 => ?_) (fun c_55 => ?_)
        · omega
        · omega
        · skip
          refine mo_il1 (pc := 78) X dX5_carryOut_78 ?_
          refine mo_iret (pc := 79) X Y rfl dX5_carryOut_79 ⟨rfl, rfl, _, rfl, ?_⟩
          have e := hrun
          rw [mo_run, if_neg (by omega), ← hg] at e
          exact fin i M4 e.symm hf ha
        · skip
          have hne : i ≠ j := fun q => by
            subst q
            omega
          refine mo_al0 (pc := 58) X dX5_carryOut_58 ?_
          refine mo_cVI (pc := 59) (As := []) X mo_k_X5_245 mo_y_yX5_takesOrder rfl dX5_carryOut_59 (ct5_takesOrder hm hn hT4.1 hT4.2.1 (by omega) h8r) (mo_Md_o hm) rfl (by decide) (by decide) (Nat.le_of_ble_eq_true rfl) ?_
          rintro r_59 M_59 ⟨h_59, t11, t12, w_59, tV⟩
          rw [hT4.2.2] at h_59 t11 t12 tV
          refine mo_if_eq (pc := 62) (tgt := 78) X dX5_carryOut_62 (by decide) ?_ (fun c_62 => ?_) (fun c_62 => ?_)
          · omega
          · exact absurd (hrd i (by omega)).2 (mo_b0 h_59 c_62)
          · skip
            have hod := (hrd i (by omega)).2
            have hv := tV hod
            have hok : mo_okp (mo_bh (M (m + 8)) n) (mo_os (mo_bh (M (m + 8)) n) i) = true := by
              unfold mo_odf at hod
              rw [Bool.and_eq_true] at hod
              exact hod.1
            obtain ⟨v1, v2, v3, v4⟩ := mo_ok_v hok
            have g59 : M_59 (m + 1) = g4 := by rw [w_59.2 _ (by omega) (by omega), hg]
            obtain ⟨pv1, pv2, pv3⟩ := hv
            refine mo_al0 (pc := 65) X dX5_carryOut_65 ?_
            refine mo_cVI (pc := 66) (As := []) X mo_k_X5_248 mo_y_yX5_does rfl dX5_carryOut_66 (ct5_does (B := B + 61 * i) (k := (mo_bh (M (m + 8)) n) (mo_os (mo_bh (M (m + 8)) n) i)) (N := (mo_oN (mo_bh (M (m + 8)) n) (mo_os (mo_bh (M (m + 8)) n) i)).toNat) (W := (mo_oW (mo_bh (M (m + 8)) n) (mo_os (mo_bh (M (m + 8)) n) i)).toNat) (H := mo_oH (mo_bh (M (m + 8)) n) (mo_os (mo_bh (M (m + 8)) n) i)) hm (by rw [g59]; exact hI4) (by omega) t12 v1 (fun q => by rcases q with q | q; { have := v2 q; rw [(pv1 q).1]; omega }; { have := v3 q; rw [pv2 q]; omega }) (fun q => by have := v2 q; rw [(pv1 q).2.1]; omega) (fun q => (pv1 q).2.2) (fun q => by have := v4 q; rw [pv3 q]; omega) (fun q => by rcases q with q | q; { have := v2 q; omega }; { have := v3 q; omega }) (fun q => by rcases q with q | q; { have := v2 q; omega }; { have := v4 q; omega }) (fun q => by have := v2 q; omega)) (mo_Md_o hm) rfl (by decide) (by decide) (Nat.le_of_ble_eq_true rfl) ?_
            rintro r_66 M_66 ⟨h_66, g_66, d_66⟩
            rw [g59] at h_66 g_66
            refine mo_if_eq (pc := 69) (tgt := 78) X dX5_carryOut_69 (by decide) ?_ (fun c_69 => ?_) (fun c_69 => ?_)
            · omega
            · skip
              refine mo_il1 (pc := 78) X dX5_carryOut_78 ?_
              refine mo_iret (pc := 79) X Y rfl dX5_carryOut_79 ⟨rfl, rfl, _, rfl, ?_⟩
              have e0 := mo_b0 h_66 c_69
              have e := hrun
              rw [mo_run, if_neg (fun q => e0 q.2)] at e
              have e2 := mo_dx_no e0
              refine fin i M_66 ?_ (fun f q1 q2 => ?_) (fun a q1 q2 q3 q4 q5 q6 q7 => ?_)
              · rw [g_66, e2]; exact e.symm
              · rw [d_66 m (by omega) (by omega) (by omega) (by omega) (by omega), w_59.1 f q1 q2, hf f q1 q2]
              · rw [d_66 a q2 q3 q4 q5 q6, w_59.2 a q1 q7, ha a q1 q2 q3 q4 q5 q6 q7]
            · skip
              refine mo_ii1 (pc := 72) X dX5_carryOut_72 rfl (by decide) ?_
              refine mo_goto (pc := 75) (tgt := 47) X dX5_carryOut_75 (by decide) ?_
              have e1 := mo_b1 h_66 c_69
              have e := hrun
              rw [mo_run, if_pos ⟨by omega, e1⟩] at e
              refine ih (i + 1) _ M_66 _ (by omega) (by omega) (by omega) ⟨?_, ?_, ?_⟩ g_66 ?_ e (fun f q1 q2 => ?_) (fun a q1 q2 q3 q4 q5 q6 q7 => ?_)
              · rw [d_66 m (by omega) (by omega) (by omega) (by omega) (by omega), w_59.1 10 (by omega) (by omega), hT4.1]
              · rw [d_66 m (by omega) (by omega) (by omega) (by omega) (by omega), t11]; rfl
              · rw [d_66 (m + 8) (by omega) (by omega) (by omega) (by omega) (by omega), w_59.2 _ (by omega) (by omega), hT4.2.2]
              · exact mo_Iv_mono (mo_dx_Iv hI4 (fun q => by have := v4 q; omega)) (by omega)
              · rw [d_66 m (by omega) (by omega) (by omega) (by omega) (by omega), w_59.1 f q1 q2, hf f q1 q2]
              · rw [d_66 a q2 q3 q4 q5 q6, w_59.2 a q1 q7, ha a q1 q2 q3 q4 q5 q6 q7]
    refine mo_al0 (pc := 36) X dX5_carryOut_36 ?_
    refine mo_cVV (pc := 37) (As := []) X mo_k_X5_62 mo_y_yX5_save rfl dX5_carryOut_37 (ct5_save (n := sv) hm (by rw [f2]; exact hs) hn4) (mo_Md_o hm) rfl (by decide) (by decide) (Nat.le_of_ble_eq_true rfl) ?_
    rintro M_37 h_37
    refine mo_al0 (pc := 40) X dX5_carryOut_40 ?_
    refine mo_iconst (pc := 41) X dX5_carryOut_41 ?_
    refine mo_p_X5_214 (pc := 42) X dX5_carryOut_42 (mo_Md_o hm) ?_
    refine mo_iconst (pc := 45) X dX5_carryOut_45 ?_
    refine mo_is1 (pc := 46) X dX5_carryOut_46 rfl (by decide) ?_
    refine lp2 M_37 h_37 51 0 0 _ (M (m + 1)) rfl rfl (by omega) ⟨?_, ?_, ?_⟩ ?_ (mo_Iv_mono hI (by omega)) rfl (fun f q1 q2 => by rw [mo_ur_s, mo_up_n q1]) (fun a q1 q2 q3 q4 q5 q6 q7 => by rw [mo_ur_n q1])
    · rw [mo_ur_s, mo_up_n (by omega), h_37.2.2.2.1 10 (by omega)]; exact hT.1
    · rw [mo_ur_s, mo_up_s]; rfl
    · rw [mo_ur_n (by omega), h_37.2.2.2.2 _ (by omega) (by omega)]; exact hT.2.2
    · rw [mo_ur_n (by omega), h_37.2.2.2.2 _ (by omega) (by omega), fa _ (by omega) (by omega)]
  have lp1 : ∀ (z j : Nat) (M1 : mo_M), j + z = 51 → mo_PS M1 m (M (m + 8)) n (mo_os (mo_bh (M (m + 8)) n) j) → mo_rd (mo_bh (M (m + 8)) n) n j → M1 m 4 = 0 → M1 m 2 = M m 2 → (∀ a, a ≠ m → a ≠ m + 9 → M1 a = M a) → mo_V κ 0 0 10 [some (.ref m), none] [] G M1 t := by
    intro z
    induction z with
    | zero =>
      intro j M1 hj hT hrd f4 f2 fa
      exfalso
      have := mo_rd_b hbn hrd
      omega
    | succ z ih =>
      intro j M1 hj hT hrd f4 f2 fa
      have hpi := mo_rd_b hbn hrd
      have h8r : ∀ q, q < n → 0 ≤ M1 (m + 8) q ∧ M1 (m + 8) q ≤ 127 := by rw [hT.2.2]; exact hr
      refine mo_al0 (pc := 10) X dX5_carryOut_10 ?_
      refine mo_f_X5_214 (pc := 11) X dX5_carryOut_11 (mo_Md_o hm) ?_
      rw [hT.2.1]
      refine mo_al0 (pc := 14) X dX5_carryOut_14 ?_
      refine mo_f_X5_211 (pc := 15) X dX5_carryOut_15 (mo_Md_o hm) ?_
      rw [hT.1]
      refine mo_ic_ge (pc := 18) (tgt := 36) X dX5_carryOut_18 (by decide) ?_ ?_ (fun c_18 => ?_) (fun c_18 => ?_)
      · omega
      · omega
      · skip
        exact k36 M1 j hT (by omega) hrd f4 f2 fa
      · skip
        refine mo_al0 (pc := 21) X dX5_carryOut_21 ?_
        refine mo_cVI (pc := 22) (As := []) X mo_k_X5_245 mo_y_yX5_takesOrder rfl dX5_carryOut_22 (ct5_takesOrder hm hn hT.1 hT.2.1 (by omega) h8r) (mo_Md_o hm) rfl (by decide) (by decide) (Nat.le_of_ble_eq_true rfl) ?_
        rintro r_22 M_22 ⟨h_22, t11, t12, w_22, tV⟩
        rw [hT.2.2] at h_22 t11 t12 tV
        refine mo_if_ne (pc := 25) (tgt := 10) X dX5_carryOut_25 (by decide) ?_ (fun c_25 => ?_) (fun c_25 => ?_)
        · omega
        · skip
          refine ih (j + 1) M_22 (by omega) ⟨?_, t11, ?_⟩ ?_ ?_ ?_ (fun a q1 q2 => ?_)
          · rw [w_22.1 10 (by omega) (by omega)]; exact hT.1
          · rw [w_22.2 _ (by omega) (by omega)]; exact hT.2.2
          · intro q hq
            by_cases c : q = j
            · rw [c]; exact ⟨by omega, mo_b1 h_22 c_25⟩
            · exact hrd q (by omega)
          · rw [w_22.1 4 (by omega) (by omega)]; exact f4
          · rw [w_22.1 2 (by omega) (by omega)]; exact f2
          · rw [w_22.2 a q1 q2, fa a q1 q2]
        · skip
          refine mo_bipush (pc := 28) X dX5_carryOut_28 (by decide) ?_
          refine mo_al0 (pc := 30) X dX5_carryOut_30 ?_
          refine mo_f_X5_214 (pc := 31) X dX5_carryOut_31 (mo_Md_o hm) ?_
          rw [t11]
          refine mo_isub (pc := 34) X dX5_carryOut_34 ?_
          refine mo_iret (pc := 35) X Y rfl dX5_carryOut_35 ⟨rfl, rfl, _, rfl, ?_⟩
          refine ⟨j, hrd, Or.inl ⟨by omega, Bool.eq_false_iff.mpr (mo_b0 h_22 c_25), rfl, ?_, ?_, ?_, ?_, ?_, ?_, fun a q => ?_⟩⟩
          · rw [w_22.1 4 (by omega) (by omega)]; exact f4
          · rw [w_22.1 2 (by omega) (by omega)]; exact f2
          · rw [w_22.1 10 (by omega) (by omega), hT.1, h10]
          · rw [w_22.2 _ (by omega) (by omega), fa _ (by omega) (by omega)]; exact mo_ag_rf _
          · rw [w_22.2 _ (by omega) (by omega), fa _ (by omega) (by omega)]
          · rw [w_22.2 _ (by omega) (by omega), fa _ (by omega) (by omega)]
          · rw [w_22.2 _ (by omega) (by omega), fa _ (by omega) (by omega)]
  refine mo_al0 (pc := 0) X dX5_carryOut_0 ?_
  refine mo_iconst (pc := 1) X dX5_carryOut_1 ?_
  refine mo_p_X5_37 (pc := 2) X dX5_carryOut_2 (mo_Md_o hm) ?_
  refine mo_al0 (pc := 5) X dX5_carryOut_5 ?_
  refine mo_iconst (pc := 6) X dX5_carryOut_6 ?_
  refine mo_p_X5_214 (pc := 7) X dX5_carryOut_7 (mo_Md_o hm) ?_
  rw [mo_ur_s, mo_ur_ur]
  refine lp1 51 0 _ rfl ⟨?_, ?_, ?_⟩ (fun q hq => absurd hq (by omega)) ?_ ?_ (fun a q1 q2 => by rw [mo_ur_n q1])
  · rw [mo_ur_s, mo_up_n (by omega), mo_up_n (by omega)]; exact h10
  · rw [mo_ur_s, mo_up_s]; rfl
  · rw [mo_ur_n (by omega)]
  · rw [mo_ur_s, mo_up_n (by omega), mo_up_s]
  · rw [mo_ur_s, mo_up_n (by omega), mo_up_n (by omega)]
