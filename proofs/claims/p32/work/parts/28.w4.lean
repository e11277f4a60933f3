set_option maxHeartbeats 4000000 in
set_option maxRecDepth 100000 in
theorem ct3_search {lf : Launch} {ρf : mo_E} {G : mo_G} {M : mo_M} {t : Nat} {b h : Nat} (hb : mo_Bk G b) (hs : mo_St G h) (hbh : b + 10 < h ∨ h + 18 < b) {g : Nat → Int} {B : Int} (hS : mo_SR M h g) (hI : mo_Iv g B) (hB : B ≤ 1000000000) {w : Int} (hW : mo_WB M b g w (mo_nk g)) {o : Nat} (ho : o < 8) (hw : g 0 ≤ w) (hf7 : g 7 ≠ 60) : mo_Ct lf ρf yX3_search cX3_search 4 (some .boolean) 3 0 0 [.ref b, .ref h, mo_iv o] G M t (mo_pi G t (fun x M' => ((x = 1 ∧ mo_sf g w o ≠ -1) ∨ (x = 0 ∧ ¬ (mo_sf g w o ≠ -1))) ∧ (∀ a, a ≠ b → M' a = M a) ∧ (mo_sf g w o ≠ -1 → M' b 5 = mo_sf g w o ∧ M' b 6 = mo_ef g w (mo_sf g w o).toNat (mo_en5 g) ∧ M' b 7 = mo_vf g w o (mo_sf g w o).toNat))) := by
  refine mo_ofW (ls0 := [some (.ref b), some (.ref h), some (mo_iv o), none]) (by decide) rfl (Nat.le_of_ble_eq_true rfl) ?_
  intro κ X Y
  have X : mo_Cx κ lf ρf cX3_search 4 RX3 (some .boolean) 3 := X
  obtain ⟨s0, s1, s2, s3, s4, s5, sH, sA, sE, sM, sS, sL, sW, sRo, sF⟩ := id hS
  obtain ⟨hI0, hI1, hI2, hI3, hI4, hI5, hI6, hI7, hIh, hIa, hIe, hIm, hIs, hIl, hIw, hIr, hIt, hIs2, hIs3, hIz⟩ := id hI
  have hn : ((mo_nk g : Nat) : Int) = g 7 := by unfold mo_nk; omega
  have hsf : mo_sf g w o = mo_ff (mo_sp g w o) 28 := by unfold mo_sf; rw [if_neg (by omega)]
  have lp1 : ∀ (z i : Nat) (x : Int) (M1 : mo_M), i + z = 28 → x = i → (∀ j, j < i → mo_sp g w o j = false) → (∀ a, a ≠ b → M1 a = M a) → mo_V κ 0 0 2 [some (.ref b), some (.ref h), some (mo_iv o), some (mo_iv x)] [] G M1 t := by
    intro z
    induction z with
    | zero =>
      intro i x M1 hi hx hf hM
      subst hx
      refine mo_il3 (pc := 2) X dX3_search_2 ?_
      refine mo_bipush (pc := 3) X dX3_search_3 (by decide) ?_
      refine mo_ic_ge (pc := 5) (tgt := 79) X dX3_search_5 (by decide) ?_ ?_ (fun c_5 => ?_) (fun c_5 => ?_)
      · omega
      · omega
      · skip
        refine mo_iconst (pc := 79) X dX3_search_79 ?_
        refine mo_zret (pc := 80) X Y rfl ?_ dX3_search_80 ⟨rfl, rfl, _, rfl, ?_⟩
        · omega
        have e0 : mo_sf g w o = -1 := by rw [hsf]; exact mo_ff_none fun j hj => hf j (by omega)
        exact ⟨Or.inr ⟨rfl, fun q => q e0⟩, hM, fun q => absurd e0 q⟩
      · exfalso
        omega
    | succ z ih =>
      intro i x M1 hi hx hf hM
      subst hx
      have hS1 : mo_SR M1 h g := mo_SR_fr hS fun a h1 h2 => hM a (by omega)
      have hW1 : mo_WB M1 b g w (mo_nk g) := mo_WB_fr hW fun a h1 h2 => hM a (by omega)
      have heb := mo_ef_b g w i (mo_en5 g)
      have hvb := mo_ff_b (mo_vp g w o i) (g 6).toNat
      rw [show mo_ff (mo_vp g w o i) (g 6).toNat = mo_vf g w o i from rfl] at hvb
      have hE : ((mo_en5 g : Nat) : Int) = g 5 := by unfold mo_en5; omega
      have no : ∀ M2 x2, x2 = ((i : Int) + 1) → (mo_hb (mo_dys g w (mo_nk g) o) ((i : Int) / 4) = true ∨ mo_ef g w i (mo_en5 g) = -1 ∨ mo_vf g w o i = -1) → (∀ a, a ≠ b → M2 a = M a) → mo_V κ 0 0 2 [some (.ref b), some (.ref h), some (mo_iv o), some (mo_iv x2)] [] G M2 t := fun M2 x2 hx2 hno hM2 => by
        refine ih (i + 1) _ _ (by omega) (by omega) (fun j hj => ?_) hM2
        by_cases c : j = i
        · rw [c]
          unfold mo_sp
          rcases hno with q | q | q
          · rw [show ((i / 4 : Nat) : Int) = (i : Int) / 4 by omega, q]; rfl
          · rw [q]; simp
          · rw [q]; simp
        · exact hf j (by omega)
      have yes : ∀ e v : Int, e = mo_ef g w i (mo_en5 g) → e ≠ -1 → v = mo_vf g w o i → v ≠ -1 → ¬ (mo_hb (mo_dys g w (mo_nk g) o) ((i : Int) / 4) = true) → mo_sf g w o = i := fun e v he he1 hv hv1 hd => by
        rw [hsf]
        refine mo_ff_at (by omega) hf ?_
        unfold mo_sp
        rw [show ((i / 4 : Nat) : Int) = (i : Int) / 4 by omega, Bool.eq_false_iff.mpr hd, decide_eq_true (by rw [← hv]; exact hv1), decide_eq_true (by rw [← he]; exact he1)]
        rfl
      refine mo_il3 (pc := 2) X dX3_search_2 ?_
      refine mo_bipush (pc := 3) X dX3_search_3 (by decide) ?_
      refine mo_ic_ge (pc := 5) (tgt := 79) X dX3_search_5 (by decide) ?_ ?_ (fun c_5 => ?_) (fun c_5 => ?_)
      · omega
      · omega
      · exfalso
        omega
      · skip
        refine mo_al0 (pc := 8) X dX3_search_8 ?_
        refine mo_f_X3_14 (pc := 9) X dX3_search_9 (mo_Bk_o hb) (mo_Bk_p0 hb) ?_
        refine mo_il2 (pc := 12) X dX3_search_12 ?_
        refine mo_cVI (pc := 13) (As := [_]) X mo_k_X3_63 mo_y_yX1_get rfl dX3_search_13 (ct_get (a := b + 2) (j := o) (mo_Bk_r0 hb) rfl (by omega) (by omega) (by omega) (by omega)) (mo_Bk_r0 hb).1 rfl (by decide) (by decide) (Nat.le_of_ble_eq_true rfl) ?_
        rintro r_13 _ ⟨h_13, rfl⟩
        rw [hW1.1 o ho] at h_13
        subst h_13
        refine mo_il3 (pc := 16) X dX3_search_16 ?_
        refine mo_iconst (pc := 17) X dX3_search_17 ?_
        refine mo_idiv (pc := 18) X dX3_search_18 ?_ ?_ ?_
        · omega
        · omega
        refine mo_cSI (pc := 19) (As := [_, _]) X mo_k_X3_67 mo_y_yX3_isIn dX3_search_19 (ct3_isIn) rfl (by decide) (by decide) (Nat.le_of_ble_eq_true rfl) ?_
        rintro r_19 _ ⟨h_19, rfl⟩
        refine mo_if_ne (pc := 22) (tgt := 73) X dX3_search_22 (by decide) ?_ (fun c_22 => ?_) (fun c_22 => ?_)
        · omega
        · skip
          refine mo_ii3 (pc := 73) X dX3_search_73 rfl (by decide) ?_
          refine mo_goto (pc := 76) (tgt := 2) X dX3_search_76 (by decide) ?_
          exact no _ _ rfl (Or.inl (mo_b1 h_19 c_22)) hM
        · skip
          refine mo_al0 (pc := 25) X dX3_search_25 ?_
          refine mo_il3 (pc := 26) X dX3_search_26 ?_
          refine mo_p_X3_108 (pc := 27) X dX3_search_27 (mo_Bk_o hb) ?_
          refine mo_al0 (pc := 30) X dX3_search_30 ?_
          refine mo_al0 (pc := 31) X dX3_search_31 ?_
          refine mo_al1 (pc := 32) X dX3_search_32 ?_
          refine mo_il3 (pc := 33) X dX3_search_33 ?_
          refine mo_cVI (pc := 34) (As := [_, _]) X mo_k_X3_121 mo_y_yX3_freestEscort rfl dX3_search_34 (ct3_freestEscort (q := i) (w := w) hb hs hbh (mo_SR_fr hS1 (fun a h1 h2 => by exact mo_ur_n (by omega))) hI hB (mo_WB_fr hW1 (fun a h1 h2 => by exact mo_ur_n (by omega))) (by omega)) (mo_Bk_o hb) rfl (by decide) (by decide) (Nat.le_of_ble_eq_true rfl) ?_
          rintro r_34 _ ⟨h_34, rfl⟩
          refine mo_p_X3_111 (pc := 37) X dX3_search_37 (mo_Bk_o hb) ?_
          rw [mo_ur_s, mo_ur_ur]
          refine mo_al0 (pc := 40) X dX3_search_40 ?_
          refine mo_al0 (pc := 41) X dX3_search_41 ?_
          refine mo_f_X3_111 (pc := 42) X dX3_search_42 (mo_Bk_o hb) ?_
          rw [mo_ur_s, mo_up_s]
          refine mo_iconst (pc := 45) X dX3_search_45 ?_
          refine mo_ic_ne (pc := 46) (tgt := 53) X dX3_search_46 (by decide) ?_ ?_ (fun c_46 => ?_) (fun c_46 => ?_)
          · omega
          · omega
          · skip
            refine mo_al0 (pc := 53) X dX3_search_53 ?_
            refine mo_al1 (pc := 54) X dX3_search_54 ?_
            refine mo_il2 (pc := 55) X dX3_search_55 ?_
            refine mo_il3 (pc := 56) X dX3_search_56 ?_
            refine mo_cVI (pc := 57) (As := [_, _, _]) X mo_k_X3_125 mo_y_yX3_firstVenue rfl dX3_search_57 (ct3_firstVenue (q := i) (w := w) hb hs hbh (mo_SR_fr hS1 (fun a h1 h2 => by exact mo_ur_n (by omega))) hI hB (mo_WB_fr hW1 (fun a h1 h2 => by exact mo_ur_n (by omega))) ho (by omega)) (mo_Bk_o hb) rfl (by decide) (by decide) (Nat.le_of_ble_eq_true rfl) ?_
            rintro r_57 _ ⟨h_57, rfl⟩
            refine mo_p_X3_114 (pc := 60) X dX3_search_60 (mo_Bk_o hb) ?_
            rw [mo_ur_s, mo_ur_ur]
            refine mo_al0 (pc := 63) X dX3_search_63 ?_
            refine mo_f_X3_114 (pc := 64) X dX3_search_64 (mo_Bk_o hb) ?_
            rw [mo_ur_s, mo_up_s]
            refine mo_iconst (pc := 67) X dX3_search_67 ?_
            refine mo_ic_eq (pc := 68) (tgt := 73) X dX3_search_68 (by decide) ?_ ?_ (fun c_68 => ?_) (fun c_68 => ?_)
            · omega
            · omega
            · skip
              refine mo_ii3 (pc := 73) X dX3_search_73 rfl (by decide) ?_
              refine mo_goto (pc := 76) (tgt := 2) X dX3_search_76 (by decide) ?_
              refine no _ _ rfl (Or.inr (Or.inr (h_57.symm.trans c_68))) fun a ha => ?_
              rw [mo_ur_n ha, hM a ha]
            · skip
              refine mo_iconst (pc := 71) X dX3_search_71 ?_
              refine mo_zret (pc := 72) X Y rfl ?_ dX3_search_72 ⟨rfl, rfl, _, rfl, ?_⟩
              · omega
              have e0 := yes _ _ h_34 c_46 h_57 c_68 (mo_b0 h_19 c_22)
              refine ⟨Or.inl ⟨rfl, by omega⟩, fun a ha => by rw [mo_ur_n ha, hM a ha], fun _ => ?_⟩
              rw [e0, Int.toNat_natCast, mo_ur_s]
              exact ⟨by rw [mo_up_n (by omega), mo_up_n (by omega), mo_up_s], by rw [mo_up_n (by omega), mo_up_s, h_34], by rw [mo_up_s, h_57]⟩
          · skip
            refine mo_iconst (pc := 49) X dX3_search_49 ?_
            refine mo_goto (pc := 50) (tgt := 60) X dX3_search_50 (by decide) ?_
            refine mo_p_X3_114 (pc := 60) X dX3_search_60 (mo_Bk_o hb) ?_
            rw [mo_ur_s, mo_ur_ur]
            refine mo_al0 (pc := 63) X dX3_search_63 ?_
            refine mo_f_X3_114 (pc := 64) X dX3_search_64 (mo_Bk_o hb) ?_
            rw [mo_ur_s, mo_up_s]
            refine mo_iconst (pc := 67) X dX3_search_67 ?_
            refine mo_ic_eq (pc := 68) (tgt := 73) X dX3_search_68 (by decide) ?_ ?_ (fun c_68 => ?_) (fun c_68 => ?_)
            · omega
            · omega
            · skip
              refine mo_ii3 (pc := 73) X dX3_search_73 rfl (by decide) ?_
              refine mo_goto (pc := 76) (tgt := 2) X dX3_search_76 (by decide) ?_
              refine no _ _ rfl (Or.inr (Or.inl (h_34.symm.trans (by omega)))) fun a ha => ?_
              rw [mo_ur_n ha, hM a ha]
            · skip
              refine mo_iconst (pc := 71) X dX3_search_71 ?_
              refine mo_zret (pc := 72) X Y rfl ?_ dX3_search_72 ⟨rfl, rfl, _, rfl, ?_⟩
              · omega
              exact absurd rfl c_68
  refine mo_iconst (pc := 0) X dX3_search_0 ?_
  refine mo_is3 (pc := 1) X dX3_search_1 rfl (by decide) ?_
  exact lp1 28 0 0 M rfl rfl (fun j hj => absurd hj (by omega)) fun a ha => rfl
