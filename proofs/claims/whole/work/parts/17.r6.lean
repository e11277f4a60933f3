theorem mo_pl_0 {w : Nat} (hw : w < 20) : ∀ (n : Nat) {g : Nat → Int} {B : Int}, mo_Iv g B → (mo_pl w n g).2 0 = g 0
  | 0, g, B, h => rfl
  | n + 1, g, B, h => by
    rw [mo_pl]
    split
    · rfl
    · rename_i hb
      obtain ⟨p1, -⟩ := mo_p1 h hw hb
      show (mo_pl w n (mo_l1 g w)).2 0 = g 0
      rw [mo_pl_0 hw n p1]
      exact mo_ly_o (by omega) (by omega) (by omega)
abbrev mo_o6 (m a : Nat) : Prop := a ≠ m + 1 ∧ a ≠ m + 3 ∧ a ≠ m + 4 ∧ a ≠ m + 5 ∧ a ≠ m + 6 ∧ a ≠ m + 7
theorem mo_owa_b {g : Nat → Int} {B : Int} {w : Nat} (h : mo_Iv g B) (hw : w < 20) : 0 ≤ mo_owa g w ∧ mo_owa g w ≤ 1120 := by
  have h4 := h.2.2.2.2.1
  have h9 : 0 ≤ mo_owa g w ∧ mo_owa g w ≤ ((g 4).toNat : Nat) * 140 := mo_sum_le (fun j hj => mo_ow_le h (by omega) hw)
  omega
set_option maxHeartbeats 4000000 in
set_option maxRecDepth 100000 in
theorem ct5_settled {lf : Launch} {ρf : mo_E} {G : mo_G} {M : mo_M} {t : Nat} {m : Nat} (hm : mo_Md G m) {B : Int} (hI : mo_Iv (M (m + 1)) B) (hB : B ≤ 800000000) : mo_Ct lf ρf yX5_settled cX5_settled 5 (some .int) 6 0 0 [.ref m] G M t (mo_pi G t (fun x M' => x = mo_set 20 (M (m + 1)) ∧ mo_ag (M' (m + 1)) (M (m + 1)) ∧ ∀ a, mo_o6 m a → M' a = M a)) := by
  refine mo_ofW (ls0 := [some (.ref m), none, none, none, none]) (by decide) rfl (Nat.le_of_ble_eq_true rfl) ?_
  intro κ X Y
  have X : mo_Cx κ lf ρf cX5_settled 5 RX5 (some .int) 6 := X
  have loop : ∀ (z : Nat) (C y : Int) (o3 o4 : Option Value) (Mz : mo_M), mo_c1 o3 = true → (∀ a, mo_o6 m a → Mz a = M a) → mo_ag (Mz (m + 3)) (M (m + 1)) → mo_Iv (Mz (m + 1)) C → C + 200 * z ≤ 900000000 → 20 ≤ z + Mz (m + 1) 0 → mo_set 20 (M (m + 1)) = mo_set z (Mz (m + 1)) → mo_V κ 0 0 8 [some (.ref m), some (mo_iv y), some (mo_iv 1), o3, o4] [] G Mz t := by
    intro z
    induction z with
    | zero =>
      intro C y o3 o4 Mz ho3 hf ha hC hCz hz he
      exfalso
      have h9 := hC.1
      omega
    | succ z ih =>
      intro C y o3 o4 Mz ho3 hf ha hC hCz hz he
      have h00 := hC.1
      obtain ⟨wn, hwn⟩ := Int.eq_ofNat_of_zero_le h00.1
      have hw : wn < 20 := by omega
      obtain ⟨g1, hg1⟩ : ∃ g1, g1 = (mo_pl wn 61 (Mz (m + 1))).2 := ⟨_, rfl⟩
      obtain ⟨p1, p2, p3⟩ := mo_pl_Iv hw 61 hC
      have p4 := mo_pl_0 hw 61 hC
      rw [← hg1] at p1 p4
      obtain ⟨g2, hg2⟩ : ∃ g2, g2 = mo_hw g1 (mo_nk g1) := ⟨_, rfl⟩
      obtain ⟨q1, q2, q3⟩ := mo_hw_b p1 (mo_nk g1) (Nat.le_refl _)
      rw [← hg2] at q1 q2 q3
      have q7 := q1.2.2.2.2.2.2.2.1
      have hkk : ((mo_nk g1 : Nat) : Int) ≤ 60 := by unfold mo_nk; omega
      have how := mo_owa_b q1 hw
      have hu : mo_set (z + 1) (Mz (m + 1)) = if mo_owa g2 wn = 0 then (wn : Int) else if (wn : Int) < 19 then mo_set z (mo_eR g2) else -1 := by
        show (if mo_owa (mo_hw (mo_pl (Mz (m + 1) 0).toNat 61 (Mz (m + 1))).2 (mo_nk (mo_pl (Mz (m + 1) 0).toNat 61 (Mz (m + 1))).2)) (Mz (m + 1) 0).toNat = 0 then Mz (m + 1) 0 else if Mz (m + 1) 0 < 19 then _ else _) = _
        rw [hwn, Int.toNat_natCast, ← hg1, ← hg2]
      rw [hu] at he
      refine mo_il2 (pc := 8) X dX5_settled_8 ?_
      refine mo_if_eq (pc := 9) (tgt := 86) X dX5_settled_9 (by decide) ?_ (fun c_9 => ?_) (fun c_9 => ?_)
      · omega
      · exfalso; omega
      · skip
        refine mo_al0 (pc := 12) X dX5_settled_12 ?_
        refine mo_al0 (pc := 13) X dX5_settled_13 ?_
        refine mo_f_X5_7 (pc := 14) X dX5_settled_14 (mo_Md_o hm) (mo_Md_p0 hm) ?_
        refine mo_iconst (pc := 17) X dX5_settled_17 ?_
        refine mo_iald (pc := 18) (j := 0) X dX5_settled_18 (mo_Md_r0 hm) (by omega) ?_ ?_ rfl ?_
        · omega
        · omega
        rw [hwn]
        refine mo_cVI (pc := 19) (As := [_]) X mo_k_X5_142 mo_y_yX5_plans rfl dX5_settled_19 (ct5_plans (B := C) (w := wn) hm hC (by omega) hw) (mo_Md_o hm) rfl (by decide) (by decide) (Nat.le_of_ble_eq_true rfl) ?_
        rintro r_19 M_19 ⟨f4, f5, f6, f7, -, h_19⟩
        rw [← hg1] at h_19
        have e19 : M_19 (m + 1) = g1 := by rw [h_19, mo_ur_s]
        have a19 : mo_ag (M_19 (m + 3)) (M (m + 1)) := by rw [h_19, mo_ur_n (by omega), mo_sc_r3]; exact ha
        have f19 : ∀ a, mo_o6 m a → M_19 a = M a := fun a q => by rw [h_19, mo_ur_n q.1, mo_sc_r _ _ _ _ _ q.2.2, hf a q]
        refine mo_is3 (pc := 22) X dX5_settled_22 rfl (by decide) ?_
        refine mo_al0 (pc := 23) X dX5_settled_23 ?_
        refine mo_cVV (pc := 24) (As := []) X mo_k_X5_203 mo_y_yX5_holdsAll rfl dX5_settled_24 (ct5_holdsAll (B := C + 61) hm (by rw [e19]; exact p1) (by omega)) (mo_Md_o hm) rfl (by decide) (by decide) (Nat.le_of_ble_eq_true rfl) ?_
        rintro M_24 h_24
        rw [e19, ← hg2] at h_24
        have e24 : M_24 (m + 1) = g2 := by rw [h_24, mo_ur_s]
        have a24 : mo_ag (M_24 (m + 3)) (M (m + 1)) := by rw [h_24, mo_ur_n (by omega)]; exact a19
        have f24 : ∀ a, mo_o6 m a → M_24 a = M a := fun a q => by rw [h_24, mo_ur_n q.1, f19 a q]
        refine mo_al0 (pc := 27) X dX5_settled_27 ?_
        refine mo_al0 (pc := 28) X dX5_settled_28 ?_
        refine mo_f_X5_7 (pc := 29) X dX5_settled_29 (mo_Md_o hm) (mo_Md_p0 hm) ?_
        refine mo_iconst (pc := 32) X dX5_settled_32 ?_
        refine mo_iald (pc := 33) (j := 0) X dX5_settled_33 (mo_Md_r0 hm) (by omega) ?_ ?_ rfl ?_
        · omega
        · omega
        rw [e24, q3, p4, hwn]
        refine mo_cVI (pc := 34) (As := [_]) X mo_k_X5_189 mo_y_yX5_owedByAll rfl dX5_settled_34 (ct5_owedByAll (B := C + 61 + (mo_nk g1 : Nat)) (w := wn) hm (by rw [e24]; exact q1) (by omega) hw) (mo_Md_o hm) rfl (by decide) (by decide) (Nat.le_of_ble_eq_true rfl) ?_
        rintro r_34 _ ⟨h_34, rfl⟩
        rw [e24] at h_34
        refine mo_if_ne (pc := 37) (tgt := 49) X dX5_settled_37 (by decide) ?_ (fun c_37 => ?_) (fun c_37 => ?_)
        · omega
        · skip
          refine mo_iconst (pc := 49) X dX5_settled_49 ?_
          refine mo_is1 (pc := 50) X dX5_settled_50 rfl (by decide) ?_
          refine mo_il1 (pc := 51) X dX5_settled_51 ?_
          refine mo_iconst (pc := 52) X dX5_settled_52 ?_
          refine mo_ic_ne (pc := 53) (tgt := 71) X dX5_settled_53 (by decide) ?_ ?_ (fun c_53 => ?_) (fun c_53 => ?_)
          · omega
          · omega
          · exfalso; omega
          · skip
            refine mo_al0 (pc := 56) X dX5_settled_56 ?_
            refine mo_f_X5_7 (pc := 57) X dX5_settled_57 (mo_Md_o hm) (mo_Md_p0 hm) ?_
            refine mo_iconst (pc := 60) X dX5_settled_60 ?_
            refine mo_iald (pc := 61) (j := 0) X dX5_settled_61 (mo_Md_r0 hm) (by omega) ?_ ?_ rfl ?_
            · omega
            · omega
            rw [e24, q3, p4, hwn]
            refine mo_bipush (pc := 62) X dX5_settled_62 (by decide) ?_
            refine mo_ic_ge (pc := 64) (tgt := 71) X dX5_settled_64 (by decide) ?_ ?_ (fun c_64 => ?_) (fun c_64 => ?_)
            · omega
            · omega
            · skip
              refine mo_iconst (pc := 71) X dX5_settled_71 ?_
              refine mo_is2 (pc := 72) X dX5_settled_72 rfl (by decide) ?_
              refine mo_il2 (pc := 73) X dX5_settled_73 ?_
              refine mo_if_eq (pc := 74) (tgt := 83) X dX5_settled_74 (by decide) ?_ (fun c_74 => ?_) (fun c_74 => ?_)
              · omega
              · skip
                refine mo_goto (pc := 83) (tgt := 8) X dX5_settled_83 (by decide) ?_
                refine mo_il2 (pc := 8) X dX5_settled_8 ?_
                refine mo_if_eq (pc := 9) (tgt := 86) X dX5_settled_9 (by decide) ?_ (fun c_9 => ?_) (fun c_9 => ?_)
                · omega
                · skip
                  refine mo_al0 (pc := 86) X dX5_settled_86 ?_
                  refine mo_cVV (pc := 87) (As := []) X mo_k_X5_200 mo_y_yX5_takeBack rfl dX5_settled_87 (ct5_takeBack hm) (mo_Md_o hm) rfl (by decide) (by decide) (Nat.le_of_ble_eq_true rfl) ?_
                  rintro M_87 ⟨f, h_87, hf87, -⟩
                  refine mo_il1 (pc := 90) X dX5_settled_90 ?_
                  refine mo_iret (pc := 91) X Y rfl dX5_settled_91 ⟨rfl, rfl, _, rfl, ?_⟩
                  have hsame : r_34 = mo_owa g2 wn := h_34
                  refine ⟨?_, ?_, ?_⟩
                  · rw [he]
                    first
                      | rw [if_pos (by omega)]
                      | rw [if_neg (by omega), if_neg (by omega)]
                  · rw [h_87, mo_ur_s]
                    exact fun k hk => by rw [hf87 k hk]; exact a24 k hk
                  · intro a q
                    rw [h_87, mo_ur_n q.1, f24 a q]
                · exfalso; omega
              · exfalso; omega
            · skip
              refine mo_iconst (pc := 67) X dX5_settled_67 ?_
              refine mo_goto (pc := 68) (tgt := 72) X dX5_settled_68 (by decide) ?_
              refine mo_is2 (pc := 72) X dX5_settled_72 rfl (by decide) ?_
              refine mo_il2 (pc := 73) X dX5_settled_73 ?_
              refine mo_if_eq (pc := 74) (tgt := 83) X dX5_settled_74 (by decide) ?_ (fun c_74 => ?_) (fun c_74 => ?_)
              · omega
              · exfalso; omega
              · skip
                refine mo_al0 (pc := 77) X dX5_settled_77 ?_
                refine mo_cVI (pc := 78) (As := []) X mo_k_X5_164 mo_y_yX5_ends rfl dX5_settled_78 (ct5_ends (B := C + 61 + (mo_nk g1 : Nat)) hm (by rw [e24]; exact q1) (by omega) (by rw [e24, q3, p4, hwn]; omega)) (mo_Md_o hm) rfl (by decide) (by decide) (Nat.le_of_ble_eq_true rfl) ?_
                rintro r_78 M_78 h_78
                refine mo_is4 (pc := 81) X dX5_settled_81 rfl (by decide) ?_
                refine mo_goto (pc := 83) (tgt := 8) X dX5_settled_83 (by decide) ?_
                obtain ⟨n1, n2, n3, n4⟩ := mo_e_b q1 (by omega)
                rw [if_neg (by omega), if_pos (by omega)] at he
                have e78 : M_78 (m + 1) = mo_eR g2 := by rw [h_78.2, e24, mo_ur_s]
                exact ih (C + 61 + 60 + 60) _ _ _ M_78 rfl (fun a q => by rw [h_78.2, mo_ur_n q.1, f24 a q]) (by rw [h_78.2, mo_ur_n (by omega)]; exact a24) (by rw [e78]; exact mo_Iv_mono n1 (by omega)) (by omega) (by rw [e78, n2]; omega) (by rw [e78]; exact he)
        · skip
          refine mo_al0 (pc := 40) X dX5_settled_40 ?_
          refine mo_f_X5_7 (pc := 41) X dX5_settled_41 (mo_Md_o hm) (mo_Md_p0 hm) ?_
          refine mo_iconst (pc := 44) X dX5_settled_44 ?_
          refine mo_iald (pc := 45) (j := 0) X dX5_settled_45 (mo_Md_r0 hm) (by omega) ?_ ?_ rfl ?_
          · omega
          · omega
          rw [e24, q3, p4, hwn]
          refine mo_goto (pc := 46) (tgt := 50) X dX5_settled_46 (by decide) ?_
          refine mo_is1 (pc := 50) X dX5_settled_50 rfl (by decide) ?_
          refine mo_il1 (pc := 51) X dX5_settled_51 ?_
          refine mo_iconst (pc := 52) X dX5_settled_52 ?_
          refine mo_ic_ne (pc := 53) (tgt := 71) X dX5_settled_53 (by decide) ?_ ?_ (fun c_53 => ?_) (fun c_53 => ?_)
          · omega
          · omega
          · skip
            refine mo_iconst (pc := 71) X dX5_settled_71 ?_
            refine mo_is2 (pc := 72) X dX5_settled_72 rfl (by decide) ?_
            refine mo_il2 (pc := 73) X dX5_settled_73 ?_
            refine mo_if_eq (pc := 74) (tgt := 83) X dX5_settled_74 (by decide) ?_ (fun c_74 => ?_) (fun c_74 => ?_)
            · omega
            · skip
              refine mo_goto (pc := 83) (tgt := 8) X dX5_settled_83 (by decide) ?_
              refine mo_il2 (pc := 8) X dX5_settled_8 ?_
              refine mo_if_eq (pc := 9) (tgt := 86) X dX5_settled_9 (by decide) ?_ (fun c_9 => ?_) (fun c_9 => ?_)
              · omega
              · skip
                refine mo_al0 (pc := 86) X dX5_settled_86 ?_
                refine mo_cVV (pc := 87) (As := []) X mo_k_X5_200 mo_y_yX5_takeBack rfl dX5_settled_87 (ct5_takeBack hm) (mo_Md_o hm) rfl (by decide) (by decide) (Nat.le_of_ble_eq_true rfl) ?_
                rintro M_87 ⟨f, h_87, hf87, -⟩
                refine mo_il1 (pc := 90) X dX5_settled_90 ?_
                refine mo_iret (pc := 91) X Y rfl dX5_settled_91 ⟨rfl, rfl, _, rfl, ?_⟩
                have hsame : r_34 = mo_owa g2 wn := h_34
                refine ⟨?_, ?_, ?_⟩
                · rw [he]
                  first
                    | rw [if_pos (by omega)]
                    | rw [if_neg (by omega), if_neg (by omega)]
                · rw [h_87, mo_ur_s]
                  exact fun k hk => by rw [hf87 k hk]; exact a24 k hk
                · intro a q
                  rw [h_87, mo_ur_n q.1, f24 a q]
              · exfalso; omega
            · exfalso; omega
          · skip
            refine mo_al0 (pc := 56) X dX5_settled_56 ?_
            refine mo_f_X5_7 (pc := 57) X dX5_settled_57 (mo_Md_o hm) (mo_Md_p0 hm) ?_
            refine mo_iconst (pc := 60) X dX5_settled_60 ?_
            refine mo_iald (pc := 61) (j := 0) X dX5_settled_61 (mo_Md_r0 hm) (by omega) ?_ ?_ rfl ?_
            · omega
            · omega
            rw [e24, q3, p4, hwn]
            refine mo_bipush (pc := 62) X dX5_settled_62 (by decide) ?_
            refine mo_ic_ge (pc := 64) (tgt := 71) X dX5_settled_64 (by decide) ?_ ?_ (fun c_64 => ?_) (fun c_64 => ?_)
            · omega
            · omega
            · skip
              refine mo_iconst (pc := 71) X dX5_settled_71 ?_
              refine mo_is2 (pc := 72) X dX5_settled_72 rfl (by decide) ?_
              refine mo_il2 (pc := 73) X dX5_settled_73 ?_
              refine mo_if_eq (pc := 74) (tgt := 83) X dX5_settled_74 (by decide) ?_ (fun c_74 => ?_) (fun c_74 => ?_)
              · omega
              · skip
                refine mo_goto (pc := 83) (tgt := 8) X dX5_settled_83 (by decide) ?_
                refine mo_il2 (pc := 8) X dX5_settled_8 ?_
                refine mo_if_eq (pc := 9) (tgt := 86) X dX5_settled_9 (by decide) ?_ (fun c_9 => ?_) (fun c_9 => ?_)
                · omega
                · skip
                  refine mo_al0 (pc := 86) X dX5_settled_86 ?_
                  refine mo_cVV (pc := 87) (As := []) X mo_k_X5_200 mo_y_yX5_takeBack rfl dX5_settled_87 (ct5_takeBack hm) (mo_Md_o hm) rfl (by decide) (by decide) (Nat.le_of_ble_eq_true rfl) ?_
                  rintro M_87 ⟨f, h_87, hf87, -⟩
                  refine mo_il1 (pc := 90) X dX5_settled_90 ?_
                  refine mo_iret (pc := 91) X Y rfl dX5_settled_91 ⟨rfl, rfl, _, rfl, ?_⟩
                  have hsame : r_34 = mo_owa g2 wn := h_34
                  refine ⟨?_, ?_, ?_⟩
                  · rw [he]
                    first
                      | rw [if_pos (by omega)]
                      | rw [if_neg (by omega), if_neg (by omega)]
                  · rw [h_87, mo_ur_s]
                    exact fun k hk => by rw [hf87 k hk]; exact a24 k hk
                  · intro a q
                    rw [h_87, mo_ur_n q.1, f24 a q]
                · exfalso; omega
              · exfalso; omega
            · skip
              refine mo_iconst (pc := 67) X dX5_settled_67 ?_
              refine mo_goto (pc := 68) (tgt := 72) X dX5_settled_68 (by decide) ?_
              refine mo_is2 (pc := 72) X dX5_settled_72 rfl (by decide) ?_
              refine mo_il2 (pc := 73) X dX5_settled_73 ?_
              refine mo_if_eq (pc := 74) (tgt := 83) X dX5_settled_74 (by decide) ?_ (fun c_74 => ?_) (fun c_74 => ?_)
              · omega
              · exfalso; omega
              · skip
                refine mo_al0 (pc := 77) X dX5_settled_77 ?_
                refine mo_cVI (pc := 78) (As := []) X mo_k_X5_164 mo_y_yX5_ends rfl dX5_settled_78 (ct5_ends (B := C + 61 + (mo_nk g1 : Nat)) hm (by rw [e24]; exact q1) (by omega) (by rw [e24, q3, p4, hwn]; omega)) (mo_Md_o hm) rfl (by decide) (by decide) (Nat.le_of_ble_eq_true rfl) ?_
                rintro r_78 M_78 h_78
                refine mo_is4 (pc := 81) X dX5_settled_81 rfl (by decide) ?_
                refine mo_goto (pc := 83) (tgt := 8) X dX5_settled_83 (by decide) ?_
                obtain ⟨n1, n2, n3, n4⟩ := mo_e_b q1 (by omega)
                rw [if_neg (by omega), if_pos (by omega)] at he
                have e78 : M_78 (m + 1) = mo_eR g2 := by rw [h_78.2, e24, mo_ur_s]
                exact ih (C + 61 + 60 + 60) _ _ _ M_78 rfl (fun a q => by rw [h_78.2, mo_ur_n q.1, f24 a q]) (by rw [h_78.2, mo_ur_n (by omega)]; exact a24) (by rw [e78]; exact mo_Iv_mono n1 (by omega)) (by omega) (by rw [e78, n2]; omega) (by rw [e78]; exact he)
  refine mo_al0 (pc := 0) X dX5_settled_0 ?_
  refine mo_cVV (pc := 1) (As := []) X mo_k_X5_197 mo_y_yX5_layAside rfl dX5_settled_1 (ct5_layAside hm) (mo_Md_o hm) rfl (by decide) (by decide) (Nat.le_of_ble_eq_true rfl) ?_
  rintro M_1 ⟨f, h_1, hf1, -⟩
  have e1 : M_1 (m + 1) = M (m + 1) := by rw [h_1, mo_ur_n (by omega)]
  have w0 := hI.1
  refine mo_iconst (pc := 4) X dX5_settled_4 ?_
  refine mo_is1 (pc := 5) X dX5_settled_5 rfl (by decide) ?_
  refine mo_iconst (pc := 6) X dX5_settled_6 ?_
  refine mo_is2 (pc := 7) X dX5_settled_7 rfl (by decide) ?_
  exact loop 20 B (-1) none none M_1 rfl (fun a q => by rw [h_1, mo_ur_n q.2.1]) (by rw [h_1, mo_ur_s]; exact hf1) (by rw [e1]; exact hI) (by omega) (by rw [e1]; omega) (by rw [e1])
set_option maxHeartbeats 4000000 in
set_option maxRecDepth 100000 in
theorem ct5_plannedOf {lf : Launch} {ρf : mo_E} {G : mo_G} {M : mo_M} {t : Nat} {m : Nat} (hm : mo_Md G m) {B : Int} {o : Nat} (hI : mo_Iv (M (m + 1)) B) (hB : B ≤ 1000000000) (ho : o < 8) : mo_Ct lf ρf yX5_plannedOf cX5_plannedOf 4 (some .int) 1 0 0 [.ref m, mo_iv o] G M t (mo_pi G t (fun x M' => x = mo_cnt (mo_plb (M (m + 1)) o 19) (mo_nk (M (m + 1))) ∧ M = M')) := by
  refine mo_ofW (ls0 := [some (.ref m), some (mo_iv o), none, none]) (by decide) rfl (Nat.le_of_ble_eq_true rfl) ?_
  intro κ X Y
  have X : mo_Cx κ lf ρf cX5_plannedOf 4 RX5 (some .int) 1 := X
  obtain ⟨hI0, hI1, hI2, hI3, hI4, hI5, hI6, hI7, hIh, hIa, hIe, hIm, hIs, hIl, hIw, hIr, hIt, hIs2, hIs3, hIz⟩ := id hI
  have hn : ((mo_nk (M (m + 1)) : Nat) : Int) = M (m + 1) 7 := by unfold mo_nk; omega
  have loop : ∀ (z i : Nat) (s x : Int), i + z = mo_nk (M (m + 1)) → x = i → s = mo_cnt (mo_plb (M (m + 1)) o 19) i → mo_V κ 0 0 4 [some (.ref m), some (mo_iv o), some (mo_iv s), some (mo_iv x)] [] G M t := by
    intro z
    induction z with
    | zero =>
      intro i s x hi hx hs
      subst hx
      refine mo_il3 (pc := 4) X dX5_plannedOf_4 ?_
      refine mo_al0 (pc := 5) X dX5_plannedOf_5 ?_
      refine mo_f_X5_7 (pc := 6) X dX5_plannedOf_6 (mo_Md_o hm) (mo_Md_p0 hm) ?_
      refine mo_bipush (pc := 9) X dX5_plannedOf_9 (by decide) ?_
      refine mo_iald (pc := 11) (j := 7) X dX5_plannedOf_11 (mo_Md_r0 hm) (by omega) ?_ ?_ rfl ?_
      · omega
      · omega
      refine mo_ic_ge (pc := 12) (tgt := 49) X dX5_plannedOf_12 (by decide) ?_ ?_ (fun c_12 => ?_) (fun c_12 => ?_)
      · omega
      · omega
      · skip
        refine mo_il2 (pc := 49) X dX5_plannedOf_49 ?_
        refine mo_iret (pc := 50) X Y rfl dX5_plannedOf_50 ⟨rfl, rfl, _, rfl, ?_⟩
        refine ⟨?_, rfl⟩
        rw [hs, show mo_nk (M (m + 1)) = i by omega]
      · exfalso
        omega
    | succ z ih =>
      intro i s x hi hx hs
      subst hx
      have hmt := hIt i (by omega)
      unfold mo_Mt at hmt
      have hstep : mo_cnt (mo_plb (M (m + 1)) o 19) (i + 1) = mo_cnt (mo_plb (M (m + 1)) o 19) i + (if mo_fld (M (m + 1)) i 1 = (o : Int) ∧ mo_fld (M (m + 1)) i 6 = 0 ∧ mo_fld (M (m + 1)) i 2 ≤ 19 then 1 else 0) := by
        rw [mo_cnt]
        simp only [mo_plb, decide_eq_true_eq]
      refine mo_il3 (pc := 4) X dX5_plannedOf_4 ?_
      refine mo_al0 (pc := 5) X dX5_plannedOf_5 ?_
      refine mo_f_X5_7 (pc := 6) X dX5_plannedOf_6 (mo_Md_o hm) (mo_Md_p0 hm) ?_
      refine mo_bipush (pc := 9) X dX5_plannedOf_9 (by decide) ?_
      refine mo_iald (pc := 11) (j := 7) X dX5_plannedOf_11 (mo_Md_r0 hm) (by omega) ?_ ?_ rfl ?_
      · omega
      · omega
      refine mo_ic_ge (pc := 12) (tgt := 49) X dX5_plannedOf_12 (by decide) ?_ ?_ (fun c_12 => ?_) (fun c_12 => ?_)
      · omega
      · omega
      · exfalso
        omega
      · skip
        refine mo_il2 (pc := 15) X dX5_plannedOf_15 ?_
        refine mo_al0 (pc := 16) X dX5_plannedOf_16 ?_
        refine mo_il3 (pc := 17) X dX5_plannedOf_17 ?_
        refine mo_iconst (pc := 18) X dX5_plannedOf_18 ?_
        refine mo_cVI (pc := 19) (As := [_, _]) X mo_k_X5_89 mo_y_yX5_of rfl dX5_plannedOf_19 (ct5_of (k := i) (j := 1) hm (by omega)) (mo_Md_o hm) rfl (by decide) (by decide) (Nat.le_of_ble_eq_true rfl) ?_
        rintro r_19 _ ⟨h_19, rfl⟩
        refine mo_il1 (pc := 22) X dX5_plannedOf_22 ?_
        refine mo_ic_ne (pc := 23) (tgt := 40) X dX5_plannedOf_23 (by decide) ?_ ?_ (fun c_23 => ?_) (fun c_23 => ?_)
        · omega
        · omega
        · skip
          refine mo_iconst (pc := 40) X dX5_plannedOf_40 ?_
          refine mo_iadd (pc := 41) X dX5_plannedOf_41 ?_
          refine mo_is2 (pc := 42) X dX5_plannedOf_42 rfl (by decide) ?_
          refine mo_ii3 (pc := 43) X dX5_plannedOf_43 rfl (by decide) ?_
          refine mo_goto (pc := 46) (tgt := 4) X dX5_plannedOf_46 (by decide) ?_
          refine ih (i + 1) _ _ (by omega) (by omega) ?_
          rw [hstep]
          split <;> omega
        · skip
          refine mo_al0 (pc := 26) X dX5_plannedOf_26 ?_
          refine mo_il3 (pc := 27) X dX5_plannedOf_27 ?_
          refine mo_bipush (pc := 28) X dX5_plannedOf_28 (by decide) ?_
          refine mo_cVI (pc := 30) (As := [_, _]) X mo_k_X5_89 mo_y_yX5_of rfl dX5_plannedOf_30 (ct5_of (k := i) (j := 6) hm (by omega)) (mo_Md_o hm) rfl (by decide) (by decide) (Nat.le_of_ble_eq_true rfl) ?_
          rintro r_30 _ ⟨h_30, rfl⟩
          refine mo_if_ne (pc := 33) (tgt := 40) X dX5_plannedOf_33 (by decide) ?_ (fun c_33 => ?_) (fun c_33 => ?_)
          · omega
          · skip
            refine mo_iconst (pc := 40) X dX5_plannedOf_40 ?_
            refine mo_iadd (pc := 41) X dX5_plannedOf_41 ?_
            refine mo_is2 (pc := 42) X dX5_plannedOf_42 rfl (by decide) ?_
            refine mo_ii3 (pc := 43) X dX5_plannedOf_43 rfl (by decide) ?_
            refine mo_goto (pc := 46) (tgt := 4) X dX5_plannedOf_46 (by decide) ?_
            refine ih (i + 1) _ _ (by omega) (by omega) ?_
            rw [hstep]
            split <;> omega
          · skip
            refine mo_iconst (pc := 36) X dX5_plannedOf_36 ?_
            refine mo_goto (pc := 37) (tgt := 41) X dX5_plannedOf_37 (by decide) ?_
            refine mo_iadd (pc := 41) X dX5_plannedOf_41 ?_
            refine mo_is2 (pc := 42) X dX5_plannedOf_42 rfl (by decide) ?_
            refine mo_ii3 (pc := 43) X dX5_plannedOf_43 rfl (by decide) ?_
            refine mo_goto (pc := 46) (tgt := 4) X dX5_plannedOf_46 (by decide) ?_
            refine ih (i + 1) _ _ (by omega) (by omega) ?_
            rw [hstep]
            split <;> omega
  refine mo_iconst (pc := 0) X dX5_plannedOf_0 ?_
  refine mo_is2 (pc := 1) X dX5_plannedOf_1 rfl (by decide) ?_
  refine mo_iconst (pc := 2) X dX5_plannedOf_2 ?_
  refine mo_is3 (pc := 3) X dX5_plannedOf_3 rfl (by decide) ?_
  exact loop _ 0 0 0 (Nat.zero_add _) rfl rfl
set_option maxHeartbeats 4000000 in
set_option maxRecDepth 100000 in
theorem ct5_hoursOf {lf : Launch} {ρf : mo_E} {G : mo_G} {M : mo_M} {t : Nat} {m : Nat} (hm : mo_Md G m) {o : Nat} (ho : o < 8) : mo_Ct lf ρf yX5_hoursOf cX5_hoursOf 4 (some .int) 0 0 0 [.ref m, mo_iv o] G M t (mo_pi G t (fun x M' => x = mo_hsum (M (m + 1)) o 20 ∧ M = M')) := by
  refine mo_ofW (ls0 := [some (.ref m), some (mo_iv o), none, none]) (by decide) rfl (Nat.le_of_ble_eq_true rfl) ?_
  intro κ X Y
  have X : mo_Cx κ lf ρf cX5_hoursOf 4 RX5 (some .int) 0 := X
  have loop : ∀ (z i : Nat) (s x : Int), i + z = 20 → x = i → s = mo_hsum (M (m + 1)) o i → mo_V κ 0 0 4 [some (.ref m), some (mo_iv o), some (mo_iv s), some (mo_iv x)] [] G M t := by
    intro z
    induction z with
    | zero =>
      intro i s x hi hx hs
      subst hx
      refine mo_il3 (pc := 4) X dX5_hoursOf_4 ?_
      refine mo_bipush (pc := 5) X dX5_hoursOf_5 (by decide) ?_
      refine mo_ic_ge (pc := 7) (tgt := 33) X dX5_hoursOf_7 (by decide) ?_ ?_ (fun c_7 => ?_) (fun c_7 => ?_)
      · omega
      · omega
      · skip
        refine mo_il2 (pc := 33) X dX5_hoursOf_33 ?_
        refine mo_iret (pc := 34) X Y rfl dX5_hoursOf_34 ⟨rfl, rfl, _, rfl, ?_⟩
        refine ⟨?_, rfl⟩
        rw [hs, show i = 20 by omega]
      · exfalso
        omega
    | succ z ih =>
      intro i s x hi hx hs
      subst hx
      refine mo_il3 (pc := 4) X dX5_hoursOf_4 ?_
      refine mo_bipush (pc := 5) X dX5_hoursOf_5 (by decide) ?_
      refine mo_ic_ge (pc := 7) (tgt := 33) X dX5_hoursOf_7 (by decide) ?_ ?_ (fun c_7 => ?_) (fun c_7 => ?_)
      · omega
      · omega
      · exfalso
        omega
      · skip
        refine mo_il2 (pc := 10) X dX5_hoursOf_10 ?_
        refine mo_al0 (pc := 11) X dX5_hoursOf_11 ?_
        refine mo_f_X5_7 (pc := 12) X dX5_hoursOf_12 (mo_Md_o hm) (mo_Md_p0 hm) ?_
        refine mo_bipush (pc := 15) X dX5_hoursOf_15 (by decide) ?_
        refine mo_bipush (pc := 17) X dX5_hoursOf_17 (by decide) ?_
        refine mo_il1 (pc := 19) X dX5_hoursOf_19 ?_
        refine mo_imul (pc := 20) X dX5_hoursOf_20 ?_
        refine mo_iadd (pc := 21) X dX5_hoursOf_21 ?_
        refine mo_il3 (pc := 22) X dX5_hoursOf_22 ?_
        refine mo_iadd (pc := 23) X dX5_hoursOf_23 ?_
        refine mo_iald (pc := 24) (j := 8 + 20 * o + i) X dX5_hoursOf_24 (mo_Md_r0 hm) (by omega) ?_ ?_ (by omega) ?_
        · omega
        · omega
        refine mo_iadd (pc := 25) X dX5_hoursOf_25 ?_
        refine mo_is2 (pc := 26) X dX5_hoursOf_26 rfl (by decide) ?_
        refine mo_ii3 (pc := 27) X dX5_hoursOf_27 rfl (by decide) ?_
        refine mo_goto (pc := 30) (tgt := 4) X dX5_hoursOf_30 (by decide) ?_
        refine ih (i + 1) _ _ (by omega) (by omega) ?_
        rw [hs]
        rfl
  refine mo_iconst (pc := 0) X dX5_hoursOf_0 ?_
  refine mo_is2 (pc := 1) X dX5_hoursOf_1 rfl (by decide) ?_
  refine mo_iconst (pc := 2) X dX5_hoursOf_2 ?_
  refine mo_is3 (pc := 3) X dX5_hoursOf_3 rfl (by decide) ?_
  exact loop 20 0 0 0 (by omega) rfl rfl
def mo_ov (g : Nat → Int) (o : Nat) (what : Int) : Int := if what = 0 then g (8 + 20 * o + (g 0).toNat) else if what = 1 then g (168 + o) else if what = 2 then g (176 + o) else if what = 3 then g (184 + o) else if what = 4 then mo_cnt (mo_plb g o 19) (mo_nk g) else if what = 5 then mo_ow g o (g 0).toNat else mo_hsum g o 20
def mo_ev (g : Nat → Int) (e : Nat) (what : Int) : Int := if what = 0 then g (192 + e) else if what = 1 then g (198 + e) else if what = 2 then mo_mny g (g 0) (mo_nk g) e else g (204 + e)
def mo_nv (g : Nat → Int) (what : Int) : Int := if what = 0 then g 4 else if what = 1 then g 5 else if what = 2 then g 6 else if what = 3 then g 7 else if what = 4 then g 0 else if what = 5 then g 1 else if what = 6 then g 2 else if what = 7 then g 3 else if what = 8 then mo_owa g (g 0).toNat else g 1
set_option maxHeartbeats 4000000 in
set_option maxRecDepth 100000 in
theorem ct5_orderValue {lf : Launch} {ρf : mo_E} {G : mo_G} {M : mo_M} {t : Nat} {m : Nat} (hm : mo_Md G m) {B what : Int} {o : Nat} (hI : mo_Iv (M (m + 1)) B) (hB : B ≤ 1000000000) (ho : o < 8) (hw : 0 ≤ what ∧ what ≤ 6) : mo_Ct lf ρf yX5_orderValue cX5_orderValue 3 (some .int) 2 0 0 [.ref m, mo_iv o, mo_iv what] G M t (mo_pi G t (fun x M' => x = mo_ov (M (m + 1)) o what ∧ M = M')) := by
  refine mo_ofW (ls0 := [some (.ref m), some (mo_iv o), some (mo_iv what)]) (by decide) rfl (Nat.le_of_ble_eq_true rfl) ?_
  intro κ X Y
  have X : mo_Cx κ lf ρf cX5_orderValue 3 RX5 (some .int) 2 := X
  obtain ⟨hI0, hI1, hI2, hI3, hI4, hI5, hI6, hI7, hIh, hIa, hIe, hIm, hIs, hIl, hIw, hIr, hIt, hIs2, hIs3, hIz⟩ := id hI
  have hn : ((mo_nk (M (m + 1)) : Nat) : Int) = M (m + 1) 7 := by unfold mo_nk; omega
  obtain ⟨wn, hwn⟩ := Int.eq_ofNat_of_zero_le hI0.1
  have hov : ∀ v, mo_ov (M (m + 1)) o v = if v = 0 then M (m + 1) (8 + 20 * o + wn) else if v = 1 then M (m + 1) (168 + o) else if v = 2 then M (m + 1) (176 + o) else if v = 3 then M (m + 1) (184 + o) else if v = 4 then mo_cnt (mo_plb (M (m + 1)) o 19) (mo_nk (M (m + 1))) else if v = 5 then mo_ow (M (m + 1)) o wn else mo_hsum (M (m + 1)) o 20 := fun v => by
    unfold mo_ov
    rw [hwn, Int.toNat_natCast]
  rcases (show what = 0 ∨ what = 1 ∨ what = 2 ∨ what = 3 ∨ what = 4 ∨ what = 5 ∨ what = 6 by omega) with rfl | rfl | rfl | rfl | rfl | rfl | rfl
  · skip
    refine mo_il2 (pc := 0) X dX5_orderValue_0 ?_
    refine mo_swIn (pc := 1) (tgt := 40) (off := 39) X dX5_orderValue_1 (by decide) (by decide) (by decide) rfl (by decide) ?_
    refine mo_al0 (pc := 40) X dX5_orderValue_40 ?_
    refine mo_f_X5_7 (pc := 41) X dX5_orderValue_41 (mo_Md_o hm) (mo_Md_p0 hm) ?_
    refine mo_bipush (pc := 44) X dX5_orderValue_44 (by decide) ?_
    refine mo_bipush (pc := 46) X dX5_orderValue_46 (by decide) ?_
    refine mo_il1 (pc := 48) X dX5_orderValue_48 ?_
    refine mo_imul (pc := 49) X dX5_orderValue_49 ?_
    refine mo_iadd (pc := 50) X dX5_orderValue_50 ?_
    refine mo_al0 (pc := 51) X dX5_orderValue_51 ?_
    refine mo_f_X5_7 (pc := 52) X dX5_orderValue_52 (mo_Md_o hm) (mo_Md_p0 hm) ?_
    refine mo_iconst (pc := 55) X dX5_orderValue_55 ?_
    refine mo_iald (pc := 56) (j := 0) X dX5_orderValue_56 (mo_Md_r0 hm) (by omega) ?_ ?_ rfl ?_
    · omega
    · omega
    rw [hwn]
    refine mo_iadd (pc := 57) X dX5_orderValue_57 ?_
    refine mo_iald (pc := 58) (j := 8 + 20 * o + wn) X dX5_orderValue_58 (mo_Md_r0 hm) (by omega) ?_ ?_ (by omega) ?_
    · omega
    · omega
    refine mo_iret (pc := 59) X Y rfl dX5_orderValue_59 ⟨rfl, rfl, _, rfl, ?_⟩
    refine ⟨?_, rfl⟩
    rw [hov]
    rfl
  · skip
    refine mo_il2 (pc := 0) X dX5_orderValue_0 ?_
    refine mo_swIn (pc := 1) (tgt := 60) (off := 59) X dX5_orderValue_1 (by decide) (by decide) (by decide) rfl (by decide) ?_
    refine mo_al0 (pc := 60) X dX5_orderValue_60 ?_
    refine mo_f_X5_7 (pc := 61) X dX5_orderValue_61 (mo_Md_o hm) (mo_Md_p0 hm) ?_
    refine mo_sipush (pc := 64) X dX5_orderValue_64 (by decide) ?_
    refine mo_il1 (pc := 67) X dX5_orderValue_67 ?_
    refine mo_iadd (pc := 68) X dX5_orderValue_68 ?_
    refine mo_iald (pc := 69) (j := 168 + o) X dX5_orderValue_69 (mo_Md_r0 hm) (by omega) ?_ ?_ (by omega) ?_
    · omega
    · omega
    refine mo_iret (pc := 70) X Y rfl dX5_orderValue_70 ⟨rfl, rfl, _, rfl, ?_⟩
    refine ⟨?_, rfl⟩
    rw [hov]
    rfl
  · skip
    refine mo_il2 (pc := 0) X dX5_orderValue_0 ?_
    refine mo_swIn (pc := 1) (tgt := 71) (off := 70) X dX5_orderValue_1 (by decide) (by decide) (by decide) rfl (by decide) ?_
    refine mo_al0 (pc := 71) X dX5_orderValue_71 ?_
    refine mo_f_X5_7 (pc := 72) X dX5_orderValue_72 (mo_Md_o hm) (mo_Md_p0 hm) ?_
    refine mo_sipush (pc := 75) X dX5_orderValue_75 (by decide) ?_
    refine mo_il1 (pc := 78) X dX5_orderValue_78 ?_
    refine mo_iadd (pc := 79) X dX5_orderValue_79 ?_
    refine mo_iald (pc := 80) (j := 176 + o) X dX5_orderValue_80 (mo_Md_r0 hm) (by omega) ?_ ?_ (by omega) ?_
    · omega
    · omega
    refine mo_iret (pc := 81) X Y rfl dX5_orderValue_81 ⟨rfl, rfl, _, rfl, ?_⟩
    refine ⟨?_, rfl⟩
    rw [hov]
    rfl
  · skip
    refine mo_il2 (pc := 0) X dX5_orderValue_0 ?_
    refine mo_swIn (pc := 1) (tgt := 82) (off := 81) X dX5_orderValue_1 (by decide) (by decide) (by decide) rfl (by decide) ?_
    refine mo_al0 (pc := 82) X dX5_orderValue_82 ?_
    refine mo_f_X5_7 (pc := 83) X dX5_orderValue_83 (mo_Md_o hm) (mo_Md_p0 hm) ?_
    refine mo_sipush (pc := 86) X dX5_orderValue_86 (by decide) ?_
    refine mo_il1 (pc := 89) X dX5_orderValue_89 ?_
    refine mo_iadd (pc := 90) X dX5_orderValue_90 ?_
    refine mo_iald (pc := 91) (j := 184 + o) X dX5_orderValue_91 (mo_Md_r0 hm) (by omega) ?_ ?_ (by omega) ?_
    · omega
    · omega
    refine mo_iret (pc := 92) X Y rfl dX5_orderValue_92 ⟨rfl, rfl, _, rfl, ?_⟩
    refine ⟨?_, rfl⟩
    rw [hov]
    rfl
  · skip
    refine mo_il2 (pc := 0) X dX5_orderValue_0 ?_
    refine mo_swIn (pc := 1) (tgt := 93) (off := 92) X dX5_orderValue_1 (by decide) (by decide) (by decide) rfl (by decide) ?_
    refine mo_al0 (pc := 93) X dX5_orderValue_93 ?_
    refine mo_il1 (pc := 94) X dX5_orderValue_94 ?_
    refine mo_cVI (pc := 95) (As := [_]) X mo_k_X5_168 mo_y_yX5_plannedOf rfl dX5_orderValue_95 (ct5_plannedOf (o := o) hm hI hB ho) (mo_Md_o hm) rfl (by decide) (by decide) (Nat.le_of_ble_eq_true rfl) ?_
    rintro r_95 _ ⟨h_95, rfl⟩
    refine mo_iret (pc := 98) X Y rfl dX5_orderValue_98 ⟨rfl, rfl, _, rfl, ?_⟩
    refine ⟨?_, rfl⟩
    rw [hov]
    exact h_95
  · skip
    refine mo_il2 (pc := 0) X dX5_orderValue_0 ?_
    refine mo_swIn (pc := 1) (tgt := 99) (off := 98) X dX5_orderValue_1 (by decide) (by decide) (by decide) rfl (by decide) ?_
    refine mo_al0 (pc := 99) X dX5_orderValue_99 ?_
    refine mo_il1 (pc := 100) X dX5_orderValue_100 ?_
    refine mo_al0 (pc := 101) X dX5_orderValue_101 ?_
    refine mo_f_X5_7 (pc := 102) X dX5_orderValue_102 (mo_Md_o hm) (mo_Md_p0 hm) ?_
    refine mo_iconst (pc := 105) X dX5_orderValue_105 ?_
    refine mo_iald (pc := 106) (j := 0) X dX5_orderValue_106 (mo_Md_r0 hm) (by omega) ?_ ?_ rfl ?_
    · omega
    · omega
    rw [hwn]
    refine mo_cVI (pc := 107) (As := [_, _]) X mo_k_X5_126 mo_y_yX5_owes rfl dX5_orderValue_107 (ct5_owes (o := o) (w := wn) hm hI hB ho (by omega)) (mo_Md_o hm) rfl (by decide) (by decide) (Nat.le_of_ble_eq_true rfl) ?_
    rintro r_107 _ ⟨h_107, rfl⟩
    refine mo_iret (pc := 110) X Y rfl dX5_orderValue_110 ⟨rfl, rfl, _, rfl, ?_⟩
    refine ⟨?_, rfl⟩
    rw [hov]
    exact h_107
  · skip
    refine mo_il2 (pc := 0) X dX5_orderValue_0 ?_
    refine mo_swOut (pc := 1) (tgt := 111) X dX5_orderValue_1 (by decide) (by decide) (by decide) ?_
    refine mo_al0 (pc := 111) X dX5_orderValue_111 ?_
    refine mo_il1 (pc := 112) X dX5_orderValue_112 ?_
    refine mo_cVI (pc := 113) (As := [_]) X mo_k_X5_171 mo_y_yX5_hoursOf rfl dX5_orderValue_113 (ct5_hoursOf (o := o) hm ho) (mo_Md_o hm) rfl (by decide) (by decide) (Nat.le_of_ble_eq_true rfl) ?_
    rintro r_113 _ ⟨h_113, rfl⟩
    refine mo_iret (pc := 116) X Y rfl dX5_orderValue_116 ⟨rfl, rfl, _, rfl, ?_⟩
    refine ⟨?_, rfl⟩
    rw [hov]
    exact h_113
set_option maxHeartbeats 4000000 in
set_option maxRecDepth 100000 in
theorem ct5_numberOf {lf : Launch} {ρf : mo_E} {G : mo_G} {M : mo_M} {t : Nat} {m : Nat} (hm : mo_Md G m) {B what : Int} (hI : mo_Iv (M (m + 1)) B) (hB : B ≤ 1000000000) (hw : 0 ≤ what ∧ what ≤ 9) : mo_Ct lf ρf yX5_numberOf cX5_numberOf 2 (some .int) 3 0 0 [.ref m, mo_iv what] G M t (mo_pi G t (fun x M' => x = mo_nv (M (m + 1)) what ∧ M = M')) := by
  refine mo_ofW (ls0 := [some (.ref m), some (mo_iv what)]) (by decide) rfl (Nat.le_of_ble_eq_true rfl) ?_
  intro κ X Y
  have X : mo_Cx κ lf ρf cX5_numberOf 2 RX5 (some .int) 3 := X
  obtain ⟨hI0, hI1, hI2, hI3, hI4, hI5, hI6, hI7, hIh, hIa, hIe, hIm, hIs, hIl, hIw, hIr, hIt, hIs2, hIs3, hIz⟩ := id hI
  have hn : ((mo_nk (M (m + 1)) : Nat) : Int) = M (m + 1) 7 := by unfold mo_nk; omega
  obtain ⟨wn, hwn⟩ := Int.eq_ofNat_of_zero_le hI0.1
  rcases (show what = 0 ∨ what = 1 ∨ what = 2 ∨ what = 3 ∨ what = 4 ∨ what = 5 ∨ what = 6 ∨ what = 7 ∨ what = 8 ∨ what = 9 by omega) with rfl | rfl | rfl | rfl | rfl | rfl | rfl | rfl | rfl | rfl
  · skip
    refine mo_il1 (pc := 0) X dX5_numberOf_0 ?_
    refine mo_swIn (pc := 1) (tgt := 56) (off := 55) X dX5_numberOf_1 (by decide) (by decide) (by decide) rfl (by decide) ?_
    refine mo_al0 (pc := 56) X dX5_numberOf_56 ?_
    refine mo_f_X5_7 (pc := 57) X dX5_numberOf_57 (mo_Md_o hm) (mo_Md_p0 hm) ?_
    refine mo_iconst (pc := 60) X dX5_numberOf_60 ?_
    refine mo_il1 (pc := 61) X dX5_numberOf_61 ?_
    refine mo_iadd (pc := 62) X dX5_numberOf_62 ?_
    refine mo_iald (pc := 63) (j := 4) X dX5_numberOf_63 (mo_Md_r0 hm) (by omega) ?_ ?_ (by omega) ?_
    · omega
    · omega
    refine mo_iret (pc := 64) X Y rfl dX5_numberOf_64 ⟨rfl, rfl, _, rfl, ?_⟩
    exact ⟨rfl, rfl⟩
  · skip
    refine mo_il1 (pc := 0) X dX5_numberOf_0 ?_
    refine mo_swIn (pc := 1) (tgt := 56) (off := 55) X dX5_numberOf_1 (by decide) (by decide) (by decide) rfl (by decide) ?_
    refine mo_al0 (pc := 56) X dX5_numberOf_56 ?_
    refine mo_f_X5_7 (pc := 57) X dX5_numberOf_57 (mo_Md_o hm) (mo_Md_p0 hm) ?_
    refine mo_iconst (pc := 60) X dX5_numberOf_60 ?_
    refine mo_il1 (pc := 61) X dX5_numberOf_61 ?_
    refine mo_iadd (pc := 62) X dX5_numberOf_62 ?_
    refine mo_iald (pc := 63) (j := 5) X dX5_numberOf_63 (mo_Md_r0 hm) (by omega) ?_ ?_ (by omega) ?_
    · omega
    · omega
    refine mo_iret (pc := 64) X Y rfl dX5_numberOf_64 ⟨rfl, rfl, _, rfl, ?_⟩
    exact ⟨rfl, rfl⟩
  · skip
    refine mo_il1 (pc := 0) X dX5_numberOf_0 ?_
    refine mo_swIn (pc := 1) (tgt := 56) (off := 55) X dX5_numberOf_1 (by decide) (by decide) (by decide) rfl (by decide) ?_
    refine mo_al0 (pc := 56) X dX5_numberOf_56 ?_
    refine mo_f_X5_7 (pc := 57) X dX5_numberOf_57 (mo_Md_o hm) (mo_Md_p0 hm) ?_
    refine mo_iconst (pc := 60) X dX5_numberOf_60 ?_
    refine mo_il1 (pc := 61) X dX5_numberOf_61 ?_
    refine mo_iadd (pc := 62) X dX5_numberOf_62 ?_
    refine mo_iald (pc := 63) (j := 6) X dX5_numberOf_63 (mo_Md_r0 hm) (by omega) ?_ ?_ (by omega) ?_
    · omega
    · omega
    refine mo_iret (pc := 64) X Y rfl dX5_numberOf_64 ⟨rfl, rfl, _, rfl, ?_⟩
    exact ⟨rfl, rfl⟩
  · skip
    refine mo_il1 (pc := 0) X dX5_numberOf_0 ?_
    refine mo_swIn (pc := 1) (tgt := 56) (off := 55) X dX5_numberOf_1 (by decide) (by decide) (by decide) rfl (by decide) ?_
    refine mo_al0 (pc := 56) X dX5_numberOf_56 ?_
    refine mo_f_X5_7 (pc := 57) X dX5_numberOf_57 (mo_Md_o hm) (mo_Md_p0 hm) ?_
    refine mo_iconst (pc := 60) X dX5_numberOf_60 ?_
    refine mo_il1 (pc := 61) X dX5_numberOf_61 ?_
    refine mo_iadd (pc := 62) X dX5_numberOf_62 ?_
    refine mo_iald (pc := 63) (j := 7) X dX5_numberOf_63 (mo_Md_r0 hm) (by omega) ?_ ?_ (by omega) ?_
    · omega
    · omega
    refine mo_iret (pc := 64) X Y rfl dX5_numberOf_64 ⟨rfl, rfl, _, rfl, ?_⟩
    exact ⟨rfl, rfl⟩
  · skip
    refine mo_il1 (pc := 0) X dX5_numberOf_0 ?_
    refine mo_swIn (pc := 1) (tgt := 65) (off := 64) X dX5_numberOf_1 (by decide) (by decide) (by decide) rfl (by decide) ?_
    refine mo_al0 (pc := 65) X dX5_numberOf_65 ?_
    refine mo_f_X5_7 (pc := 66) X dX5_numberOf_66 (mo_Md_o hm) (mo_Md_p0 hm) ?_
    refine mo_iconst (pc := 69) X dX5_numberOf_69 ?_
    refine mo_iald (pc := 70) (j := 0) X dX5_numberOf_70 (mo_Md_r0 hm) (by omega) ?_ ?_ rfl ?_
    · omega
    · omega
    refine mo_iret (pc := 71) X Y rfl dX5_numberOf_71 ⟨rfl, rfl, _, rfl, ?_⟩
    exact ⟨rfl, rfl⟩
  · skip
    refine mo_il1 (pc := 0) X dX5_numberOf_0 ?_
    refine mo_swIn (pc := 1) (tgt := 72) (off := 71) X dX5_numberOf_1 (by decide) (by decide) (by decide) rfl (by decide) ?_
    refine mo_al0 (pc := 72) X dX5_numberOf_72 ?_
    refine mo_f_X5_7 (pc := 73) X dX5_numberOf_73 (mo_Md_o hm) (mo_Md_p0 hm) ?_
    refine mo_iconst (pc := 76) X dX5_numberOf_76 ?_
    refine mo_iald (pc := 77) (j := 1) X dX5_numberOf_77 (mo_Md_r0 hm) (by omega) ?_ ?_ rfl ?_
    · omega
    · omega
    refine mo_iret (pc := 78) X Y rfl dX5_numberOf_78 ⟨rfl, rfl, _, rfl, ?_⟩
    exact ⟨rfl, rfl⟩
  · skip
    refine mo_il1 (pc := 0) X dX5_numberOf_0 ?_
    refine mo_swIn (pc := 1) (tgt := 79) (off := 78) X dX5_numberOf_1 (by decide) (by decide) (by decide) rfl (by decide) ?_
    refine mo_al0 (pc := 79) X dX5_numberOf_79 ?_
    refine mo_f_X5_7 (pc := 80) X dX5_numberOf_80 (mo_Md_o hm) (mo_Md_p0 hm) ?_
    refine mo_iconst (pc := 83) X dX5_numberOf_83 ?_
    refine mo_iald (pc := 84) (j := 2) X dX5_numberOf_84 (mo_Md_r0 hm) (by omega) ?_ ?_ rfl ?_
    · omega
    · omega
    refine mo_iret (pc := 85) X Y rfl dX5_numberOf_85 ⟨rfl, rfl, _, rfl, ?_⟩
    exact ⟨rfl, rfl⟩
  · skip
    refine mo_il1 (pc := 0) X dX5_numberOf_0 ?_
    refine mo_swIn (pc := 1) (tgt := 86) (off := 85) X dX5_numberOf_1 (by decide) (by decide) (by decide) rfl (by decide) ?_
    refine mo_al0 (pc := 86) X dX5_numberOf_86 ?_
    refine mo_f_X5_7 (pc := 87) X dX5_numberOf_87 (mo_Md_o hm) (mo_Md_p0 hm) ?_
    refine mo_iconst (pc := 90) X dX5_numberOf_90 ?_
    refine mo_iald (pc := 91) (j := 3) X dX5_numberOf_91 (mo_Md_r0 hm) (by omega) ?_ ?_ rfl ?_
    · omega
    · omega
    refine mo_iret (pc := 92) X Y rfl dX5_numberOf_92 ⟨rfl, rfl, _, rfl, ?_⟩
    exact ⟨rfl, rfl⟩
  · skip
    refine mo_il1 (pc := 0) X dX5_numberOf_0 ?_
    refine mo_swIn (pc := 1) (tgt := 93) (off := 92) X dX5_numberOf_1 (by decide) (by decide) (by decide) rfl (by decide) ?_
    refine mo_al0 (pc := 93) X dX5_numberOf_93 ?_
    refine mo_al0 (pc := 94) X dX5_numberOf_94 ?_
    refine mo_f_X5_7 (pc := 95) X dX5_numberOf_95 (mo_Md_o hm) (mo_Md_p0 hm) ?_
    refine mo_iconst (pc := 98) X dX5_numberOf_98 ?_
    refine mo_iald (pc := 99) (j := 0) X dX5_numberOf_99 (mo_Md_r0 hm) (by omega) ?_ ?_ rfl ?_
    · omega
    · omega
    rw [hwn]
    refine mo_cVI (pc := 100) (As := [_]) X mo_k_X5_189 mo_y_yX5_owedByAll rfl dX5_numberOf_100 (ct5_owedByAll (w := wn) hm hI hB (by omega)) (mo_Md_o hm) rfl (by decide) (by decide) (Nat.le_of_ble_eq_true rfl) ?_
    rintro r_100 _ ⟨h_100, rfl⟩
    refine mo_iret (pc := 103) X Y rfl dX5_numberOf_103 ⟨rfl, rfl, _, rfl, ?_⟩
    refine ⟨?_, rfl⟩
    rw [h_100]
    show _ = mo_owa (M (m + 1)) (M (m + 1) 0).toNat
    rw [hwn, Int.toNat_natCast]
  · skip
    refine mo_il1 (pc := 0) X dX5_numberOf_0 ?_
    refine mo_swIn (pc := 1) (tgt := 72) (off := 71) X dX5_numberOf_1 (by decide) (by decide) (by decide) rfl (by decide) ?_
    refine mo_al0 (pc := 72) X dX5_numberOf_72 ?_
    refine mo_f_X5_7 (pc := 73) X dX5_numberOf_73 (mo_Md_o hm) (mo_Md_p0 hm) ?_
    refine mo_iconst (pc := 76) X dX5_numberOf_76 ?_
    refine mo_iald (pc := 77) (j := 1) X dX5_numberOf_77 (mo_Md_r0 hm) (by omega) ?_ ?_ rfl ?_
    · omega
    · omega
    refine mo_iret (pc := 78) X Y rfl dX5_numberOf_78 ⟨rfl, rfl, _, rfl, ?_⟩
    exact ⟨rfl, rfl⟩
set_option maxHeartbeats 4000000 in
set_option maxRecDepth 100000 in
theorem ct5_manyNow {lf : Launch} {ρf : mo_E} {G : mo_G} {M : mo_M} {t : Nat} {m : Nat} (hm : mo_Md G m) {B : Int} {e : Nat} (hI : mo_Iv (M (m + 1)) B) (hB : B ≤ 1000000000) (he : e < 6) : mo_Ct lf ρf yX5_manyNow cX5_manyNow 2 (some .int) 3 0 0 [.ref m, mo_iv e] G M t (mo_pi G t (fun x M' => ∃ f4 f5 f6 f7, M' = mo_sc M m f4 f5 f6 f7 ∧ x = mo_mny (M (m + 1)) (M (m + 1) 0) (mo_nk (M (m + 1))) e)) := by
  refine mo_ofW (ls0 := [some (.ref m), some (mo_iv e)]) (by decide) rfl (Nat.le_of_ble_eq_true rfl) ?_
  intro κ X Y
  have X : mo_Cx κ lf ρf cX5_manyNow 2 RX5 (some .int) 3 := X
  obtain ⟨hI0, hI1, hI2, hI3, hI4, hI5, hI6, hI7, hIh, hIa, hIe, hIm, hIs, hIl, hIw, hIr, hIt, hIs2, hIs3, hIz⟩ := id hI
  have hn : ((mo_nk (M (m + 1)) : Nat) : Int) = M (m + 1) 7 := by unfold mo_nk; omega
  refine mo_al0 (pc := 0) X dX5_manyNow_0 ?_
  refine mo_al0 (pc := 1) X dX5_manyNow_1 ?_
  refine mo_f_X5_7 (pc := 2) X dX5_manyNow_2 (mo_Md_o hm) (mo_Md_p0 hm) ?_
  refine mo_iconst (pc := 5) X dX5_manyNow_5 ?_
  refine mo_iald (pc := 6) (j := 0) X dX5_manyNow_6 (mo_Md_r0 hm) (by omega) ?_ ?_ rfl ?_
  · omega
  · omega
  refine mo_cVV (pc := 7) (As := [_]) X mo_k_X5_98 mo_y_yX5_look rfl dX5_manyNow_7 (ct5_look (w := M (m + 1) 0) hm hI hB (by omega)) (mo_Md_o hm) rfl (by decide) (by decide) (Nat.le_of_ble_eq_true rfl) ?_
  rintro M_7 ⟨f4, f5, f6, f7, h_7, hL⟩
  refine mo_al0 (pc := 10) X dX5_manyNow_10 ?_
  refine mo_f_X5_25 (pc := 11) X dX5_manyNow_11 (mo_Md_o hm) (mo_Md_p7 hm) ?_
  refine mo_il1 (pc := 14) X dX5_manyNow_14 ?_
  refine mo_iald (pc := 15) (j := e) X dX5_manyNow_15 (mo_Md_r7 hm) (by omega) ?_ ?_ (by omega) ?_
  · omega
  · omega
  refine mo_iret (pc := 16) X Y rfl dX5_manyNow_16 ⟨rfl, rfl, _, rfl, ?_⟩
  refine ⟨f4, f5, f6, f7, h_7, ?_⟩
  rw [hL.2.2.1 e he, h_7, mo_sc_r1]
set_option maxHeartbeats 4000000 in
set_option maxRecDepth 100000 in
theorem ct5_escortValue {lf : Launch} {ρf : mo_E} {G : mo_G} {M : mo_M} {t : Nat} {m : Nat} (hm : mo_Md G m) {B what : Int} {e : Nat} (hI : mo_Iv (M (m + 1)) B) (hB : B ≤ 1000000000) (he : e < 6) (hw : 0 ≤ what ∧ what ≤ 3) : mo_Ct lf ρf yX5_escortValue cX5_escortValue 3 (some .int) 4 0 0 [.ref m, mo_iv e, mo_iv what] G M t (mo_pi G t (fun x M' => ∃ f4 f5 f6 f7, M' = mo_sc M m f4 f5 f6 f7 ∧ x = mo_ev (M (m + 1)) e what)) := by
  refine mo_ofW (ls0 := [some (.ref m), some (mo_iv e), some (mo_iv what)]) (by decide) rfl (Nat.le_of_ble_eq_true rfl) ?_
  intro κ X Y
  have X : mo_Cx κ lf ρf cX5_escortValue 3 RX5 (some .int) 4 := X
  obtain ⟨hI0, hI1, hI2, hI3, hI4, hI5, hI6, hI7, hIh, hIa, hIe, hIm, hIs, hIl, hIw, hIr, hIt, hIs2, hIs3, hIz⟩ := id hI
  have hn : ((mo_nk (M (m + 1)) : Nat) : Int) = M (m + 1) 7 := by unfold mo_nk; omega
  rcases (show what = 0 ∨ what = 1 ∨ what = 2 ∨ what = 3 by omega) with rfl | rfl | rfl | rfl
  · skip
    refine mo_il2 (pc := 0) X dX5_escortValue_0 ?_
    refine mo_if_ne (pc := 1) (tgt := 17) X dX5_escortValue_1 (by decide) ?_ (fun c_1 => ?_) (fun c_1 => ?_)
    · omega
    · exfalso; omega
    · skip
      refine mo_al0 (pc := 4) X dX5_escortValue_4 ?_
      refine mo_f_X5_7 (pc := 5) X dX5_escortValue_5 (mo_Md_o hm) (mo_Md_p0 hm) ?_
      refine mo_sipush (pc := 8) X dX5_escortValue_8 (by decide) ?_
      refine mo_il1 (pc := 11) X dX5_escortValue_11 ?_
      refine mo_iadd (pc := 12) X dX5_escortValue_12 ?_
      refine mo_iald (pc := 13) (j := 192 + e) X dX5_escortValue_13 (mo_Md_r0 hm) (by omega) ?_ ?_ (by omega) ?_
      · omega
      · omega
      refine mo_goto (pc := 14) (tgt := 58) X dX5_escortValue_14 (by decide) ?_
      refine mo_iret (pc := 58) X Y rfl dX5_escortValue_58 ⟨rfl, rfl, _, rfl, ?_⟩
      exact ⟨_, _, _, _, (mo_sc_id M m).symm, rfl⟩
  · skip
    refine mo_il2 (pc := 0) X dX5_escortValue_0 ?_
    refine mo_if_ne (pc := 1) (tgt := 17) X dX5_escortValue_1 (by decide) ?_ (fun c_1 => ?_) (fun c_1 => ?_)
    · omega
    · skip
      refine mo_il2 (pc := 17) X dX5_escortValue_17 ?_
      refine mo_iconst (pc := 18) X dX5_escortValue_18 ?_
      refine mo_ic_ne (pc := 19) (tgt := 35) X dX5_escortValue_19 (by decide) ?_ ?_ (fun c_19 => ?_) (fun c_19 => ?_)
      · omega
      · omega
      · exfalso; omega
      · skip
        refine mo_al0 (pc := 22) X dX5_escortValue_22 ?_
        refine mo_f_X5_7 (pc := 23) X dX5_escortValue_23 (mo_Md_o hm) (mo_Md_p0 hm) ?_
        refine mo_sipush (pc := 26) X dX5_escortValue_26 (by decide) ?_
        refine mo_il1 (pc := 29) X dX5_escortValue_29 ?_
        refine mo_iadd (pc := 30) X dX5_escortValue_30 ?_
        refine mo_iald (pc := 31) (j := 198 + e) X dX5_escortValue_31 (mo_Md_r0 hm) (by omega) ?_ ?_ (by omega) ?_
        · omega
        · omega
        refine mo_goto (pc := 32) (tgt := 58) X dX5_escortValue_32 (by decide) ?_
        refine mo_iret (pc := 58) X Y rfl dX5_escortValue_58 ⟨rfl, rfl, _, rfl, ?_⟩
        exact ⟨_, _, _, _, (mo_sc_id M m).symm, rfl⟩
    · exfalso; omega
  · skip
    refine mo_il2 (pc := 0) X dX5_escortValue_0 ?_
    refine mo_if_ne (pc := 1) (tgt := 17) X dX5_escortValue_1 (by decide) ?_ (fun c_1 => ?_) (fun c_1 => ?_)
    · omega
    · skip
      refine mo_il2 (pc := 17) X dX5_escortValue_17 ?_
      refine mo_iconst (pc := 18) X dX5_escortValue_18 ?_
      refine mo_ic_ne (pc := 19) (tgt := 35) X dX5_escortValue_19 (by decide) ?_ ?_ (fun c_19 => ?_) (fun c_19 => ?_)
      · omega
      · omega
      · skip
        refine mo_il2 (pc := 35) X dX5_escortValue_35 ?_
        refine mo_iconst (pc := 36) X dX5_escortValue_36 ?_
        refine mo_ic_ne (pc := 37) (tgt := 48) X dX5_escortValue_37 (by decide) ?_ ?_ (fun c_37 => ?_) (fun c_37 => ?_)
        · omega
        · omega
        · exfalso; omega
        · skip
          refine mo_al0 (pc := 40) X dX5_escortValue_40 ?_
          refine mo_il1 (pc := 41) X dX5_escortValue_41 ?_
          refine mo_cVI (pc := 42) (As := [_]) X mo_k_X5_181 mo_y_yX5_manyNow rfl dX5_escortValue_42 (ct5_manyNow (e := e) hm hI hB he) (mo_Md_o hm) rfl (by decide) (by decide) (Nat.le_of_ble_eq_true rfl) ?_
          rintro r_42 M_42 ⟨f4, f5, f6, f7, hM_42, h_42⟩
          refine mo_goto (pc := 45) (tgt := 58) X dX5_escortValue_45 (by decide) ?_
          refine mo_iret (pc := 58) X Y rfl dX5_escortValue_58 ⟨rfl, rfl, _, rfl, ?_⟩
          exact ⟨f4, f5, f6, f7, hM_42, h_42⟩
      · exfalso; omega
    · exfalso; omega
  · skip
    refine mo_il2 (pc := 0) X dX5_escortValue_0 ?_
    refine mo_if_ne (pc := 1) (tgt := 17) X dX5_escortValue_1 (by decide) ?_ (fun c_1 => ?_) (fun c_1 => ?_)
    · omega
    · skip
      refine mo_il2 (pc := 17) X dX5_escortValue_17 ?_
      refine mo_iconst (pc := 18) X dX5_escortValue_18 ?_
      refine mo_ic_ne (pc := 19) (tgt := 35) X dX5_escortValue_19 (by decide) ?_ ?_ (fun c_19 => ?_) (fun c_19 => ?_)
      · omega
      · omega
      · skip
        refine mo_il2 (pc := 35) X dX5_escortValue_35 ?_
        refine mo_iconst (pc := 36) X dX5_escortValue_36 ?_
        refine mo_ic_ne (pc := 37) (tgt := 48) X dX5_escortValue_37 (by decide) ?_ ?_ (fun c_37 => ?_) (fun c_37 => ?_)
        · omega
        · omega
        · skip
          refine mo_al0 (pc := 48) X dX5_escortValue_48 ?_
          refine mo_f_X5_7 (pc := 49) X dX5_escortValue_49 (mo_Md_o hm) (mo_Md_p0 hm) ?_
          refine mo_sipush (pc := 52) X dX5_escortValue_52 (by decide) ?_
          refine mo_il1 (pc := 55) X dX5_escortValue_55 ?_
          refine mo_iadd (pc := 56) X dX5_escortValue_56 ?_
          refine mo_iald (pc := 57) (j := 204 + e) X dX5_escortValue_57 (mo_Md_r0 hm) (by omega) ?_ ?_ (by omega) ?_
          · omega
          · omega
          refine mo_iret (pc := 58) X Y rfl dX5_escortValue_58 ⟨rfl, rfl, _, rfl, ?_⟩
          exact ⟨_, _, _, _, (mo_sc_id M m).symm, rfl⟩
        · exfalso; omega
      · exfalso; omega
    · exfalso; omega
