theorem mo_rs_0 {g : Nat → Int} {o : Nat} {w : Int} {q e v : Nat} (h : mo_rs g o w q e v = 0) : g 0 ≤ w ∧ mo_hb (g (168 + o)) v = true ∧ mo_hb (mo_dys g w (mo_nk g) o) ((q / 4 : Nat) : Int) = false ∧ mo_we g w e q = 0 ∧ 1 ≤ mo_fre g w (mo_nk g) (28 * v + q) ∧ g 7 ≠ 60 := by
  unfold mo_rs at h
  split at h
  · omega
  · split at h
    · omega
    · split at h
      · omega
      · split at h
        · omega
        · split at h
          · omega
          · split at h
            · omega
            · rename_i a1 a2 a3 a4 a5 a6
              refine ⟨by omega, by simpa using a2, by simpa using a3, by omega, by omega, a6⟩
theorem mo_rs_b (g : Nat → Int) (o : Nat) (w : Int) (q e v : Nat) : 0 ≤ mo_rs g o w q e v ∧ mo_rs g o w q e v ≤ 8 := by
  have h1 := mo_we_in g w e q
  unfold mo_rs
  split
  · omega
  · split
    · omega
    · split
      · omega
      · split
        · omega
        · split
          · omega
          · split <;> omega
theorem mo_Ur_of2 {M M1 M2 M' : mo_M} {m n : Nat} {g : Nat → Int} (h0 : ∀ a, mo_kp m a → M1 a = mo_ur M m (va_up (M m) 4 0) a) (h00 : M1 (m + 1) = M (m + 1)) (h2 : mo_Sv M1 M2 m n) (h3 : mo_ag (M' (m + 1)) g) (h4 : ∀ a, mo_kp m a → M' a = M2 a) : mo_Ur M M' m n g := by
  obtain ⟨s1, s2, s3, s4, s5⟩ := h2
  have e2 : M1 (m + 2) = M (m + 2) := by rw [h0 _ (by omega), mo_ur_n (by omega)]
  have e0 : M1 m = va_up (M m) 4 0 := by rw [h0 _ (by omega), mo_ur_s]
  refine ⟨?_, ?_, ?_, h3, fun k hk => ?_, fun i k hi hk => ?_, ?_, fun a ha => ?_⟩
  · rw [h4 m (Or.inl rfl), s4 4 (by omega), e0, mo_up_s]
  · rw [h4 m (Or.inl rfl)]; exact s1
  · rw [h4 m (Or.inl rfl), s4 10 (by omega), e0, mo_up_n (by omega)]
  · rw [h4 (m + 2) (by omega), s2 k hk, h00]
  · rw [h4 (m + 2) (by omega), s3 i k hi hk, e2]
  · rw [h4 (m + 8) (by omega), s5 _ (by omega) (by omega), h0 _ (by omega), mo_ur_n (by omega)]
  · rw [h4 a (by omega), s5 _ (by omega) (by omega), h0 _ (by omega), mo_ur_n (by omega)]
theorem mo_Qr_of2 {M M' : mo_M} {m : Nat} {T : Int} (h2 : mo_ag (M' (m + 1)) (M (m + 1))) (h3 : ∀ a, mo_kp m a → M' a = mo_ur M m (va_up (M m) 4 T) a) : mo_Qr M M' m T :=
  mo_Qr_of (M1 := mo_ur M m (va_up (M m) 4 T)) rfl rfl h2 h3
theorem mo_kp_sc {M : mo_M} {m : Nat} {f4 f5 f6 f7 : Nat → Int} {T : Int} {a : Nat} (h : mo_kp m a) : mo_ur (mo_sc M m f4 f5 f6 f7) m (va_up ((mo_sc M m f4 f5 f6 f7) m) 4 T) a = mo_ur M m (va_up (M m) 4 T) a := by
  by_cases c : a = m
  · subst c
    rw [mo_ur_s, mo_ur_s, mo_sc_r0]
  · rw [mo_ur_n c, mo_ur_n c, mo_sc_r _ _ _ _ _ (by omega)]
set_option maxHeartbeats 4000000 in
set_option maxRecDepth 100000 in
theorem ct5_plan {lf : Launch} {ρf : mo_E} {G : mo_G} {M : mo_M} {t : Nat} {m : Nat} (hm : mo_Md G m) {B a w q e v : Int} (hI : mo_Iv (M (m + 1)) B) (hB : B ≤ 800000000) {n : Nat} (hs : M m 2 = n) (hn4 : n ≤ 4) (ha : mo_In a) (hw : mo_In w) (hq : mo_In q) (he : mo_In e) (hv : mo_In v) : mo_Ct lf ρf yX5_plan cX5_plan 8 (some .int) 4 0 0 [.ref m, mo_iv a, mo_iv w, mo_iv q, mo_iv e, mo_iv v] G M t (mo_pi G t (fun x M' => (¬ ((0 ≤ a ∧ a < M (m + 1) 4) ∧ (0 ≤ e ∧ e < M (m + 1) 5) ∧ (0 ≤ v ∧ v < M (m + 1) 6)) ∧ x = 0 ∧ mo_Qr M M' m 1) ∨ (((0 ≤ a ∧ a < M (m + 1) 4) ∧ (0 ≤ e ∧ e < M (m + 1) 5) ∧ (0 ≤ v ∧ v < M (m + 1) 6)) ∧ ¬ ((0 ≤ w ∧ w ≤ 19) ∧ (0 ≤ q ∧ q ≤ 27)) ∧ x = 0 ∧ mo_Qr M M' m 2) ∨ (((0 ≤ a ∧ a < M (m + 1) 4) ∧ (0 ≤ e ∧ e < M (m + 1) 5) ∧ (0 ≤ v ∧ v < M (m + 1) 6)) ∧ ((0 ≤ w ∧ w ≤ 19) ∧ (0 ≤ q ∧ q ≤ 27)) ∧ mo_rs (M (m + 1)) a.toNat w.toNat q.toNat e.toNat v.toNat ≠ 0 ∧ x = 0 ∧ mo_Qr M M' m 3) ∨ (((0 ≤ a ∧ a < M (m + 1) 4) ∧ (0 ≤ e ∧ e < M (m + 1) 5) ∧ (0 ≤ v ∧ v < M (m + 1) 6)) ∧ ((0 ≤ w ∧ w ≤ 19) ∧ (0 ≤ q ∧ q ≤ 27)) ∧ mo_rs (M (m + 1)) a.toNat w.toNat q.toNat e.toNat v.toNat = 0 ∧ x = M (m + 1) 1 ∧ mo_Ur M M' m n (mo_ly (M (m + 1)) a w q e v)))) := by
  refine mo_ofW (ls0 := [some (.ref m), some (mo_iv a), some (mo_iv w), some (mo_iv q), some (mo_iv e), some (mo_iv v), none, none]) (by decide) rfl (Nat.le_of_ble_eq_true rfl) ?_
  intro κ X Y
  have X : mo_Cx κ lf ρf cX5_plan 8 RX5 (some .int) 4 := X
  obtain ⟨hI0, hI1, hI2, hI3, hI4, hI5, hI6, hI7, hIh, hIa, hIe, hIm, hIs, hIl, hIw, hIr, hIt, hIs2, hIs3, hIz⟩ := id hI
  have hn : ((mo_nk (M (m + 1)) : Nat) : Int) = M (m + 1) 7 := by unfold mo_nk; omega
  refine mo_al0 (pc := 0) X dX5_plan_0 ?_
  refine mo_il1 (pc := 1) X dX5_plan_1 ?_
  refine mo_il4 (pc := 2) X dX5_plan_2 ?_
  refine mo_il5 (pc := 4) X dX5_plan_4 ?_
  refine mo_cVI (pc := 6) (As := [_, _, _]) X mo_k_X5_108 mo_y_yX5_areThere rfl dX5_plan_6 (ct5_areThere hm (B := B) hI (by omega) ha he hv) (mo_Md_o hm) rfl (by decide) (by decide) (Nat.le_of_ble_eq_true rfl) ?_
  rintro r_6 _ ⟨h_6, rfl⟩
  refine mo_is6 (pc := 9) X dX5_plan_9 rfl (by decide) ?_
  refine mo_il6 (pc := 11) X dX5_plan_11 ?_
  refine mo_if_eq (pc := 13) (tgt := 34) X dX5_plan_13 (by decide) ?_ (fun c_13 => ?_) (fun c_13 => ?_)
  · omega
  · skip
    refine mo_iconst (pc := 34) X dX5_plan_34 ?_
    refine mo_is7 (pc := 35) X dX5_plan_35 rfl (by decide) ?_
    refine mo_al0 (pc := 37) X dX5_plan_37 ?_
    refine mo_il6 (pc := 38) X dX5_plan_38 ?_
    refine mo_il7 (pc := 40) X dX5_plan_40 ?_
    refine mo_il7 (pc := 42) X dX5_plan_42 ?_
    refine mo_if_eq (pc := 44) (tgt := 65) X dX5_plan_44 (by decide) ?_ (fun c_44 => ?_) (fun c_44 => ?_)
    · omega
    · skip
      refine mo_iconst (pc := 65) X dX5_plan_65 ?_
      refine mo_cVI (pc := 66) (As := [_, _, _]) X mo_k_X5_58 mo_y_yX5_goes rfl dX5_plan_66 (ct5_goes hm (by omega) (by omega) (by omega)) (mo_Md_o hm) rfl (by decide) (by decide) (Nat.le_of_ble_eq_true rfl) ?_
      rintro r_66 M_66 ⟨T_66, hT_66, h_66⟩
      refine mo_if_ne (pc := 69) (tgt := 74) X dX5_plan_69 (by decide) ?_ (fun c_69 => ?_) (fun c_69 => ?_)
      · omega
      · skip
        exfalso
        omega
      · skip
        refine mo_iconst (pc := 72) X dX5_plan_72 ?_
        refine mo_iret (pc := 73) X Y rfl dX5_plan_73 ⟨rfl, rfl, _, rfl, ?_⟩
        rcases h_66 with z | z | z | z
        all_goals
          first
            | exact Or.inl ⟨by omega, rfl, mo_Qr_go hT_66 (by omega)⟩
            | exact Or.inr (Or.inl ⟨by omega, by omega, rfl, mo_Qr_go hT_66 (by omega)⟩)
            | exact Or.inr (Or.inr (Or.inl ⟨by omega, by omega, by simp only [Int.toNat_natCast]; rw [← h_55]; omega, rfl, mo_Qr_of2 (by rw [hT_66, mo_ur_n (by omega), e55]; exact mo_ag_rf _) (fun c hc => by
                rw [hT_66, hM_55, show T_66 = 3 by omega]
                exact mo_kp_sc hc)⟩))
            | (exfalso; omega)
    · exfalso; omega
  · skip
    refine mo_il2 (pc := 16) X dX5_plan_16 ?_
    refine mo_cSI (pc := 17) (As := [_]) X mo_k_X5_112 mo_y_yX5_isWeek dX5_plan_17 (ct5_isWeek hw) rfl (by decide) (by decide) (Nat.le_of_ble_eq_true rfl) ?_
    rintro r_17 _ ⟨h_17, rfl⟩
    refine mo_if_eq (pc := 20) (tgt := 34) X dX5_plan_20 (by decide) ?_ (fun c_20 => ?_) (fun c_20 => ?_)
    · omega
    · skip
      refine mo_iconst (pc := 34) X dX5_plan_34 ?_
      refine mo_is7 (pc := 35) X dX5_plan_35 rfl (by decide) ?_
      refine mo_al0 (pc := 37) X dX5_plan_37 ?_
      refine mo_il6 (pc := 38) X dX5_plan_38 ?_
      refine mo_il7 (pc := 40) X dX5_plan_40 ?_
      refine mo_il7 (pc := 42) X dX5_plan_42 ?_
      refine mo_if_eq (pc := 44) (tgt := 65) X dX5_plan_44 (by decide) ?_ (fun c_44 => ?_) (fun c_44 => ?_)
      · omega
      · skip
        refine mo_iconst (pc := 65) X dX5_plan_65 ?_
        refine mo_cVI (pc := 66) (As := [_, _, _]) X mo_k_X5_58 mo_y_yX5_goes rfl dX5_plan_66 (ct5_goes hm (by omega) (by omega) (by omega)) (mo_Md_o hm) rfl (by decide) (by decide) (Nat.le_of_ble_eq_true rfl) ?_
        rintro r_66 M_66 ⟨T_66, hT_66, h_66⟩
        refine mo_if_ne (pc := 69) (tgt := 74) X dX5_plan_69 (by decide) ?_ (fun c_69 => ?_) (fun c_69 => ?_)
        · omega
        · skip
          exfalso
          omega
        · skip
          refine mo_iconst (pc := 72) X dX5_plan_72 ?_
          refine mo_iret (pc := 73) X Y rfl dX5_plan_73 ⟨rfl, rfl, _, rfl, ?_⟩
          rcases h_66 with z | z | z | z
          all_goals
            first
              | exact Or.inl ⟨by omega, rfl, mo_Qr_go hT_66 (by omega)⟩
              | exact Or.inr (Or.inl ⟨by omega, by omega, rfl, mo_Qr_go hT_66 (by omega)⟩)
              | exact Or.inr (Or.inr (Or.inl ⟨by omega, by omega, by simp only [Int.toNat_natCast]; rw [← h_55]; omega, rfl, mo_Qr_of2 (by rw [hT_66, mo_ur_n (by omega), e55]; exact mo_ag_rf _) (fun c hc => by
                  rw [hT_66, hM_55, show T_66 = 3 by omega]
                  exact mo_kp_sc hc)⟩))
              | (exfalso; omega)
      · exfalso; omega
    · skip
      refine mo_il3 (pc := 23) X dX5_plan_23 ?_
      refine mo_cSI (pc := 24) (As := [_]) X mo_k_X5_115 mo_y_yX5_isSlot dX5_plan_24 (ct5_isSlot hq) rfl (by decide) (by decide) (Nat.le_of_ble_eq_true rfl) ?_
      rintro r_24 _ ⟨h_24, rfl⟩
      refine mo_if_eq (pc := 27) (tgt := 34) X dX5_plan_27 (by decide) ?_ (fun c_27 => ?_) (fun c_27 => ?_)
      · omega
      · skip
        refine mo_iconst (pc := 34) X dX5_plan_34 ?_
        refine mo_is7 (pc := 35) X dX5_plan_35 rfl (by decide) ?_
        refine mo_al0 (pc := 37) X dX5_plan_37 ?_
        refine mo_il6 (pc := 38) X dX5_plan_38 ?_
        refine mo_il7 (pc := 40) X dX5_plan_40 ?_
        refine mo_il7 (pc := 42) X dX5_plan_42 ?_
        refine mo_if_eq (pc := 44) (tgt := 65) X dX5_plan_44 (by decide) ?_ (fun c_44 => ?_) (fun c_44 => ?_)
        · omega
        · skip
          refine mo_iconst (pc := 65) X dX5_plan_65 ?_
          refine mo_cVI (pc := 66) (As := [_, _, _]) X mo_k_X5_58 mo_y_yX5_goes rfl dX5_plan_66 (ct5_goes hm (by omega) (by omega) (by omega)) (mo_Md_o hm) rfl (by decide) (by decide) (Nat.le_of_ble_eq_true rfl) ?_
          rintro r_66 M_66 ⟨T_66, hT_66, h_66⟩
          refine mo_if_ne (pc := 69) (tgt := 74) X dX5_plan_69 (by decide) ?_ (fun c_69 => ?_) (fun c_69 => ?_)
          · omega
          · skip
            exfalso
            omega
          · skip
            refine mo_iconst (pc := 72) X dX5_plan_72 ?_
            refine mo_iret (pc := 73) X Y rfl dX5_plan_73 ⟨rfl, rfl, _, rfl, ?_⟩
            rcases h_66 with z | z | z | z
            all_goals
              first
                | exact Or.inl ⟨by omega, rfl, mo_Qr_go hT_66 (by omega)⟩
                | exact Or.inr (Or.inl ⟨by omega, by omega, rfl, mo_Qr_go hT_66 (by omega)⟩)
                | exact Or.inr (Or.inr (Or.inl ⟨by omega, by omega, by simp only [Int.toNat_natCast]; rw [← h_55]; omega, rfl, mo_Qr_of2 (by rw [hT_66, mo_ur_n (by omega), e55]; exact mo_ag_rf _) (fun c hc => by
                    rw [hT_66, hM_55, show T_66 = 3 by omega]
                    exact mo_kp_sc hc)⟩))
                | (exfalso; omega)
        · exfalso; omega
      · skip
        refine mo_iconst (pc := 30) X dX5_plan_30 ?_
        refine mo_goto (pc := 31) (tgt := 35) X dX5_plan_31 (by decide) ?_
        refine mo_is7 (pc := 35) X dX5_plan_35 rfl (by decide) ?_
        refine mo_al0 (pc := 37) X dX5_plan_37 ?_
        refine mo_il6 (pc := 38) X dX5_plan_38 ?_
        refine mo_il7 (pc := 40) X dX5_plan_40 ?_
        refine mo_il7 (pc := 42) X dX5_plan_42 ?_
        refine mo_if_eq (pc := 44) (tgt := 65) X dX5_plan_44 (by decide) ?_ (fun c_44 => ?_) (fun c_44 => ?_)
        · omega
        · exfalso; omega
        · skip
          refine mo_al0 (pc := 47) X dX5_plan_47 ?_
          refine mo_il1 (pc := 48) X dX5_plan_48 ?_
          refine mo_il2 (pc := 49) X dX5_plan_49 ?_
          refine mo_il3 (pc := 50) X dX5_plan_50 ?_
          refine mo_il4 (pc := 51) X dX5_plan_51 ?_
          refine mo_il5 (pc := 53) X dX5_plan_53 ?_
          obtain ⟨an, rfl⟩ := Int.eq_ofNat_of_zero_le (show 0 ≤ a by omega)
          obtain ⟨wn, rfl⟩ := Int.eq_ofNat_of_zero_le (show 0 ≤ w by omega)
          obtain ⟨qn, rfl⟩ := Int.eq_ofNat_of_zero_le (show 0 ≤ q by omega)
          obtain ⟨en, rfl⟩ := Int.eq_ofNat_of_zero_le (show 0 ≤ e by omega)
          obtain ⟨vn, rfl⟩ := Int.eq_ofNat_of_zero_le (show 0 ≤ v by omega)
          have hrb := mo_rs_b (M (m + 1)) an wn qn en vn
          refine mo_cVI (pc := 55) (As := [_, _, _, _, _]) X mo_k_X5_118 mo_y_yX5_reason rfl dX5_plan_55 (ct5_reason (B := B) (o := an) (w := wn) (q := qn) (e := en) (v := vn) hm hI (by omega) (by omega) (by omega) (by omega) (by omega) (by omega)) (mo_Md_o hm) rfl (by decide) (by decide) (Nat.le_of_ble_eq_true rfl) ?_
          rintro r_55 M_55 ⟨f4, f5, f6, f7, hM_55, h_55⟩
          have e55 : M_55 (m + 1) = M (m + 1) := by rw [hM_55, mo_sc_r1]
          have k55 : M_55 m = M m := by rw [hM_55, mo_sc_r0]
          refine mo_if_ne (pc := 58) (tgt := 65) X dX5_plan_58 (by decide) ?_ (fun c_58 => ?_) (fun c_58 => ?_)
          · omega
          · skip
            refine mo_iconst (pc := 65) X dX5_plan_65 ?_
            refine mo_cVI (pc := 66) (As := [_, _, _]) X mo_k_X5_58 mo_y_yX5_goes rfl dX5_plan_66 (ct5_goes hm (by omega) (by omega) (by omega)) (mo_Md_o hm) rfl (by decide) (by decide) (Nat.le_of_ble_eq_true rfl) ?_
            rintro r_66 M_66 ⟨T_66, hT_66, h_66⟩
            refine mo_if_ne (pc := 69) (tgt := 74) X dX5_plan_69 (by decide) ?_ (fun c_69 => ?_) (fun c_69 => ?_)
            · omega
            · skip
              refine mo_al0 (pc := 74) X dX5_plan_74 ?_
              refine mo_cVV (pc := 75) (As := []) X mo_k_X5_62 mo_y_yX5_save rfl dX5_plan_75 (ct5_save (n := n) hm (by rw [hT_66, mo_ur_s, mo_up_n (by omega), k55]; exact hs) hn4) (mo_Md_o hm) rfl (by decide) (by decide) (Nat.le_of_ble_eq_true rfl) ?_
              rintro M_75 h_75
              have eg_75 : M_75 (m + 1) = M (m + 1) := by rw [h_75.2.2.2.2 _ (by omega) (by omega), hT_66, mo_ur_n (by omega), e55]
              refine mo_al0 (pc := 78) X dX5_plan_78 ?_
              refine mo_il1 (pc := 79) X dX5_plan_79 ?_
              refine mo_il2 (pc := 80) X dX5_plan_80 ?_
              refine mo_il3 (pc := 81) X dX5_plan_81 ?_
              refine mo_il4 (pc := 82) X dX5_plan_82 ?_
              refine mo_il5 (pc := 84) X dX5_plan_84 ?_
              refine mo_cVV (pc := 86) (As := [_, _, _, _, _]) X mo_k_X5_122 mo_y_yX5_lays rfl dX5_plan_86 (ct5_lays (B := B) (o := (an : Int)) (w := (wn : Int)) (q := (qn : Int)) (e := (en : Int)) (v := (vn : Int)) hm (by rw [eg_75]; exact hI) (by omega) (by rw [eg_75]; exact (by omega : M (m + 1) 7 ≤ 60 → M (m + 1) 7 ≠ 60 → M (m + 1) 7 < 60) hI7.2 (mo_rs_0 (show mo_rs (M (m + 1)) an wn qn en vn = 0 by omega)).2.2.2.2.2)) (mo_Md_o hm) rfl (by decide) (by decide) (Nat.le_of_ble_eq_true rfl) ?_
              rintro M_86 h_86
              rw [eg_75] at h_86
              refine mo_al0 (pc := 89) X dX5_plan_89 ?_
              refine mo_f_X5_7 (pc := 90) X dX5_plan_90 (mo_Md_o hm) (mo_Md_p0 hm) ?_
              refine mo_iconst (pc := 93) X dX5_plan_93 ?_
              refine mo_iald (pc := 94) (j := 1) X dX5_plan_94 (mo_Md_r0 hm) (by omega) ?_ ?_ rfl ?_
              · omega
              · omega
              refine mo_iconst (pc := 95) X dX5_plan_95 ?_
              refine mo_isub (pc := 96) X dX5_plan_96 ?_
              refine mo_iret (pc := 97) X Y rfl dX5_plan_97 ⟨rfl, rfl, _, rfl, ?_⟩
              first
                | (exfalso; omega)
                | (refine Or.inr (Or.inr (Or.inr ⟨by omega, by omega, by simp only [Int.toNat_natCast]; rw [← h_55]; omega, ?_, ?_⟩))
                   · rw [h_86, mo_ur_s, mo_ly_1]
                     omega
                   · refine mo_Ur_of2 (M1 := M_66) (fun c hc => ?_) ?_ h_75 (by rw [h_86, mo_ur_s]; exact mo_ag_rf _) (fun c hc => by rw [h_86, mo_ur_n (by omega)])
                     · rw [hT_66, hM_55, show T_66 = 0 by omega]
                       exact mo_kp_sc hc
                     · rw [hT_66, mo_ur_n (by omega), e55])
            · skip
              refine mo_iconst (pc := 72) X dX5_plan_72 ?_
              refine mo_iret (pc := 73) X Y rfl dX5_plan_73 ⟨rfl, rfl, _, rfl, ?_⟩
              rcases h_66 with z | z | z | z
              all_goals
                first
                  | exact Or.inl ⟨by omega, rfl, mo_Qr_go hT_66 (by omega)⟩
                  | exact Or.inr (Or.inl ⟨by omega, by omega, rfl, mo_Qr_go hT_66 (by omega)⟩)
                  | exact Or.inr (Or.inr (Or.inl ⟨by omega, by omega, by simp only [Int.toNat_natCast]; rw [← h_55]; omega, rfl, mo_Qr_of2 (by rw [hT_66, mo_ur_n (by omega), e55]; exact mo_ag_rf _) (fun c hc => by
                      rw [hT_66, hM_55, show T_66 = 3 by omega]
                      exact mo_kp_sc hc)⟩))
                  | (exfalso; omega)
          · skip
            refine mo_iconst (pc := 61) X dX5_plan_61 ?_
            refine mo_goto (pc := 62) (tgt := 66) X dX5_plan_62 (by decide) ?_
            refine mo_cVI (pc := 66) (As := [_, _, _]) X mo_k_X5_58 mo_y_yX5_goes rfl dX5_plan_66 (ct5_goes hm (by omega) (by omega) (by omega)) (mo_Md_o hm) rfl (by decide) (by decide) (Nat.le_of_ble_eq_true rfl) ?_
            rintro r_66 M_66 ⟨T_66, hT_66, h_66⟩
            refine mo_if_ne (pc := 69) (tgt := 74) X dX5_plan_69 (by decide) ?_ (fun c_69 => ?_) (fun c_69 => ?_)
            · omega
            · skip
              refine mo_al0 (pc := 74) X dX5_plan_74 ?_
              refine mo_cVV (pc := 75) (As := []) X mo_k_X5_62 mo_y_yX5_save rfl dX5_plan_75 (ct5_save (n := n) hm (by rw [hT_66, mo_ur_s, mo_up_n (by omega), k55]; exact hs) hn4) (mo_Md_o hm) rfl (by decide) (by decide) (Nat.le_of_ble_eq_true rfl) ?_
              rintro M_75 h_75
              have eg_75 : M_75 (m + 1) = M (m + 1) := by rw [h_75.2.2.2.2 _ (by omega) (by omega), hT_66, mo_ur_n (by omega), e55]
              refine mo_al0 (pc := 78) X dX5_plan_78 ?_
              refine mo_il1 (pc := 79) X dX5_plan_79 ?_
              refine mo_il2 (pc := 80) X dX5_plan_80 ?_
              refine mo_il3 (pc := 81) X dX5_plan_81 ?_
              refine mo_il4 (pc := 82) X dX5_plan_82 ?_
              refine mo_il5 (pc := 84) X dX5_plan_84 ?_
              refine mo_cVV (pc := 86) (As := [_, _, _, _, _]) X mo_k_X5_122 mo_y_yX5_lays rfl dX5_plan_86 (ct5_lays (B := B) (o := (an : Int)) (w := (wn : Int)) (q := (qn : Int)) (e := (en : Int)) (v := (vn : Int)) hm (by rw [eg_75]; exact hI) (by omega) (by rw [eg_75]; exact (by omega : M (m + 1) 7 ≤ 60 → M (m + 1) 7 ≠ 60 → M (m + 1) 7 < 60) hI7.2 (mo_rs_0 (show mo_rs (M (m + 1)) an wn qn en vn = 0 by omega)).2.2.2.2.2)) (mo_Md_o hm) rfl (by decide) (by decide) (Nat.le_of_ble_eq_true rfl) ?_
              rintro M_86 h_86
              rw [eg_75] at h_86
              refine mo_al0 (pc := 89) X dX5_plan_89 ?_
              refine mo_f_X5_7 (pc := 90) X dX5_plan_90 (mo_Md_o hm) (mo_Md_p0 hm) ?_
              refine mo_iconst (pc := 93) X dX5_plan_93 ?_
              refine mo_iald (pc := 94) (j := 1) X dX5_plan_94 (mo_Md_r0 hm) (by omega) ?_ ?_ rfl ?_
              · omega
              · omega
              refine mo_iconst (pc := 95) X dX5_plan_95 ?_
              refine mo_isub (pc := 96) X dX5_plan_96 ?_
              refine mo_iret (pc := 97) X Y rfl dX5_plan_97 ⟨rfl, rfl, _, rfl, ?_⟩
              first
                | (exfalso; omega)
                | (refine Or.inr (Or.inr (Or.inr ⟨by omega, by omega, by simp only [Int.toNat_natCast]; rw [← h_55]; omega, ?_, ?_⟩))
                   · rw [h_86, mo_ur_s, mo_ly_1]
                     omega
                   · refine mo_Ur_of2 (M1 := M_66) (fun c hc => ?_) ?_ h_75 (by rw [h_86, mo_ur_s]; exact mo_ag_rf _) (fun c hc => by rw [h_86, mo_ur_n (by omega)])
                     · rw [hT_66, hM_55, show T_66 = 0 by omega]
                       exact mo_kp_sc hc
                     · rw [hT_66, mo_ur_n (by omega), e55])
            · skip
              refine mo_iconst (pc := 72) X dX5_plan_72 ?_
              refine mo_iret (pc := 73) X Y rfl dX5_plan_73 ⟨rfl, rfl, _, rfl, ?_⟩
              rcases h_66 with z | z | z | z
              all_goals
                first
                  | exact Or.inl ⟨by omega, rfl, mo_Qr_go hT_66 (by omega)⟩
                  | exact Or.inr (Or.inl ⟨by omega, by omega, rfl, mo_Qr_go hT_66 (by omega)⟩)
                  | exact Or.inr (Or.inr (Or.inl ⟨by omega, by omega, by simp only [Int.toNat_natCast]; rw [← h_55]; omega, rfl, mo_Qr_of2 (by rw [hT_66, mo_ur_n (by omega), e55]; exact mo_ag_rf _) (fun c hc => by
                      rw [hT_66, hM_55, show T_66 = 3 by omega]
                      exact mo_kp_sc hc)⟩))
                  | (exfalso; omega)
set_option maxHeartbeats 4000000 in
set_option maxRecDepth 100000 in
theorem ct5_planWeek {lf : Launch} {ρf : mo_E} {G : mo_G} {M : mo_M} {t : Nat} {m : Nat} (hm : mo_Md G m) {B w : Int} (hI : mo_Iv (M (m + 1)) B) (hB : B ≤ 800000000) {n : Nat} (hs : M m 2 = n) (hn4 : n ≤ 4) (hw : mo_In w) : mo_Ct lf ρf yX5_planWeek cX5_planWeek 2 (some .int) 6 0 0 [.ref m, mo_iv w] G M t (mo_pi G t (fun x M' => (¬ (0 ≤ w ∧ w ≤ 19) ∧ x = 0 ∧ mo_Qr M M' m 1) ∨ ((0 ≤ w ∧ w ≤ 19) ∧ ¬ (M (m + 1) 0 ≤ w) ∧ x = 0 ∧ mo_Qr M M' m 2) ∨ ((0 ≤ w ∧ w ≤ 19) ∧ (M (m + 1) 0 ≤ w) ∧ x = (mo_pl w.toNat 61 (M (m + 1))).1 ∧ mo_Ur M M' m n ((mo_pl w.toNat 61 (M (m + 1))).2)))) := by
  refine mo_ofW (ls0 := [some (.ref m), some (mo_iv w)]) (by decide) rfl (Nat.le_of_ble_eq_true rfl) ?_
  intro κ X Y
  have X : mo_Cx κ lf ρf cX5_planWeek 2 RX5 (some .int) 6 := X
  obtain ⟨hI0, hI1, hI2, hI3, hI4, hI5, hI6, hI7, hIh, hIa, hIe, hIm, hIs, hIl, hIw, hIr, hIt, hIs2, hIs3, hIz⟩ := id hI
  have hn : ((mo_nk (M (m + 1)) : Nat) : Int) = M (m + 1) 7 := by unfold mo_nk; omega
  refine mo_al0 (pc := 0) X dX5_planWeek_0 ?_
  refine mo_il1 (pc := 1) X dX5_planWeek_1 ?_
  refine mo_cSI (pc := 2) (As := [_]) X mo_k_X5_112 mo_y_yX5_isWeek dX5_planWeek_2 (ct5_isWeek hw) rfl (by decide) (by decide) (Nat.le_of_ble_eq_true rfl) ?_
  rintro r_2 _ ⟨h_2, rfl⟩
  refine mo_il1 (pc := 5) X dX5_planWeek_5 ?_
  refine mo_al0 (pc := 6) X dX5_planWeek_6 ?_
  refine mo_f_X5_7 (pc := 7) X dX5_planWeek_7 (mo_Md_o hm) (mo_Md_p0 hm) ?_
  refine mo_iconst (pc := 10) X dX5_planWeek_10 ?_
  refine mo_iald (pc := 11) (j := 0) X dX5_planWeek_11 (mo_Md_r0 hm) (by omega) ?_ ?_ rfl ?_
  · omega
  · omega
  refine mo_ic_lt (pc := 12) (tgt := 19) X dX5_planWeek_12 (by decide) ?_ ?_ (fun c_12 => ?_) (fun c_12 => ?_)
  · omega
  · omega
  · skip
    refine mo_iconst (pc := 19) X dX5_planWeek_19 ?_
    refine mo_iconst (pc := 20) X dX5_planWeek_20 ?_
    refine mo_cVI (pc := 21) (As := [_, _, _]) X mo_k_X5_58 mo_y_yX5_goes rfl dX5_planWeek_21 (ct5_goes hm (by omega) (by omega) (by omega)) (mo_Md_o hm) rfl (by decide) (by decide) (Nat.le_of_ble_eq_true rfl) ?_
    rintro r_21 M_21 ⟨T_21, hT_21, h_21⟩
    have eg_21 : M_21 (m + 1) = M (m + 1) := by rw [hT_21, mo_ur_n (by omega)]
    have es_21 : M_21 m 2 = M m 2 := by rw [hT_21, mo_ur_s, mo_up_n (by omega)]
    refine mo_if_ne (pc := 24) (tgt := 29) X dX5_planWeek_24 (by decide) ?_ (fun c_24 => ?_) (fun c_24 => ?_)
    · omega
    · skip
      refine mo_al0 (pc := 29) X dX5_planWeek_29 ?_
      refine mo_cVV (pc := 30) (As := []) X mo_k_X5_62 mo_y_yX5_save rfl dX5_planWeek_30 (ct5_save (n := n) hm (by rw [es_21]; exact hs) hn4) (mo_Md_o hm) rfl (by decide) (by decide) (Nat.le_of_ble_eq_true rfl) ?_
      rintro M_30 h_30
      have eg_30 : M_30 (m + 1) = M (m + 1) := by rw [h_30.2.2.2.2 _ (by omega) (by omega), eg_21]
      refine mo_al0 (pc := 33) X dX5_planWeek_33 ?_
      refine mo_il1 (pc := 34) X dX5_planWeek_34 ?_
      obtain ⟨wn, rfl⟩ := Int.eq_ofNat_of_zero_le (show 0 ≤ w by omega)
      refine mo_cVI (pc := 35) (As := [_]) X mo_k_X5_142 mo_y_yX5_plans rfl dX5_planWeek_35 (ct5_plans (B := B) (w := wn) hm (by rw [eg_30]; exact hI) (by omega) (by omega)) (mo_Md_o hm) rfl (by decide) (by decide) (Nat.le_of_ble_eq_true rfl) ?_
      rintro r_35 M_35 ⟨f4, f5, f6, f7, h_35, hM_35⟩
      rw [eg_30] at h_35 hM_35
      refine mo_iret (pc := 38) X Y rfl dX5_planWeek_38 ⟨rfl, rfl, _, rfl, ?_⟩
      refine Or.inr (Or.inr ⟨by omega, by omega, ?_, ?_⟩)
      · rw [Int.toNat_natCast]; exact h_35
      · exact mo_Ur_of hT_21 (by omega) h_30 (by rw [hM_35, mo_ur_s, Int.toNat_natCast]; exact mo_ag_rf _) (fun a q => by rw [hM_35, mo_ur_n (by omega), mo_sc_r _ _ _ _ _ (by omega)])
    · skip
      refine mo_iconst (pc := 27) X dX5_planWeek_27 ?_
      refine mo_iret (pc := 28) X Y rfl dX5_planWeek_28 ⟨rfl, rfl, _, rfl, ?_⟩
      rcases h_21 with q | q | q | q
      all_goals
        first
          | exact Or.inl ⟨by omega, rfl, mo_Qr_go hT_21 (by omega)⟩
          | exact Or.inr (Or.inl ⟨by omega, by omega, rfl, mo_Qr_go hT_21 (by omega)⟩)
          | (exfalso; omega)
  · skip
    refine mo_iconst (pc := 15) X dX5_planWeek_15 ?_
    refine mo_goto (pc := 16) (tgt := 20) X dX5_planWeek_16 (by decide) ?_
    refine mo_iconst (pc := 20) X dX5_planWeek_20 ?_
    refine mo_cVI (pc := 21) (As := [_, _, _]) X mo_k_X5_58 mo_y_yX5_goes rfl dX5_planWeek_21 (ct5_goes hm (by omega) (by omega) (by omega)) (mo_Md_o hm) rfl (by decide) (by decide) (Nat.le_of_ble_eq_true rfl) ?_
    rintro r_21 M_21 ⟨T_21, hT_21, h_21⟩
    have eg_21 : M_21 (m + 1) = M (m + 1) := by rw [hT_21, mo_ur_n (by omega)]
    have es_21 : M_21 m 2 = M m 2 := by rw [hT_21, mo_ur_s, mo_up_n (by omega)]
    refine mo_if_ne (pc := 24) (tgt := 29) X dX5_planWeek_24 (by decide) ?_ (fun c_24 => ?_) (fun c_24 => ?_)
    · omega
    · skip
      refine mo_al0 (pc := 29) X dX5_planWeek_29 ?_
      refine mo_cVV (pc := 30) (As := []) X mo_k_X5_62 mo_y_yX5_save rfl dX5_planWeek_30 (ct5_save (n := n) hm (by rw [es_21]; exact hs) hn4) (mo_Md_o hm) rfl (by decide) (by decide) (Nat.le_of_ble_eq_true rfl) ?_
      rintro M_30 h_30
      have eg_30 : M_30 (m + 1) = M (m + 1) := by rw [h_30.2.2.2.2 _ (by omega) (by omega), eg_21]
      refine mo_al0 (pc := 33) X dX5_planWeek_33 ?_
      refine mo_il1 (pc := 34) X dX5_planWeek_34 ?_
      obtain ⟨wn, rfl⟩ := Int.eq_ofNat_of_zero_le (show 0 ≤ w by omega)
      refine mo_cVI (pc := 35) (As := [_]) X mo_k_X5_142 mo_y_yX5_plans rfl dX5_planWeek_35 (ct5_plans (B := B) (w := wn) hm (by rw [eg_30]; exact hI) (by omega) (by omega)) (mo_Md_o hm) rfl (by decide) (by decide) (Nat.le_of_ble_eq_true rfl) ?_
      rintro r_35 M_35 ⟨f4, f5, f6, f7, h_35, hM_35⟩
      rw [eg_30] at h_35 hM_35
      refine mo_iret (pc := 38) X Y rfl dX5_planWeek_38 ⟨rfl, rfl, _, rfl, ?_⟩
      refine Or.inr (Or.inr ⟨by omega, by omega, ?_, ?_⟩)
      · rw [Int.toNat_natCast]; exact h_35
      · exact mo_Ur_of hT_21 (by omega) h_30 (by rw [hM_35, mo_ur_s, Int.toNat_natCast]; exact mo_ag_rf _) (fun a q => by rw [hM_35, mo_ur_n (by omega), mo_sc_r _ _ _ _ _ (by omega)])
    · skip
      refine mo_iconst (pc := 27) X dX5_planWeek_27 ?_
      refine mo_iret (pc := 28) X Y rfl dX5_planWeek_28 ⟨rfl, rfl, _, rfl, ?_⟩
      rcases h_21 with q | q | q | q
      all_goals
        first
          | exact Or.inl ⟨by omega, rfl, mo_Qr_go hT_21 (by omega)⟩
          | exact Or.inr (Or.inl ⟨by omega, by omega, rfl, mo_Qr_go hT_21 (by omega)⟩)
          | (exfalso; omega)
set_option maxHeartbeats 4000000 in
set_option maxRecDepth 100000 in
theorem ct5_cancel {lf : Launch} {ρf : mo_E} {G : mo_G} {M : mo_M} {t : Nat} {m : Nat} (hm : mo_Md G m) {B p pl : Int} (hI : mo_Iv (M (m + 1)) B) (hB : B ≤ 800000000) {n : Nat} (hs : M m 2 = n) (hn4 : n ≤ 4) (hp : mo_In p) (hpl : pl = mo_ff (fun k => decide (mo_fld (M (m + 1)) k 0 = p)) (mo_nk (M (m + 1)))) : mo_Ct lf ρf yX5_cancel cX5_cancel 4 (some .int) 2 0 0 [.ref m, mo_iv p] G M t (mo_pi G t (fun x M' => (¬ (pl ≠ -1) ∧ x = 0 ∧ mo_Qr M M' m 1) ∨ ((pl ≠ -1) ∧ ¬ (mo_fld (M (m + 1)) pl.toNat 6 = 0) ∧ x = 0 ∧ mo_Qr M M' m 2) ∨ ((pl ≠ -1) ∧ (mo_fld (M (m + 1)) pl.toNat 6 = 0) ∧ x = mo_fld (M (m + 1)) pl.toNat 2 ∧ mo_Ur M M' m n (mo_to (M (m + 1)) pl.toNat)))) := by
  refine mo_ofW (ls0 := [some (.ref m), some (mo_iv p), none, none]) (by decide) rfl (Nat.le_of_ble_eq_true rfl) ?_
  intro κ X Y
  have X : mo_Cx κ lf ρf cX5_cancel 4 RX5 (some .int) 2 := X
  obtain ⟨hI0, hI1, hI2, hI3, hI4, hI5, hI6, hI7, hIh, hIa, hIe, hIm, hIs, hIl, hIw, hIr, hIt, hIs2, hIs3, hIz⟩ := id hI
  have hn : ((mo_nk (M (m + 1)) : Nat) : Int) = M (m + 1) 7 := by unfold mo_nk; omega
  have hplb : pl = -1 ∨ (0 ≤ pl ∧ pl < M (m + 1) 7) := by
    rw [hpl]
    rcases mo_ff_cases (fun k => decide (mo_fld (M (m + 1)) k 0 = p)) (mo_nk (M (m + 1))) with ⟨pf1, pf2⟩ | ⟨pk, pf1, pf2, pf3, pf4⟩
    · exact Or.inl pf1
    · exact Or.inr (by omega)
  refine mo_al0 (pc := 0) X dX5_cancel_0 ?_
  refine mo_il1 (pc := 1) X dX5_cancel_1 ?_
  refine mo_cVI (pc := 2) (As := [_]) X mo_k_X5_145 mo_y_yX5_placeOf rfl dX5_cancel_2 (ct5_placeOf hm hI (by omega) hp) (mo_Md_o hm) rfl (by decide) (by decide) (Nat.le_of_ble_eq_true rfl) ?_
  rintro r_2 _ ⟨h_2, rfl⟩
  rw [← hpl] at h_2
  have h_2 := h_2.symm
  subst h_2
  refine mo_is2 (pc := 5) X dX5_cancel_5 rfl (by decide) ?_
  refine mo_al0 (pc := 6) X dX5_cancel_6 ?_
  refine mo_il2 (pc := 7) X dX5_cancel_7 ?_
  refine mo_iconst (pc := 8) X dX5_cancel_8 ?_
  refine mo_ic_eq (pc := 9) (tgt := 16) X dX5_cancel_9 (by decide) ?_ ?_ (fun c_9 => ?_) (fun c_9 => ?_)
  · omega
  · omega
  · skip
    refine mo_iconst (pc := 16) X dX5_cancel_16 ?_
    refine mo_il2 (pc := 17) X dX5_cancel_17 ?_
    refine mo_iconst (pc := 18) X dX5_cancel_18 ?_
    refine mo_ic_eq (pc := 19) (tgt := 36) X dX5_cancel_19 (by decide) ?_ ?_ (fun c_19 => ?_) (fun c_19 => ?_)
    · omega
    · omega
    · skip
      refine mo_iconst (pc := 36) X dX5_cancel_36 ?_
      refine mo_iconst (pc := 37) X dX5_cancel_37 ?_
      refine mo_cVI (pc := 38) (As := [_, _, _]) X mo_k_X5_58 mo_y_yX5_goes rfl dX5_cancel_38 (ct5_goes hm (by omega) (by omega) (by omega)) (mo_Md_o hm) rfl (by decide) (by decide) (Nat.le_of_ble_eq_true rfl) ?_
      rintro r_38 M_38 ⟨T_38, hT_38, h_38⟩
      have eg_38 : M_38 (m + 1) = M (m + 1) := by rw [hT_38, mo_ur_n (by omega)]
      have es_38 : M_38 m 2 = M m 2 := by rw [hT_38, mo_ur_s, mo_up_n (by omega)]
      refine mo_if_ne (pc := 41) (tgt := 46) X dX5_cancel_41 (by decide) ?_ (fun c_41 => ?_) (fun c_41 => ?_)
      · omega
      · skip
        exfalso
        omega
      · skip
        refine mo_iconst (pc := 44) X dX5_cancel_44 ?_
        refine mo_iret (pc := 45) X Y rfl dX5_cancel_45 ⟨rfl, rfl, _, rfl, ?_⟩
        first
          | exact Or.inl ⟨by omega, rfl, mo_Qr_go hT_38 (by omega)⟩
          | exact Or.inr (Or.inl ⟨by omega, by rw [Int.toNat_natCast]; omega, rfl, mo_Qr_go hT_38 (by omega)⟩)
          | (exfalso; omega)
    · skip
      refine mo_al0 (pc := 22) X dX5_cancel_22 ?_
      refine mo_il2 (pc := 23) X dX5_cancel_23 ?_
      obtain ⟨pk, hpk⟩ := Int.eq_ofNat_of_zero_le (show 0 ≤ pl by omega)
      subst hpk
      have hmt := hIt pk (by omega)
      unfold mo_Mt at hmt
      refine mo_bipush (pc := 24) X dX5_cancel_24 (by decide) ?_
      refine mo_cVI (pc := 26) (As := [_, _]) X mo_k_X5_89 mo_y_yX5_of rfl dX5_cancel_26 (ct5_of (k := pk) (j := 6) hm (by omega)) (mo_Md_o hm) rfl (by decide) (by decide) (Nat.le_of_ble_eq_true rfl) ?_
      rintro r_26 _ ⟨h_26, rfl⟩
      refine mo_if_ne (pc := 29) (tgt := 36) X dX5_cancel_29 (by decide) ?_ (fun c_29 => ?_) (fun c_29 => ?_)
      · omega
      · skip
        refine mo_iconst (pc := 36) X dX5_cancel_36 ?_
        refine mo_iconst (pc := 37) X dX5_cancel_37 ?_
        refine mo_cVI (pc := 38) (As := [_, _, _]) X mo_k_X5_58 mo_y_yX5_goes rfl dX5_cancel_38 (ct5_goes hm (by omega) (by omega) (by omega)) (mo_Md_o hm) rfl (by decide) (by decide) (Nat.le_of_ble_eq_true rfl) ?_
        rintro r_38 M_38 ⟨T_38, hT_38, h_38⟩
        have eg_38 : M_38 (m + 1) = M (m + 1) := by rw [hT_38, mo_ur_n (by omega)]
        have es_38 : M_38 m 2 = M m 2 := by rw [hT_38, mo_ur_s, mo_up_n (by omega)]
        refine mo_if_ne (pc := 41) (tgt := 46) X dX5_cancel_41 (by decide) ?_ (fun c_41 => ?_) (fun c_41 => ?_)
        · omega
        · skip
          exfalso
          omega
        · skip
          refine mo_iconst (pc := 44) X dX5_cancel_44 ?_
          refine mo_iret (pc := 45) X Y rfl dX5_cancel_45 ⟨rfl, rfl, _, rfl, ?_⟩
          first
            | exact Or.inl ⟨by omega, rfl, mo_Qr_go hT_38 (by omega)⟩
            | exact Or.inr (Or.inl ⟨by omega, by rw [Int.toNat_natCast]; omega, rfl, mo_Qr_go hT_38 (by omega)⟩)
            | (exfalso; omega)
      · skip
        refine mo_iconst (pc := 32) X dX5_cancel_32 ?_
        refine mo_goto (pc := 33) (tgt := 37) X dX5_cancel_33 (by decide) ?_
        refine mo_iconst (pc := 37) X dX5_cancel_37 ?_
        refine mo_cVI (pc := 38) (As := [_, _, _]) X mo_k_X5_58 mo_y_yX5_goes rfl dX5_cancel_38 (ct5_goes hm (by omega) (by omega) (by omega)) (mo_Md_o hm) rfl (by decide) (by decide) (Nat.le_of_ble_eq_true rfl) ?_
        rintro r_38 M_38 ⟨T_38, hT_38, h_38⟩
        have eg_38 : M_38 (m + 1) = M (m + 1) := by rw [hT_38, mo_ur_n (by omega)]
        have es_38 : M_38 m 2 = M m 2 := by rw [hT_38, mo_ur_s, mo_up_n (by omega)]
        refine mo_if_ne (pc := 41) (tgt := 46) X dX5_cancel_41 (by decide) ?_ (fun c_41 => ?_) (fun c_41 => ?_)
        · omega
        · skip
          exfalso
          omega
        · skip
          refine mo_iconst (pc := 44) X dX5_cancel_44 ?_
          refine mo_iret (pc := 45) X Y rfl dX5_cancel_45 ⟨rfl, rfl, _, rfl, ?_⟩
          first
            | exact Or.inl ⟨by omega, rfl, mo_Qr_go hT_38 (by omega)⟩
            | exact Or.inr (Or.inl ⟨by omega, by rw [Int.toNat_natCast]; omega, rfl, mo_Qr_go hT_38 (by omega)⟩)
            | (exfalso; omega)
  · skip
    refine mo_iconst (pc := 12) X dX5_cancel_12 ?_
    refine mo_goto (pc := 13) (tgt := 17) X dX5_cancel_13 (by decide) ?_
    refine mo_il2 (pc := 17) X dX5_cancel_17 ?_
    refine mo_iconst (pc := 18) X dX5_cancel_18 ?_
    refine mo_ic_eq (pc := 19) (tgt := 36) X dX5_cancel_19 (by decide) ?_ ?_ (fun c_19 => ?_) (fun c_19 => ?_)
    · omega
    · omega
    · skip
      refine mo_iconst (pc := 36) X dX5_cancel_36 ?_
      refine mo_iconst (pc := 37) X dX5_cancel_37 ?_
      refine mo_cVI (pc := 38) (As := [_, _, _]) X mo_k_X5_58 mo_y_yX5_goes rfl dX5_cancel_38 (ct5_goes hm (by omega) (by omega) (by omega)) (mo_Md_o hm) rfl (by decide) (by decide) (Nat.le_of_ble_eq_true rfl) ?_
      rintro r_38 M_38 ⟨T_38, hT_38, h_38⟩
      have eg_38 : M_38 (m + 1) = M (m + 1) := by rw [hT_38, mo_ur_n (by omega)]
      have es_38 : M_38 m 2 = M m 2 := by rw [hT_38, mo_ur_s, mo_up_n (by omega)]
      refine mo_if_ne (pc := 41) (tgt := 46) X dX5_cancel_41 (by decide) ?_ (fun c_41 => ?_) (fun c_41 => ?_)
      · omega
      · skip
        exfalso
        omega
      · skip
        refine mo_iconst (pc := 44) X dX5_cancel_44 ?_
        refine mo_iret (pc := 45) X Y rfl dX5_cancel_45 ⟨rfl, rfl, _, rfl, ?_⟩
        first
          | exact Or.inl ⟨by omega, rfl, mo_Qr_go hT_38 (by omega)⟩
          | exact Or.inr (Or.inl ⟨by omega, by rw [Int.toNat_natCast]; omega, rfl, mo_Qr_go hT_38 (by omega)⟩)
          | (exfalso; omega)
    · skip
      refine mo_al0 (pc := 22) X dX5_cancel_22 ?_
      refine mo_il2 (pc := 23) X dX5_cancel_23 ?_
      obtain ⟨pk, hpk⟩ := Int.eq_ofNat_of_zero_le (show 0 ≤ pl by omega)
      subst hpk
      have hmt := hIt pk (by omega)
      unfold mo_Mt at hmt
      refine mo_bipush (pc := 24) X dX5_cancel_24 (by decide) ?_
      refine mo_cVI (pc := 26) (As := [_, _]) X mo_k_X5_89 mo_y_yX5_of rfl dX5_cancel_26 (ct5_of (k := pk) (j := 6) hm (by omega)) (mo_Md_o hm) rfl (by decide) (by decide) (Nat.le_of_ble_eq_true rfl) ?_
      rintro r_26 _ ⟨h_26, rfl⟩
      refine mo_if_ne (pc := 29) (tgt := 36) X dX5_cancel_29 (by decide) ?_ (fun c_29 => ?_) (fun c_29 => ?_)
      · omega
      · skip
        refine mo_iconst (pc := 36) X dX5_cancel_36 ?_
        refine mo_iconst (pc := 37) X dX5_cancel_37 ?_
        refine mo_cVI (pc := 38) (As := [_, _, _]) X mo_k_X5_58 mo_y_yX5_goes rfl dX5_cancel_38 (ct5_goes hm (by omega) (by omega) (by omega)) (mo_Md_o hm) rfl (by decide) (by decide) (Nat.le_of_ble_eq_true rfl) ?_
        rintro r_38 M_38 ⟨T_38, hT_38, h_38⟩
        have eg_38 : M_38 (m + 1) = M (m + 1) := by rw [hT_38, mo_ur_n (by omega)]
        have es_38 : M_38 m 2 = M m 2 := by rw [hT_38, mo_ur_s, mo_up_n (by omega)]
        refine mo_if_ne (pc := 41) (tgt := 46) X dX5_cancel_41 (by decide) ?_ (fun c_41 => ?_) (fun c_41 => ?_)
        · omega
        · skip
          exfalso
          omega
        · skip
          refine mo_iconst (pc := 44) X dX5_cancel_44 ?_
          refine mo_iret (pc := 45) X Y rfl dX5_cancel_45 ⟨rfl, rfl, _, rfl, ?_⟩
          first
            | exact Or.inl ⟨by omega, rfl, mo_Qr_go hT_38 (by omega)⟩
            | exact Or.inr (Or.inl ⟨by omega, by rw [Int.toNat_natCast]; omega, rfl, mo_Qr_go hT_38 (by omega)⟩)
            | (exfalso; omega)
      · skip
        refine mo_iconst (pc := 32) X dX5_cancel_32 ?_
        refine mo_goto (pc := 33) (tgt := 37) X dX5_cancel_33 (by decide) ?_
        refine mo_iconst (pc := 37) X dX5_cancel_37 ?_
        refine mo_cVI (pc := 38) (As := [_, _, _]) X mo_k_X5_58 mo_y_yX5_goes rfl dX5_cancel_38 (ct5_goes hm (by omega) (by omega) (by omega)) (mo_Md_o hm) rfl (by decide) (by decide) (Nat.le_of_ble_eq_true rfl) ?_
        rintro r_38 M_38 ⟨T_38, hT_38, h_38⟩
        have eg_38 : M_38 (m + 1) = M (m + 1) := by rw [hT_38, mo_ur_n (by omega)]
        have es_38 : M_38 m 2 = M m 2 := by rw [hT_38, mo_ur_s, mo_up_n (by omega)]
        refine mo_if_ne (pc := 41) (tgt := 46) X dX5_cancel_41 (by decide) ?_ (fun c_41 => ?_) (fun c_41 => ?_)
        · omega
        · skip
          refine mo_al0 (pc := 46) X dX5_cancel_46 ?_
          refine mo_cVV (pc := 47) (As := []) X mo_k_X5_62 mo_y_yX5_save rfl dX5_cancel_47 (ct5_save (n := n) hm (by rw [es_38]; exact hs) hn4) (mo_Md_o hm) rfl (by decide) (by decide) (Nat.le_of_ble_eq_true rfl) ?_
          rintro M_47 h_47
          have eg_47 : M_47 (m + 1) = M (m + 1) := by rw [h_47.2.2.2.2 _ (by omega) (by omega), eg_38]
          refine mo_al0 (pc := 50) X dX5_cancel_50 ?_
          refine mo_il2 (pc := 51) X dX5_cancel_51 ?_
          refine mo_iconst (pc := 52) X dX5_cancel_52 ?_
          refine mo_cVI (pc := 53) (As := [_, _]) X mo_k_X5_89 mo_y_yX5_of rfl dX5_cancel_53 (ct5_of (k := pk) (j := 2) hm (by omega)) (mo_Md_o hm) rfl (by decide) (by decide) (Nat.le_of_ble_eq_true rfl) ?_
          rintro r_53 _ ⟨h_53, rfl⟩
          rw [eg_47] at h_53
          refine mo_is3 (pc := 56) X dX5_cancel_56 rfl (by decide) ?_
          refine mo_al0 (pc := 57) X dX5_cancel_57 ?_
          refine mo_il2 (pc := 58) X dX5_cancel_58 ?_
          refine mo_cVV (pc := 59) (As := [_]) X mo_k_X5_148 mo_y_yX5_takeOut rfl dX5_cancel_59 (ct5_takeOut (B := B) (p := pk) hm (by rw [eg_47]; exact hI) (by omega) (by rw [eg_47]; omega)) (mo_Md_o hm) rfl (by decide) (by decide) (Nat.le_of_ble_eq_true rfl) ?_
          rintro M_59 h_59
          rw [eg_47] at h_59
          refine mo_il3 (pc := 62) X dX5_cancel_62 ?_
          refine mo_iret (pc := 63) X Y rfl dX5_cancel_63 ⟨rfl, rfl, _, rfl, ?_⟩
          first
            | (exfalso; omega)
            | (refine Or.inr (Or.inr ⟨by omega, by rw [Int.toNat_natCast]; omega, ?_, ?_⟩)
               · rw [Int.toNat_natCast]; exact h_53
               · exact mo_Ur_of hT_38 (by omega) h_47 (by rw [h_59, mo_ur_s, Int.toNat_natCast]; exact mo_ag_rf _) (fun a q => by rw [h_59, mo_ur_n (by omega)]))
        · skip
          refine mo_iconst (pc := 44) X dX5_cancel_44 ?_
          refine mo_iret (pc := 45) X Y rfl dX5_cancel_45 ⟨rfl, rfl, _, rfl, ?_⟩
          first
            | exact Or.inl ⟨by omega, rfl, mo_Qr_go hT_38 (by omega)⟩
            | exact Or.inr (Or.inl ⟨by omega, by rw [Int.toNat_natCast]; omega, rfl, mo_Qr_go hT_38 (by omega)⟩)
            | (exfalso; omega)
set_option maxHeartbeats 4000000 in
set_option maxRecDepth 100000 in
theorem ct5_tell {lf : Launch} {ρf : mo_E} {G : mo_G} {M : mo_M} {t : Nat} {m : Nat} (hm : mo_Md G m) {B p pl a : Int} (hI : mo_Iv (M (m + 1)) B) (hB : B ≤ 800000000) {n : Nat} (hs : M m 2 = n) (hn4 : n ≤ 4) (hp : mo_In p) (ha : mo_In a) (hpl : pl = mo_ff (fun k => decide (mo_fld (M (m + 1)) k 0 = p)) (mo_nk (M (m + 1)))) : mo_Ct lf ρf yX5_tell cX5_tell 4 (some .int) 3 0 0 [.ref m, mo_iv p, mo_iv a] G M t (mo_pi G t (fun x M' => (¬ (pl ≠ -1) ∧ x = 0 ∧ mo_Qr M M' m 1) ∨ ((pl ≠ -1) ∧ ¬ (mo_op (M (m + 1)) pl.toNat = true) ∧ x = 0 ∧ mo_Qr M M' m 2) ∨ ((pl ≠ -1) ∧ (mo_op (M (m + 1)) pl.toNat = true) ∧ x = mo_ow (if a = 0 then mo_ms (M (m + 1)) pl.toNat else mo_hd (M (m + 1)) pl.toNat) (mo_fld (M (m + 1)) pl.toNat 1).toNat (M (m + 1) 0).toNat ∧ mo_Ur M M' m n (if a = 0 then mo_ms (M (m + 1)) pl.toNat else mo_hd (M (m + 1)) pl.toNat)))) := by
  refine mo_ofW (ls0 := [some (.ref m), some (mo_iv p), some (mo_iv a), none]) (by decide) rfl (Nat.le_of_ble_eq_true rfl) ?_
  intro κ X Y
  have X : mo_Cx κ lf ρf cX5_tell 4 RX5 (some .int) 3 := X
  obtain ⟨hI0, hI1, hI2, hI3, hI4, hI5, hI6, hI7, hIh, hIa, hIe, hIm, hIs, hIl, hIw, hIr, hIt, hIs2, hIs3, hIz⟩ := id hI
  have hn : ((mo_nk (M (m + 1)) : Nat) : Int) = M (m + 1) 7 := by unfold mo_nk; omega
  have hplb : pl = -1 ∨ (0 ≤ pl ∧ pl < M (m + 1) 7) := by
    rw [hpl]
    rcases mo_ff_cases (fun k => decide (mo_fld (M (m + 1)) k 0 = p)) (mo_nk (M (m + 1))) with ⟨pf1, pf2⟩ | ⟨pk, pf1, pf2, pf3, pf4⟩
    · exact Or.inl pf1
    · exact Or.inr (by omega)
  refine mo_al0 (pc := 0) X dX5_tell_0 ?_
  refine mo_il1 (pc := 1) X dX5_tell_1 ?_
  refine mo_cVI (pc := 2) (As := [_]) X mo_k_X5_145 mo_y_yX5_placeOf rfl dX5_tell_2 (ct5_placeOf hm hI (by omega) hp) (mo_Md_o hm) rfl (by decide) (by decide) (Nat.le_of_ble_eq_true rfl) ?_
  rintro r_2 _ ⟨h_2, rfl⟩
  rw [← hpl] at h_2
  have h_2 := h_2.symm
  subst h_2
  refine mo_is3 (pc := 5) X dX5_tell_5 rfl (by decide) ?_
  refine mo_al0 (pc := 6) X dX5_tell_6 ?_
  refine mo_il3 (pc := 7) X dX5_tell_7 ?_
  refine mo_iconst (pc := 8) X dX5_tell_8 ?_
  refine mo_ic_eq (pc := 9) (tgt := 16) X dX5_tell_9 (by decide) ?_ ?_ (fun c_9 => ?_) (fun c_9 => ?_)
  · omega
  · omega
  · skip
    refine mo_iconst (pc := 16) X dX5_tell_16 ?_
    refine mo_al0 (pc := 17) X dX5_tell_17 ?_
    refine mo_il3 (pc := 18) X dX5_tell_18 ?_
    refine mo_cVI (pc := 19) (As := [_]) X mo_k_X5_157 mo_y_yX5_mayTell rfl dX5_tell_19 (ct5_mayTell hm hI (by omega) (by omega)) (mo_Md_o hm) rfl (by decide) (by decide) (Nat.le_of_ble_eq_true rfl) ?_
    rintro r_19 _ ⟨h_19, rfl⟩
    refine mo_iconst (pc := 22) X dX5_tell_22 ?_
    refine mo_cVI (pc := 23) (As := [_, _, _]) X mo_k_X5_58 mo_y_yX5_goes rfl dX5_tell_23 (ct5_goes hm (by omega) (by omega) (by omega)) (mo_Md_o hm) rfl (by decide) (by decide) (Nat.le_of_ble_eq_true rfl) ?_
    rintro r_23 M_23 ⟨T_23, hT_23, h_23⟩
    have eg_23 : M_23 (m + 1) = M (m + 1) := by rw [hT_23, mo_ur_n (by omega)]
    have es_23 : M_23 m 2 = M m 2 := by rw [hT_23, mo_ur_s, mo_up_n (by omega)]
    refine mo_if_ne (pc := 26) (tgt := 31) X dX5_tell_26 (by decide) ?_ (fun c_26 => ?_) (fun c_26 => ?_)
    · omega
    · skip
      exfalso
      omega
    · skip
      refine mo_iconst (pc := 29) X dX5_tell_29 ?_
      refine mo_iret (pc := 30) X Y rfl dX5_tell_30 ⟨rfl, rfl, _, rfl, ?_⟩
      rcases h_23 with q | q | q | q
      all_goals
        first
          | exact Or.inl ⟨by omega, rfl, mo_Qr_go hT_23 (by omega)⟩
          | exact Or.inr (Or.inl ⟨by omega, fun z => mo_b0 h_19 (by omega) ⟨by omega, z⟩, rfl, mo_Qr_go hT_23 (by omega)⟩)
          | (exfalso; omega)
  · skip
    refine mo_iconst (pc := 12) X dX5_tell_12 ?_
    refine mo_goto (pc := 13) (tgt := 17) X dX5_tell_13 (by decide) ?_
    refine mo_al0 (pc := 17) X dX5_tell_17 ?_
    refine mo_il3 (pc := 18) X dX5_tell_18 ?_
    refine mo_cVI (pc := 19) (As := [_]) X mo_k_X5_157 mo_y_yX5_mayTell rfl dX5_tell_19 (ct5_mayTell hm hI (by omega) (by omega)) (mo_Md_o hm) rfl (by decide) (by decide) (Nat.le_of_ble_eq_true rfl) ?_
    rintro r_19 _ ⟨h_19, rfl⟩
    refine mo_iconst (pc := 22) X dX5_tell_22 ?_
    refine mo_cVI (pc := 23) (As := [_, _, _]) X mo_k_X5_58 mo_y_yX5_goes rfl dX5_tell_23 (ct5_goes hm (by omega) (by omega) (by omega)) (mo_Md_o hm) rfl (by decide) (by decide) (Nat.le_of_ble_eq_true rfl) ?_
    rintro r_23 M_23 ⟨T_23, hT_23, h_23⟩
    have eg_23 : M_23 (m + 1) = M (m + 1) := by rw [hT_23, mo_ur_n (by omega)]
    have es_23 : M_23 m 2 = M m 2 := by rw [hT_23, mo_ur_s, mo_up_n (by omega)]
    refine mo_if_ne (pc := 26) (tgt := 31) X dX5_tell_26 (by decide) ?_ (fun c_26 => ?_) (fun c_26 => ?_)
    · omega
    · skip
      refine mo_al0 (pc := 31) X dX5_tell_31 ?_
      refine mo_cVV (pc := 32) (As := []) X mo_k_X5_62 mo_y_yX5_save rfl dX5_tell_32 (ct5_save (n := n) hm (by rw [es_23]; exact hs) hn4) (mo_Md_o hm) rfl (by decide) (by decide) (Nat.le_of_ble_eq_true rfl) ?_
      rintro M_32 h_32
      have eg_32 : M_32 (m + 1) = M (m + 1) := by rw [h_32.2.2.2.2 _ (by omega) (by omega), eg_23]
      refine mo_al0 (pc := 35) X dX5_tell_35 ?_
      obtain ⟨pk, hpk⟩ := Int.eq_ofNat_of_zero_le (show 0 ≤ pl by omega)
      subst hpk
      have hmt := hIt pk (by omega)
      unfold mo_Mt at hmt
      refine mo_il3 (pc := 36) X dX5_tell_36 ?_
      refine mo_il2 (pc := 37) X dX5_tell_37 ?_
      refine mo_cVV (pc := 38) (As := [_, _]) X mo_k_X5_160 mo_y_yX5_tells rfl dX5_tell_38 (ct5_tells (B := B) (p := pk) (a := a) hm (by rw [eg_32]; exact hI) (by omega) (by rw [eg_32]; omega) ha) (mo_Md_o hm) rfl (by decide) (by decide) (Nat.le_of_ble_eq_true rfl) ?_
      rintro M_38 h_38
      rw [eg_32] at h_38
      obtain ⟨g2, hg2⟩ : ∃ g2, g2 = if a = 0 then mo_ms (M (m + 1)) pk else mo_hd (M (m + 1)) pk := ⟨_, rfl⟩
      rw [← hg2] at h_38
      have e38 : M_38 (m + 1) = g2 := by rw [h_38, mo_ur_s]
      have hI2 : mo_Iv g2 (B + 1) := by
        rw [hg2]
        split
        · exact mo_Iv_ms hI (by omega)
        · exact mo_Iv_hd hI (by omega)
      have hf1 : mo_fld g2 pk 1 = mo_fld (M (m + 1)) pk 1 := by
        rw [hg2]
        split
        · rw [mo_ms_f (hIt pk (by omega)) hI4.2, if_neg (by omega)]
        · rw [mo_hd_f (hIt pk (by omega)) hI4.2 hI5.2, if_neg (by omega)]
      have hf0 : g2 0 = M (m + 1) 0 := by
        rw [hg2]
        split
        · exact mo_ms_lo ⟨by omega, by omega, by omega⟩
        · exact mo_hd_lo ⟨by omega, by omega, by omega, by omega⟩
      refine mo_al0 (pc := 41) X dX5_tell_41 ?_
      refine mo_al0 (pc := 42) X dX5_tell_42 ?_
      refine mo_il3 (pc := 43) X dX5_tell_43 ?_
      refine mo_iconst (pc := 44) X dX5_tell_44 ?_
      refine mo_cVI (pc := 45) (As := [_, _]) X mo_k_X5_89 mo_y_yX5_of rfl dX5_tell_45 (ct5_of (k := pk) (j := 1) hm (by omega)) (mo_Md_o hm) rfl (by decide) (by decide) (Nat.le_of_ble_eq_true rfl) ?_
      rintro r_45 _ ⟨h_45, rfl⟩
      rw [e38, hf1] at h_45
      obtain ⟨on, hon⟩ := Int.eq_ofNat_of_zero_le (show 0 ≤ r_45 by omega)
      subst hon
      obtain ⟨wn, hwn⟩ := Int.eq_ofNat_of_zero_le hI0.1
      refine mo_al0 (pc := 48) X dX5_tell_48 ?_
      refine mo_f_X5_7 (pc := 49) X dX5_tell_49 (mo_Md_o hm) (mo_Md_p0 hm) ?_
      refine mo_iconst (pc := 52) X dX5_tell_52 ?_
      refine mo_iald (pc := 53) (j := 0) X dX5_tell_53 (mo_Md_r0 hm) (by omega) ?_ ?_ rfl ?_
      · omega
      · omega
      rw [e38, hf0, hwn]
      refine mo_cVI (pc := 54) (As := [_, _]) X mo_k_X5_126 mo_y_yX5_owes rfl dX5_tell_54 (ct5_owes (B := B + 1) (o := on) (w := wn) hm (by rw [e38]; exact hI2) (by omega) (by omega) (by omega)) (mo_Md_o hm) rfl (by decide) (by decide) (Nat.le_of_ble_eq_true rfl) ?_
      rintro r_54 _ ⟨h_54, rfl⟩
      rw [e38] at h_54
      refine mo_iret (pc := 57) X Y rfl dX5_tell_57 ⟨rfl, rfl, _, rfl, ?_⟩
      first
        | (exfalso; omega)
        | (refine Or.inr (Or.inr ⟨by omega, (mo_b1 h_19 (by omega)).2, ?_, ?_⟩)
           · rw [Int.toNat_natCast, ← hg2, ← h_45, hwn, Int.toNat_natCast, Int.toNat_natCast]
             exact h_54
           · rw [Int.toNat_natCast, ← hg2]
             exact mo_Ur_of hT_23 (by omega) h_32 (by rw [e38]; exact mo_ag_rf _) (fun a q => by rw [h_38, mo_ur_n (by omega)]))
    · skip
      refine mo_iconst (pc := 29) X dX5_tell_29 ?_
      refine mo_iret (pc := 30) X Y rfl dX5_tell_30 ⟨rfl, rfl, _, rfl, ?_⟩
      rcases h_23 with q | q | q | q
      all_goals
        first
          | exact Or.inl ⟨by omega, rfl, mo_Qr_go hT_23 (by omega)⟩
          | exact Or.inr (Or.inl ⟨by omega, fun z => mo_b0 h_19 (by omega) ⟨by omega, z⟩, rfl, mo_Qr_go hT_23 (by omega)⟩)
          | (exfalso; omega)
set_option maxHeartbeats 4000000 in
set_option maxRecDepth 100000 in
theorem ct5_endWeek {lf : Launch} {ρf : mo_E} {G : mo_G} {M : mo_M} {t : Nat} {m : Nat} (hm : mo_Md G m) {B : Int} (hI : mo_Iv (M (m + 1)) B) (hB : B ≤ 800000000) {n : Nat} (hs : M m 2 = n) (hn4 : n ≤ 4) : mo_Ct lf ρf yX5_endWeek cX5_endWeek 1 (some .int) 3 0 0 [.ref m] G M t (mo_pi G t (fun x M' => (¬ (M (m + 1) 0 < 19) ∧ x = 0 ∧ mo_Qr M M' m 1) ∨ (M (m + 1) 0 < 19 ∧ x = mo_eN (M (m + 1)) ∧ mo_Ur M M' m n (mo_eR (M (m + 1)))))) := by
  refine mo_ofW (ls0 := [some (.ref m)]) (by decide) rfl (Nat.le_of_ble_eq_true rfl) ?_
  intro κ X Y
  have X : mo_Cx κ lf ρf cX5_endWeek 1 RX5 (some .int) 3 := X
  obtain ⟨hI0, hI1, hI2, hI3, hI4, hI5, hI6, hI7, hIh, hIa, hIe, hIm, hIs, hIl, hIw, hIr, hIt, hIs2, hIs3, hIz⟩ := id hI
  have hn : ((mo_nk (M (m + 1)) : Nat) : Int) = M (m + 1) 7 := by unfold mo_nk; omega
  refine mo_al0 (pc := 0) X dX5_endWeek_0 ?_
  refine mo_al0 (pc := 1) X dX5_endWeek_1 ?_
  refine mo_f_X5_7 (pc := 2) X dX5_endWeek_2 (mo_Md_o hm) (mo_Md_p0 hm) ?_
  refine mo_iconst (pc := 5) X dX5_endWeek_5 ?_
  refine mo_iald (pc := 6) (j := 0) X dX5_endWeek_6 (mo_Md_r0 hm) (by omega) ?_ ?_ rfl ?_
  · omega
  · omega
  refine mo_bipush (pc := 7) X dX5_endWeek_7 (by decide) ?_
  refine mo_ic_ge (pc := 9) (tgt := 16) X dX5_endWeek_9 (by decide) ?_ ?_ (fun c_9 => ?_) (fun c_9 => ?_)
  · omega
  · omega
  · skip
    refine mo_iconst (pc := 16) X dX5_endWeek_16 ?_
    refine mo_iconst (pc := 17) X dX5_endWeek_17 ?_
    refine mo_iconst (pc := 18) X dX5_endWeek_18 ?_
    refine mo_cVI (pc := 19) (As := [_, _, _]) X mo_k_X5_58 mo_y_yX5_goes rfl dX5_endWeek_19 (ct5_goes hm (by omega) (by omega) (by omega)) (mo_Md_o hm) rfl (by decide) (by decide) (Nat.le_of_ble_eq_true rfl) ?_
    rintro r_19 M_19 ⟨T_19, hT_19, h_19⟩
    have eg_19 : M_19 (m + 1) = M (m + 1) := by rw [hT_19, mo_ur_n (by omega)]
    have es_19 : M_19 m 2 = M m 2 := by rw [hT_19, mo_ur_s, mo_up_n (by omega)]
    refine mo_if_ne (pc := 22) (tgt := 27) X dX5_endWeek_22 (by decide) ?_ (fun c_22 => ?_) (fun c_22 => ?_)
    · omega
    · skip
      refine mo_al0 (pc := 27) X dX5_endWeek_27 ?_
      refine mo_cVV (pc := 28) (As := []) X mo_k_X5_62 mo_y_yX5_save rfl dX5_endWeek_28 (ct5_save (n := n) hm (by rw [es_19]; exact hs) hn4) (mo_Md_o hm) rfl (by decide) (by decide) (Nat.le_of_ble_eq_true rfl) ?_
      rintro M_28 h_28
      have eg_28 : M_28 (m + 1) = M (m + 1) := by rw [h_28.2.2.2.2 _ (by omega) (by omega), eg_19]
      refine mo_al0 (pc := 31) X dX5_endWeek_31 ?_
      refine mo_cVI (pc := 32) (As := []) X mo_k_X5_164 mo_y_yX5_ends rfl dX5_endWeek_32 (ct5_ends (B := B) hm (by rw [eg_28]; exact hI) (by omega) (by rw [eg_28]; omega)) (mo_Md_o hm) rfl (by decide) (by decide) (Nat.le_of_ble_eq_true rfl) ?_
      rintro r_32 M_32 ⟨h_32, hM_32⟩
      rw [eg_28] at h_32 hM_32
      refine mo_iret (pc := 35) X Y rfl dX5_endWeek_35 ⟨rfl, rfl, _, rfl, ?_⟩
      first
        | (exfalso; omega)
        | exact Or.inr ⟨by omega, h_32, mo_Ur_of hT_19 (by omega) h_28 (by rw [hM_32, mo_ur_s]; exact mo_ag_rf _) (fun a q => by rw [hM_32, mo_ur_n (by omega)])⟩
    · skip
      refine mo_iconst (pc := 25) X dX5_endWeek_25 ?_
      refine mo_iret (pc := 26) X Y rfl dX5_endWeek_26 ⟨rfl, rfl, _, rfl, ?_⟩
      first
        | exact Or.inl ⟨by omega, rfl, mo_Qr_go hT_19 (by omega)⟩
        | (exfalso; omega)
  · skip
    refine mo_iconst (pc := 12) X dX5_endWeek_12 ?_
    refine mo_goto (pc := 13) (tgt := 17) X dX5_endWeek_13 (by decide) ?_
    refine mo_iconst (pc := 17) X dX5_endWeek_17 ?_
    refine mo_iconst (pc := 18) X dX5_endWeek_18 ?_
    refine mo_cVI (pc := 19) (As := [_, _, _]) X mo_k_X5_58 mo_y_yX5_goes rfl dX5_endWeek_19 (ct5_goes hm (by omega) (by omega) (by omega)) (mo_Md_o hm) rfl (by decide) (by decide) (Nat.le_of_ble_eq_true rfl) ?_
    rintro r_19 M_19 ⟨T_19, hT_19, h_19⟩
    have eg_19 : M_19 (m + 1) = M (m + 1) := by rw [hT_19, mo_ur_n (by omega)]
    have es_19 : M_19 m 2 = M m 2 := by rw [hT_19, mo_ur_s, mo_up_n (by omega)]
    refine mo_if_ne (pc := 22) (tgt := 27) X dX5_endWeek_22 (by decide) ?_ (fun c_22 => ?_) (fun c_22 => ?_)
    · omega
    · skip
      refine mo_al0 (pc := 27) X dX5_endWeek_27 ?_
      refine mo_cVV (pc := 28) (As := []) X mo_k_X5_62 mo_y_yX5_save rfl dX5_endWeek_28 (ct5_save (n := n) hm (by rw [es_19]; exact hs) hn4) (mo_Md_o hm) rfl (by decide) (by decide) (Nat.le_of_ble_eq_true rfl) ?_
      rintro M_28 h_28
      have eg_28 : M_28 (m + 1) = M (m + 1) := by rw [h_28.2.2.2.2 _ (by omega) (by omega), eg_19]
      refine mo_al0 (pc := 31) X dX5_endWeek_31 ?_
      refine mo_cVI (pc := 32) (As := []) X mo_k_X5_164 mo_y_yX5_ends rfl dX5_endWeek_32 (ct5_ends (B := B) hm (by rw [eg_28]; exact hI) (by omega) (by rw [eg_28]; omega)) (mo_Md_o hm) rfl (by decide) (by decide) (Nat.le_of_ble_eq_true rfl) ?_
      rintro r_32 M_32 ⟨h_32, hM_32⟩
      rw [eg_28] at h_32 hM_32
      refine mo_iret (pc := 35) X Y rfl dX5_endWeek_35 ⟨rfl, rfl, _, rfl, ?_⟩
      first
        | (exfalso; omega)
        | exact Or.inr ⟨by omega, h_32, mo_Ur_of hT_19 (by omega) h_28 (by rw [hM_32, mo_ur_s]; exact mo_ag_rf _) (fun a q => by rw [hM_32, mo_ur_n (by omega)])⟩
    · skip
      refine mo_iconst (pc := 25) X dX5_endWeek_25 ?_
      refine mo_iret (pc := 26) X Y rfl dX5_endWeek_26 ⟨rfl, rfl, _, rfl, ?_⟩
      first
        | exact Or.inl ⟨by omega, rfl, mo_Qr_go hT_19 (by omega)⟩
        | (exfalso; omega)
