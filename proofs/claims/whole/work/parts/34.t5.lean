def mo_PS (M : mo_M) (m : Nat) (T : Nat → Int) (n p : Nat) : Prop := M m 10 = n ∧ M m 11 = p ∧ M (m + 8) = T
theorem mo_psP {M M' : mo_M} {m n p q : Nat} {T : Nat → Int} {v : Int} (h : M' = mo_ur M m (va_up (M m) 11 v)) (hv : v = (q : Nat)) (hT : mo_PS M m T n p) : mo_PS M' m T n q ∧ (∀ j, j ≠ 11 → M' m j = M m j) ∧ ∀ a, a ≠ m → M' a = M a := by
  obtain ⟨h1, h2, h3⟩ := hT
  rw [h]
  exact ⟨⟨by rw [mo_ur_s, mo_up_n (by omega), h1], by rw [mo_ur_s, mo_up_s, hv], by rw [mo_ur_n (by omega), h3]⟩, fun j hj => by rw [mo_ur_s, mo_up_n hj], fun a ha => by rw [mo_ur_n ha]⟩
theorem mo_psD {M M' : mo_M} {m n p q : Nat} {T f9 : Nat → Int} {v : Int} (h : M' = mo_ur (mo_ur M m (va_up (M m) 11 v)) (m + 9) f9) (hv : v = (q : Nat)) (hT : mo_PS M m T n p) : mo_PS M' m T n q ∧ (∀ j, j ≠ 11 → M' m j = M m j) ∧ M' (m + 9) = f9 ∧ ∀ a, a ≠ m → a ≠ m + 9 → M' a = M a := by
  obtain ⟨h1, h2, h3⟩ := hT
  rw [h]
  exact ⟨⟨by rw [mo_ur_n (by omega), mo_ur_s, mo_up_n (by omega), h1], by rw [mo_ur_n (by omega), mo_ur_s, mo_up_s, hv], by rw [mo_ur_n (by omega), mo_ur_n (by omega), h3]⟩, fun j hj => by rw [mo_ur_n (by omega), mo_ur_s, mo_up_n hj], by rw [mo_ur_s], fun a ha hb => by rw [mo_ur_n hb, mo_ur_n ha]⟩
def mo_PW (M M' : mo_M) (m : Nat) : Prop := (∀ j, j ≠ 11 → j ≠ 12 → M' m j = M m j) ∧ ∀ a, a ≠ m → a ≠ m + 9 → M' a = M a
/-- the numbers of the order at p -/
def mo_PV (f : Nat → Int) (b : Nat → Int) (p : Nat) : Prop := (b p = 99 → f 0 = mo_oN b p ∧ f 1 = mo_oW b p ∧ f 2 = mo_oH b p) ∧ (b p = 104 ∨ b p = 109 → f 0 = mo_oN b p) ∧ (b p = 112 → f 0 = mo_oW b p)
set_option maxHeartbeats 4000000 in
set_option maxRecDepth 100000 in
theorem ct5_takesParts {lf : Launch} {ρf : mo_E} {G : mo_G} {M : mo_M} {t : Nat} {m : Nat} (hm : mo_Md G m) {n p : Nat} (hn : n ≤ 100) (h10 : M m 10 = n) (h11 : M m 11 = (p + 1 : Nat)) (h12 : M m 12 = mo_bh (M (m + 8)) n p) (hp : p < n) (hr : ∀ j, j < n → 0 ≤ M (m + 8) j ∧ M (m + 8) j ≤ 127) : mo_Ct lf ρf yX5_takesParts cX5_takesParts 1 (some .boolean) 2 0 0 [.ref m] G M t (mo_pi G t (fun y M' => ((y = 1 ∧ (mo_pt (mo_bh (M (m + 8)) n) p).1 = true) ∨ (y = 0 ∧ ¬ ((mo_pt (mo_bh (M (m + 8)) n) p).1 = true))) ∧ M' m 11 = ((mo_pt (mo_bh (M (m + 8)) n) p).2 : Nat) ∧ M' m 12 = M m 12 ∧ mo_PW M M' m ∧ ((mo_pt (mo_bh (M (m + 8)) n) p).1 = true → mo_PV (M' (m + 9)) (mo_bh (M (m + 8)) n) p))) := by
  refine mo_ofW (ls0 := [some (.ref m)]) (by decide) rfl (Nat.le_of_ble_eq_true rfl) ?_
  intro κ X Y
  have X : mo_Cx κ lf ρf cX5_takesParts 1 RX5 (some .boolean) 2 := X
  have hbr : ∀ q, -1 ≤ mo_bh (M (m + 8)) n q ∧ mo_bh (M (m + 8)) n q ≤ 127 := fun q => by
    unfold mo_bh
    split
    · rename_i c; have := hr q c; omega
    · omega
  have hbn : ∀ q, (mo_bh (M (m + 8)) n) q ≠ -1 → q < n := fun q h => by
    unfold mo_bh at h
    split at h
    · assumption
    · omega
  have hbp := hbr p
  have hT0 : mo_PS M m (M (m + 8)) n (p + 1) := ⟨h10, h11, rfl⟩
  refine mo_al0 (pc := 0) X dX5_takesParts_0 ?_
  refine mo_f_X5_226 (pc := 1) X dX5_takesParts_1 (mo_Md_o hm) ?_
  rw [h12]
  by_cases k99 : (mo_bh (M (m + 8)) n) p = 99
  · rw [k99]
    refine mo_lsw (pc := 4) (tgt := 48) (off := 44) X dX5_takesParts_4 (by omega) (by decide) (by decide) (by decide) ?_
    refine mo_al0 (pc := 48) X dX5_takesParts_48 ?_
    refine mo_iconst (pc := 49) X dX5_takesParts_49 ?_
    refine mo_cVI (pc := 50) (As := [_]) X mo_k_X5_229 mo_y_yX5_takesDigit rfl dX5_takesParts_50 (ct5_takesDigit (k := 0) hm hn hT0.1 hT0.2.1 (by omega) (by rw [hT0.2.2]; exact hr) (by omega)) (mo_Md_o hm) rfl (by decide) (by decide) (Nat.le_of_ble_eq_true rfl) ?_
    rintro r_50 M_50 ⟨h_50, y_50, n_50⟩
    rw [hT0.2.2] at h_50 y_50 n_50
    refine mo_if_eq (pc := 53) (tgt := 87) X dX5_takesParts_53 (by decide) ?_ (fun c_53 => ?_) (fun c_53 => ?_)
    · omega
    · skip
      refine mo_iconst (pc := 87) X dX5_takesParts_87 ?_
      refine mo_zret (pc := 88) X Y rfl ?_ dX5_takesParts_88 ⟨rfl, rfl, _, rfl, ?_⟩
      · omega
      rw [n_50 (mo_b0 h_50 c_53)]
      have ept : mo_pt (mo_bh (M (m + 8)) n) p = (false, p + 1) := by
        unfold mo_pt
        rw [if_pos k99, if_neg (mo_b0 h_50 c_53)]
      rw [ept]
      refine ⟨Or.inr ⟨rfl, fun q => Bool.noConfusion q⟩, hT0.2.1, rfl, ⟨fun j a a2 => rfl, fun a a1 a2 => rfl⟩, fun q => ?_⟩
      exact Bool.noConfusion q
    · skip
      obtain ⟨hT50, g50, k50, f50⟩ := mo_psD (q := p + 2) (y_50 (mo_b1 h_50 c_53)) (by omega) hT0
      have hd1 := mo_dok_c (mo_b1 h_50 c_53)
      have hl1 := hbn (p + 1) (by omega)
      refine mo_al0 (pc := 56) X dX5_takesParts_56 ?_
      refine mo_iconst (pc := 57) X dX5_takesParts_57 ?_
      refine mo_bipush (pc := 58) X dX5_takesParts_58 (by decide) ?_
      refine mo_cVI (pc := 60) (As := [_, _]) X mo_k_X5_232 mo_y_yX5_takesNumber rfl dX5_takesParts_60 (ct5_takesNumber (k := 1) hm hn hT50.1 hT50.2.1 (by omega) (by rw [hT50.2.2]; exact hr) (by omega) (by omega)) (mo_Md_o hm) rfl (by decide) (by decide) (Nat.le_of_ble_eq_true rfl) ?_
      rintro r_60 M_60 ⟨h_60, y_60, n_60⟩
      rw [hT50.2.2] at h_60 y_60 n_60
      refine mo_if_eq (pc := 63) (tgt := 87) X dX5_takesParts_63 (by decide) ?_ (fun c_63 => ?_) (fun c_63 => ?_)
      · omega
      · skip
        refine mo_iconst (pc := 87) X dX5_takesParts_87 ?_
        refine mo_zret (pc := 88) X Y rfl ?_ dX5_takesParts_88 ⟨rfl, rfl, _, rfl, ?_⟩
        · omega
        obtain ⟨f9, n60⟩ := n_60 (mo_b0 h_60 c_63)
        obtain ⟨hT60, g60, k60, f60⟩ := mo_psD n60 rfl hT50
        have ept : mo_pt (mo_bh (M (m + 8)) n) p = (false, mo_nf (mo_bh (M (m + 8)) n) (p + 2)) := by
          unfold mo_pt
          rw [if_pos k99, if_pos (mo_b1 h_50 c_53), if_neg (mo_b0 h_60 c_63)]
        rw [ept]
        refine ⟨Or.inr ⟨rfl, fun q => Bool.noConfusion q⟩, hT60.2.1, by rw [g60 12 (by omega), g50 12 (by omega)], ⟨fun j a a2 => by rw [g60 j a, g50 j a], fun a a1 a2 => by rw [f60 a a1 a2, f50 a a1 a2]⟩, fun q => ?_⟩
        exact Bool.noConfusion q
      · skip
        obtain ⟨hT60, g60, k60, f60⟩ := mo_psD (y_60 (mo_b1 h_60 c_63)) rfl hT50
        have hne := mo_ne_b (mo_bh (M (m + 8)) n) (p + 2)
        refine mo_al0 (pc := 66) X dX5_takesParts_66 ?_
        refine mo_bipush (pc := 67) X dX5_takesParts_67 (by decide) ?_
        refine mo_cVI (pc := 69) (As := [_]) X mo_k_X5_235 mo_y_yX5_takesByte rfl dX5_takesParts_69 (ct5_takesByte hm hn hT60.1 hT60.2.1 (by omega) (by rw [hT60.2.2]; exact hr) (by omega)) (mo_Md_o hm) rfl (by decide) (by decide) (Nat.le_of_ble_eq_true rfl) ?_
        rintro r_69 M_69 ⟨h_69, e_69⟩
        rw [hT60.2.2] at h_69 e_69
        refine mo_if_eq (pc := 72) (tgt := 87) X dX5_takesParts_72 (by decide) ?_ (fun c_72 => ?_) (fun c_72 => ?_)
        · omega
        · skip
          refine mo_iconst (pc := 87) X dX5_takesParts_87 ?_
          refine mo_zret (pc := 88) X Y rfl ?_ dX5_takesParts_88 ⟨rfl, rfl, _, rfl, ?_⟩
          · omega
          rw [if_neg (mo_b0 h_69 c_72)] at e_69
          obtain ⟨hT69, g69, f69⟩ := mo_psP (q := mo_ne (mo_bh (M (m + 8)) n) (p + 2)) e_69 rfl hT60
          have ept : mo_pt (mo_bh (M (m + 8)) n) p = (false, mo_ne (mo_bh (M (m + 8)) n) (p + 2)) := by
            unfold mo_pt
            rw [if_pos k99, if_pos (mo_b1 h_50 c_53), if_pos (mo_b1 h_60 c_63), if_neg (mo_b0 h_69 c_72)]
          rw [ept]
          refine ⟨Or.inr ⟨rfl, fun q => Bool.noConfusion q⟩, hT69.2.1, by rw [g69 12 (by omega), g60 12 (by omega), g50 12 (by omega)], ⟨fun j a a2 => by rw [g69 j a, g60 j a, g50 j a], fun a a1 a2 => by rw [f69 a a1, f60 a a1 a2, f50 a a1 a2]⟩, fun q => ?_⟩
          exact Bool.noConfusion q
        · skip
          rw [if_pos (mo_b1 h_69 c_72)] at e_69
          obtain ⟨hT69, g69, f69⟩ := mo_psP (q := mo_ne (mo_bh (M (m + 8)) n) (p + 2) + 1) e_69 (by omega) hT60
          refine mo_al0 (pc := 75) X dX5_takesParts_75 ?_
          refine mo_iconst (pc := 76) X dX5_takesParts_76 ?_
          refine mo_cVI (pc := 77) (As := [_]) X mo_k_X5_229 mo_y_yX5_takesDigit rfl dX5_takesParts_77 (ct5_takesDigit (k := 2) hm hn hT69.1 hT69.2.1 (by omega) (by rw [hT69.2.2]; exact hr) (by omega)) (mo_Md_o hm) rfl (by decide) (by decide) (Nat.le_of_ble_eq_true rfl) ?_
          rintro r_77 M_77 ⟨h_77, y_77, n_77⟩
          rw [hT69.2.2] at h_77 y_77 n_77
          refine mo_if_eq (pc := 80) (tgt := 87) X dX5_takesParts_80 (by decide) ?_ (fun c_80 => ?_) (fun c_80 => ?_)
          · omega
          · skip
            refine mo_iconst (pc := 87) X dX5_takesParts_87 ?_
            refine mo_zret (pc := 88) X Y rfl ?_ dX5_takesParts_88 ⟨rfl, rfl, _, rfl, ?_⟩
            · omega
            rw [n_77 (mo_b0 h_77 c_80)]
            have ept : mo_pt (mo_bh (M (m + 8)) n) p = (false, mo_ne (mo_bh (M (m + 8)) n) (p + 2) + 1) := by
              unfold mo_pt
              rw [if_pos k99, if_pos (mo_b1 h_50 c_53), if_pos (mo_b1 h_60 c_63), if_pos (mo_b1 h_69 c_72), if_neg (mo_b0 h_77 c_80)]
            rw [ept]
            refine ⟨Or.inr ⟨rfl, fun q => Bool.noConfusion q⟩, hT69.2.1, by rw [g69 12 (by omega), g60 12 (by omega), g50 12 (by omega)], ⟨fun j a a2 => by rw [g69 j a, g60 j a, g50 j a], fun a a1 a2 => by rw [f69 a a1, f60 a a1 a2, f50 a a1 a2]⟩, fun q => ?_⟩
            exact Bool.noConfusion q
          · skip
            refine mo_iconst (pc := 83) X dX5_takesParts_83 ?_
            refine mo_goto (pc := 84) (tgt := 88) X dX5_takesParts_84 (by decide) ?_
            refine mo_zret (pc := 88) X Y rfl ?_ dX5_takesParts_88 ⟨rfl, rfl, _, rfl, ?_⟩
            · omega
            obtain ⟨hT77, g77, k77, f77⟩ := mo_psD (q := mo_ne (mo_bh (M (m + 8)) n) (p + 2) + 2) (y_77 (mo_b1 h_77 c_80)) (by omega) hT69
            have ept : mo_pt (mo_bh (M (m + 8)) n) p = (true, mo_ne (mo_bh (M (m + 8)) n) (p + 2) + 2) := by
              unfold mo_pt
              rw [if_pos k99, if_pos (mo_b1 h_50 c_53), if_pos (mo_b1 h_60 c_63), if_pos (mo_b1 h_69 c_72), if_pos (mo_b1 h_77 c_80)]
            rw [ept]
            refine ⟨Or.inl ⟨rfl, rfl⟩, hT77.2.1, by rw [g77 12 (by omega), g69 12 (by omega), g60 12 (by omega), g50 12 (by omega)], ⟨fun j a a2 => by rw [g77 j a, g69 j a, g60 j a, g50 j a], fun a a1 a2 => by rw [f77 a a1 a2, f69 a a1, f60 a a1 a2, f50 a a1 a2]⟩, fun q => ?_⟩
            have k69 : M_69 (m + 9) = M_60 (m + 9) := f69 _ (by omega)
            refine ⟨fun _ => ⟨?_, ?_, ?_⟩, fun q2 => absurd q2 (by omega), fun q2 => absurd q2 (by omega)⟩
            · rw [k77, mo_up_n (by omega), k69, k60, mo_up_n (by omega), k50, mo_up_s]
              unfold mo_oN
              rw [if_pos k99]
            · rw [k77, mo_up_n (by omega), k69, k60, mo_up_s]
              unfold mo_oW
              rw [if_pos k99]
            · rw [k77, mo_up_s]
              rfl
  by_cases k112 : (mo_bh (M (m + 8)) n) p = 112
  · rw [k112]
    refine mo_lsw (pc := 4) (tgt := 89) (off := 85) X dX5_takesParts_4 (by omega) (by decide) (by decide) (by decide) ?_
    refine mo_al0 (pc := 89) X dX5_takesParts_89 ?_
    refine mo_iconst (pc := 90) X dX5_takesParts_90 ?_
    refine mo_bipush (pc := 91) X dX5_takesParts_91 (by decide) ?_
    refine mo_cVI (pc := 93) (As := [_, _]) X mo_k_X5_232 mo_y_yX5_takesNumber rfl dX5_takesParts_93 (ct5_takesNumber (k := 0) hm hn hT0.1 hT0.2.1 (by omega) (by rw [hT0.2.2]; exact hr) (by omega) (by omega)) (mo_Md_o hm) rfl (by decide) (by decide) (Nat.le_of_ble_eq_true rfl) ?_
    rintro r_93 M_93 ⟨h_93, y_93, n_93⟩
    rw [hT0.2.2] at h_93 y_93 n_93
    refine mo_zret (pc := 96) X Y rfl ?_ dX5_takesParts_96 ⟨rfl, rfl, _, rfl, ?_⟩
    · omega
    rcases h_93 with ⟨s1, s2⟩ | ⟨s1, s2⟩
    · subst s1
      obtain ⟨hT93, g93, k93m, f93⟩ := mo_psD (y_93 s2) rfl hT0
      have ept : mo_pt (mo_bh (M (m + 8)) n) p = (true, mo_ne (mo_bh (M (m + 8)) n) (p + 1)) := by
        unfold mo_pt
        rw [if_neg k99, if_pos k112, if_pos s2]
      rw [ept]
      refine ⟨Or.inl ⟨rfl, rfl⟩, hT93.2.1, by rw [g93 12 (by omega)], ⟨fun j a a2 => by rw [g93 j a], fun a a1 a2 => by rw [f93 a a1 a2]⟩, fun q => ?_⟩
      refine ⟨fun q2 => absurd q2 k99, fun q2 => absurd q2 (by omega), fun _ => ?_⟩
      rw [k93m, mo_up_s]
      unfold mo_oW
      rw [if_neg k99]
    · subst s1
      obtain ⟨f9, n9⟩ := n_93 s2
      obtain ⟨hT93, g93, k93m, f93⟩ := mo_psD n9 rfl hT0
      have ept : mo_pt (mo_bh (M (m + 8)) n) p = (false, mo_nf (mo_bh (M (m + 8)) n) (p + 1)) := by
        unfold mo_pt
        rw [if_neg k99, if_pos k112, if_neg s2]
      rw [ept]
      refine ⟨Or.inr ⟨rfl, fun q => Bool.noConfusion q⟩, hT93.2.1, by rw [g93 12 (by omega)], ⟨fun j a a2 => by rw [g93 j a], fun a a1 a2 => by rw [f93 a a1 a2]⟩, fun q => ?_⟩
      exact Bool.noConfusion q
  by_cases k104 : (mo_bh (M (m + 8)) n) p = 104
  · rw [k104]
    refine mo_lsw (pc := 4) (tgt := 97) (off := 93) X dX5_takesParts_4 (by omega) (by decide) (by decide) (by decide) ?_
    refine mo_al0 (pc := 97) X dX5_takesParts_97 ?_
    refine mo_iconst (pc := 98) X dX5_takesParts_98 ?_
    refine mo_bipush (pc := 99) X dX5_takesParts_99 (by decide) ?_
    refine mo_cVI (pc := 101) (As := [_, _]) X mo_k_X5_232 mo_y_yX5_takesNumber rfl dX5_takesParts_101 (ct5_takesNumber (k := 0) hm hn hT0.1 hT0.2.1 (by omega) (by rw [hT0.2.2]; exact hr) (by omega) (by omega)) (mo_Md_o hm) rfl (by decide) (by decide) (Nat.le_of_ble_eq_true rfl) ?_
    rintro r_101 M_101 ⟨h_101, y_101, n_101⟩
    rw [hT0.2.2] at h_101 y_101 n_101
    refine mo_zret (pc := 104) X Y rfl ?_ dX5_takesParts_104 ⟨rfl, rfl, _, rfl, ?_⟩
    · omega
    rcases h_101 with ⟨s1, s2⟩ | ⟨s1, s2⟩
    · subst s1
      obtain ⟨hT101, g101, k101m, f101⟩ := mo_psD (y_101 s2) rfl hT0
      have ept : mo_pt (mo_bh (M (m + 8)) n) p = (true, mo_ne (mo_bh (M (m + 8)) n) (p + 1)) := by
        unfold mo_pt
        rw [if_neg k99, if_neg k112, if_pos (show (mo_bh (M (m + 8)) n) p = 104 ∨ (mo_bh (M (m + 8)) n) p = 109 by omega), if_pos s2]
      rw [ept]
      refine ⟨Or.inl ⟨rfl, rfl⟩, hT101.2.1, by rw [g101 12 (by omega)], ⟨fun j a a2 => by rw [g101 j a], fun a a1 a2 => by rw [f101 a a1 a2]⟩, fun q => ?_⟩
      refine ⟨fun q2 => absurd q2 k99, fun _ => ?_, fun q2 => absurd q2 k112⟩
      rw [k101m, mo_up_s]
      unfold mo_oN
      rw [if_neg k99]
    · subst s1
      obtain ⟨f9, n9⟩ := n_101 s2
      obtain ⟨hT101, g101, k101m, f101⟩ := mo_psD n9 rfl hT0
      have ept : mo_pt (mo_bh (M (m + 8)) n) p = (false, mo_nf (mo_bh (M (m + 8)) n) (p + 1)) := by
        unfold mo_pt
        rw [if_neg k99, if_neg k112, if_pos (show (mo_bh (M (m + 8)) n) p = 104 ∨ (mo_bh (M (m + 8)) n) p = 109 by omega), if_neg s2]
      rw [ept]
      refine ⟨Or.inr ⟨rfl, fun q => Bool.noConfusion q⟩, hT101.2.1, by rw [g101 12 (by omega)], ⟨fun j a a2 => by rw [g101 j a], fun a a1 a2 => by rw [f101 a a1 a2]⟩, fun q => ?_⟩
      exact Bool.noConfusion q
  by_cases k109 : (mo_bh (M (m + 8)) n) p = 109
  · rw [k109]
    refine mo_lsw (pc := 4) (tgt := 97) (off := 93) X dX5_takesParts_4 (by omega) (by decide) (by decide) (by decide) ?_
    refine mo_al0 (pc := 97) X dX5_takesParts_97 ?_
    refine mo_iconst (pc := 98) X dX5_takesParts_98 ?_
    refine mo_bipush (pc := 99) X dX5_takesParts_99 (by decide) ?_
    refine mo_cVI (pc := 101) (As := [_, _]) X mo_k_X5_232 mo_y_yX5_takesNumber rfl dX5_takesParts_101 (ct5_takesNumber (k := 0) hm hn hT0.1 hT0.2.1 (by omega) (by rw [hT0.2.2]; exact hr) (by omega) (by omega)) (mo_Md_o hm) rfl (by decide) (by decide) (Nat.le_of_ble_eq_true rfl) ?_
    rintro r_101 M_101 ⟨h_101, y_101, n_101⟩
    rw [hT0.2.2] at h_101 y_101 n_101
    refine mo_zret (pc := 104) X Y rfl ?_ dX5_takesParts_104 ⟨rfl, rfl, _, rfl, ?_⟩
    · omega
    rcases h_101 with ⟨s1, s2⟩ | ⟨s1, s2⟩
    · subst s1
      obtain ⟨hT101, g101, k101m, f101⟩ := mo_psD (y_101 s2) rfl hT0
      have ept : mo_pt (mo_bh (M (m + 8)) n) p = (true, mo_ne (mo_bh (M (m + 8)) n) (p + 1)) := by
        unfold mo_pt
        rw [if_neg k99, if_neg k112, if_pos (show (mo_bh (M (m + 8)) n) p = 104 ∨ (mo_bh (M (m + 8)) n) p = 109 by omega), if_pos s2]
      rw [ept]
      refine ⟨Or.inl ⟨rfl, rfl⟩, hT101.2.1, by rw [g101 12 (by omega)], ⟨fun j a a2 => by rw [g101 j a], fun a a1 a2 => by rw [f101 a a1 a2]⟩, fun q => ?_⟩
      refine ⟨fun q2 => absurd q2 k99, fun _ => ?_, fun q2 => absurd q2 k112⟩
      rw [k101m, mo_up_s]
      unfold mo_oN
      rw [if_neg k99]
    · subst s1
      obtain ⟨f9, n9⟩ := n_101 s2
      obtain ⟨hT101, g101, k101m, f101⟩ := mo_psD n9 rfl hT0
      have ept : mo_pt (mo_bh (M (m + 8)) n) p = (false, mo_nf (mo_bh (M (m + 8)) n) (p + 1)) := by
        unfold mo_pt
        rw [if_neg k99, if_neg k112, if_pos (show (mo_bh (M (m + 8)) n) p = 104 ∨ (mo_bh (M (m + 8)) n) p = 109 by omega), if_neg s2]
      rw [ept]
      refine ⟨Or.inr ⟨rfl, fun q => Bool.noConfusion q⟩, hT101.2.1, by rw [g101 12 (by omega)], ⟨fun j a a2 => by rw [g101 j a], fun a a1 a2 => by rw [f101 a a1 a2]⟩, fun q => ?_⟩
      exact Bool.noConfusion q
  refine mo_lsw (pc := 4) (tgt := 105) (off := 101) X dX5_takesParts_4 (by omega) (by decide) (by show (if (99 : Int) = (mo_bh (M (m + 8)) n) p then (44 : Int) else if (104 : Int) = (mo_bh (M (m + 8)) n) p then 93 else if (109 : Int) = (mo_bh (M (m + 8)) n) p then 93 else if (112 : Int) = (mo_bh (M (m + 8)) n) p then 85 else 101) = 101; rw [if_neg (by omega), if_neg (by omega), if_neg (by omega), if_neg (by omega)]) (by decide) ?_
  refine mo_iconst (pc := 105) X dX5_takesParts_105 ?_
  refine mo_zret (pc := 106) X Y rfl ?_ dX5_takesParts_106 ⟨rfl, rfl, _, rfl, ?_⟩
  · omega
  have ept : mo_pt (mo_bh (M (m + 8)) n) p = (true, p + 1) := by
    unfold mo_pt
    rw [if_neg k99, if_neg k112, if_neg (show ¬ ((mo_bh (M (m + 8)) n) p = 104 ∨ (mo_bh (M (m + 8)) n) p = 109) by omega)]
  rw [ept]
  refine ⟨Or.inl ⟨rfl, rfl⟩, hT0.2.1, rfl, ⟨fun j a a2 => rfl, fun a a1 a2 => rfl⟩, fun q => ?_⟩
  exact ⟨fun q2 => absurd q2 k99, fun q2 => absurd q2 (by omega), fun q2 => absurd q2 k112⟩
set_option maxHeartbeats 4000000 in
set_option maxRecDepth 100000 in
theorem ct5_takesOrder {lf : Launch} {ρf : mo_E} {G : mo_G} {M : mo_M} {t : Nat} {m : Nat} (hm : mo_Md G m) {n p : Nat} (hn : n ≤ 100) (h10 : M m 10 = n) (h11 : M m 11 = p) (hp : p < n) (hr : ∀ j, j < n → 0 ≤ M (m + 8) j ∧ M (m + 8) j ≤ 127) : mo_Ct lf ρf yX5_takesOrder cX5_takesOrder 1 (some .boolean) 3 0 0 [.ref m] G M t (mo_pi G t (fun y M' => ((y = 1 ∧ mo_odf (mo_bh (M (m + 8)) n) p = true) ∨ (y = 0 ∧ ¬ (mo_odf (mo_bh (M (m + 8)) n) p = true))) ∧ M' m 11 = (mo_oe (mo_bh (M (m + 8)) n) p : Nat) ∧ M' m 12 = (mo_bh (M (m + 8)) n) p ∧ mo_PW M M' m ∧ (mo_odf (mo_bh (M (m + 8)) n) p = true → mo_PV (M' (m + 9)) (mo_bh (M (m + 8)) n) p))) := by
  refine mo_ofW (ls0 := [some (.ref m)]) (by decide) rfl (Nat.le_of_ble_eq_true rfl) ?_
  intro κ X Y
  have X : mo_Cx κ lf ρf cX5_takesOrder 1 RX5 (some .boolean) 3 := X
  have hbr : ∀ q, -1 ≤ mo_bh (M (m + 8)) n q ∧ mo_bh (M (m + 8)) n q ≤ 127 := fun q => by
    unfold mo_bh
    split
    · rename_i c; have := hr q c; omega
    · omega
  have hbn : ∀ q, (mo_bh (M (m + 8)) n) q ≠ -1 → q < n := fun q h => by
    unfold mo_bh at h
    split at h
    · assumption
    · omega
  have hbp := hbr p
  have f12 : ∀ v : Int, mo_ur M m (va_up (M m) 12 v) m 12 = v := fun v => by rw [mo_ur_s, mo_up_s]
  have key : (mo_bh (M (m + 8)) n) p = 99 ∨ (mo_bh (M (m + 8)) n) p = 112 ∨ (mo_bh (M (m + 8)) n) p = 104 ∨ (mo_bh (M (m + 8)) n) p = 109 ∨ (mo_bh (M (m + 8)) n) p = 119 → mo_V κ 0 0 55 [some (.ref m)] [] G (mo_ur M m (va_up (M m) 12 ((mo_bh (M (m + 8)) n) p))) t := by
    intro hk
    have elt : mo_ltr (mo_bh (M (m + 8)) n) p = true := by unfold mo_ltr; rw [decide_eq_true_eq]; exact hk
    refine mo_al0 (pc := 55) X dX5_takesOrder_55 ?_
    refine mo_dup (pc := 56) X dX5_takesOrder_56 rfl ?_
    refine mo_f_X5_214 (pc := 57) X dX5_takesOrder_57 (mo_Md_o hm) ?_
    rw [mo_ur_s, mo_up_n (by omega), h11]
    refine mo_iconst (pc := 60) X dX5_takesOrder_60 ?_
    refine mo_iadd (pc := 61) X dX5_takesOrder_61 ?_
    refine mo_p_X5_214 (pc := 62) X dX5_takesOrder_62 (mo_Md_o hm) ?_
    have hm1 : ∃ Q : mo_M, Q = mo_ur M m (va_up (va_up (M m) 12 ((mo_bh (M (m + 8)) n) p)) 11 ((p : Int) + 1)) := ⟨_, rfl⟩
    obtain ⟨M1, hM1⟩ := hm1
    rw [mo_ur_s, mo_ur_ur, ← hM1]
    have q10 : M1 m 10 = n := by rw [hM1, mo_ur_s, mo_up_n (by omega), mo_up_n (by omega), h10]
    have q11 : M1 m 11 = (p + 1 : Nat) := by rw [hM1, mo_ur_s, mo_up_s]; omega
    have q12 : M1 m 12 = (mo_bh (M (m + 8)) n) p := by rw [hM1, mo_ur_s, mo_up_n (by omega), mo_up_s]
    have q8 : M1 (m + 8) = M (m + 8) := by rw [hM1, mo_ur_n (by omega)]
    have qj : ∀ j, j ≠ 11 → j ≠ 12 → M1 m j = M m j := fun j a1 a2 => by rw [hM1, mo_ur_s, mo_up_n a1, mo_up_n a2]
    have qa : ∀ a, a ≠ m → M1 a = M a := fun a a1 => by rw [hM1, mo_ur_n a1]
    refine mo_al0 (pc := 65) X dX5_takesOrder_65 ?_
    refine mo_cVI (pc := 66) (As := []) X mo_k_X5_238 mo_y_yX5_takesParts rfl dX5_takesOrder_66 (ct5_takesParts (p := p) hm hn q10 q11 (by rw [q12, q8]) hp (by rw [q8]; exact hr)) (mo_Md_o hm) rfl (by decide) (by decide) (Nat.le_of_ble_eq_true rfl) ?_
    rintro r_66 M_66 ⟨h_66, t11, t12, tw, tV⟩
    rw [q8] at h_66 t11 tV
    have mo_pw0 : mo_PW M M_66 m := ⟨fun j a1 a2 => (tw.1 j a1 a2).trans (qj j a1 a2), fun a a1 a2 => (tw.2 a a1 a2).trans (qa a a1)⟩
    have hT66 : mo_PS M_66 m (M (m + 8)) n (mo_pt (mo_bh (M (m + 8)) n) p).2 := ⟨by rw [mo_pw0.1 10 (by omega) (by omega)]; exact h10, t11, mo_pw0.2 (m + 8) (by omega) (by omega)⟩
    refine mo_if_eq (pc := 69) (tgt := 85) X dX5_takesOrder_69 (by decide) ?_ (fun c_69 => ?_) (fun c_69 => ?_)
    · omega
    · skip
      refine mo_iconst (pc := 85) X dX5_takesOrder_85 ?_
      refine mo_zret (pc := 86) X Y rfl ?_ dX5_takesOrder_86 ⟨rfl, rfl, _, rfl, ?_⟩
      · omega
      have e1 : mo_okp (mo_bh (M (m + 8)) n) p = false := by unfold mo_okp; rw [elt, Bool.eq_false_iff.mpr (mo_b0 h_66 c_69)]; rfl
      have e2 : mo_odf (mo_bh (M (m + 8)) n) p = false := by unfold mo_odf; rw [e1]; rfl
      have e3 : mo_oe (mo_bh (M (m + 8)) n) p = (mo_pt (mo_bh (M (m + 8)) n) p).2 := by unfold mo_oe mo_oq; rw [if_neg (by rw [e2]; decide), if_pos elt]
      refine ⟨Or.inr ⟨rfl, by rw [e2]; decide⟩, by rw [t11, e3], t12.trans q12, mo_pw0, fun q => absurd q (by rw [e2]; decide)⟩
    · skip
      have hq := mo_okp_n hbn (show mo_okp (mo_bh (M (m + 8)) n) p = true by unfold mo_okp; rw [elt, mo_b1 h_66 c_69]; rfl)
      have e4 : mo_oq (mo_bh (M (m + 8)) n) p = (mo_pt (mo_bh (M (m + 8)) n) p).2 := by unfold mo_oq; rw [if_pos elt]
      refine mo_al0 (pc := 72) X dX5_takesOrder_72 ?_
      refine mo_bipush (pc := 73) X dX5_takesOrder_73 (by decide) ?_
      refine mo_cVI (pc := 75) (As := [_]) X mo_k_X5_235 mo_y_yX5_takesByte rfl dX5_takesOrder_75 (ct5_takesByte (p := (mo_pt (mo_bh (M (m + 8)) n) p).2) hm hn hT66.1 hT66.2.1 (by omega) (by rw [hT66.2.2]; exact hr) (by omega)) (mo_Md_o hm) rfl (by decide) (by decide) (Nat.le_of_ble_eq_true rfl) ?_
      rintro r_75 M_75 ⟨h_75, e_75⟩
      rw [hT66.2.2] at h_75 e_75
      refine mo_if_eq (pc := 78) (tgt := 85) X dX5_takesOrder_78 (by decide) ?_ (fun c_78 => ?_) (fun c_78 => ?_)
      · omega
      · skip
        refine mo_iconst (pc := 85) X dX5_takesOrder_85 ?_
        refine mo_zret (pc := 86) X Y rfl ?_ dX5_takesOrder_86 ⟨rfl, rfl, _, rfl, ?_⟩
        · omega
        have e0 := mo_b1 h_66 c_69
        have e1 : mo_okp (mo_bh (M (m + 8)) n) p = true := by unfold mo_okp; rw [elt, e0]; rfl
        have e4 : mo_oq (mo_bh (M (m + 8)) n) p = (mo_pt (mo_bh (M (m + 8)) n) p).2 := by unfold mo_oq; rw [if_pos elt]
        have e2 : mo_odf (mo_bh (M (m + 8)) n) p = false := by unfold mo_odf; rw [e4, decide_eq_false (mo_b0 h_75 c_78), Bool.and_false]
        have e3 : mo_oe (mo_bh (M (m + 8)) n) p = (mo_pt (mo_bh (M (m + 8)) n) p).2 := by unfold mo_oe; rw [if_neg (by rw [e2]; decide), e4]
        rw [if_neg (mo_b0 h_75 c_78)] at e_75
        obtain ⟨hT75, g75, f75⟩ := mo_psP (q := (mo_pt (mo_bh (M (m + 8)) n) p).2) e_75 rfl hT66
        refine ⟨Or.inr ⟨rfl, by rw [e2]; decide⟩, by rw [hT75.2.1, e3], (g75 12 (by omega)).trans (t12.trans q12), ⟨fun j a1 a2 => (g75 j a1).trans (mo_pw0.1 j a1 a2), fun a a1 a2 => (f75 a a1).trans (mo_pw0.2 a a1 a2)⟩, fun q => absurd q (by rw [e2]; decide)⟩
      · skip
        refine mo_iconst (pc := 81) X dX5_takesOrder_81 ?_
        refine mo_goto (pc := 82) (tgt := 86) X dX5_takesOrder_82 (by decide) ?_
        refine mo_zret (pc := 86) X Y rfl ?_ dX5_takesOrder_86 ⟨rfl, rfl, _, rfl, ?_⟩
        · omega
        have e0 := mo_b1 h_66 c_69
        have e1 : mo_okp (mo_bh (M (m + 8)) n) p = true := by unfold mo_okp; rw [elt, e0]; rfl
        have e4 : mo_oq (mo_bh (M (m + 8)) n) p = (mo_pt (mo_bh (M (m + 8)) n) p).2 := by unfold mo_oq; rw [if_pos elt]
        have e2 : mo_odf (mo_bh (M (m + 8)) n) p = true := by unfold mo_odf; rw [e1, e4, decide_eq_true (mo_b1 h_75 c_78)]; rfl
        have e3 : mo_oe (mo_bh (M (m + 8)) n) p = (mo_pt (mo_bh (M (m + 8)) n) p).2 + 1 := by unfold mo_oe; rw [if_pos e2, e4]
        rw [if_pos (mo_b1 h_75 c_78)] at e_75
        obtain ⟨hT75, g75, f75⟩ := mo_psP (q := (mo_pt (mo_bh (M (m + 8)) n) p).2 + 1) e_75 (by omega) hT66
        refine ⟨Or.inl ⟨rfl, e2⟩, by rw [hT75.2.1, e3], (g75 12 (by omega)).trans (t12.trans q12), ⟨fun j a1 a2 => (g75 j a1).trans (mo_pw0.1 j a1 a2), fun a a1 a2 => (f75 a a1).trans (mo_pw0.2 a a1 a2)⟩, fun q => ?_⟩
        rw [f75 (m + 9) (by omega)]
        exact tV e0
  refine mo_al0 (pc := 0) X dX5_takesOrder_0 ?_
  refine mo_al0 (pc := 1) X dX5_takesOrder_1 ?_
  refine mo_cVI (pc := 2) (As := []) X mo_k_X5_217 mo_y_yX5_here rfl dX5_takesOrder_2 (ct5_here hm hn h10 h11 (by omega) hr) (mo_Md_o hm) rfl (by decide) (by decide) (Nat.le_of_ble_eq_true rfl) ?_
  rintro r_2 _ ⟨h_2, rfl⟩
  subst h_2
  refine mo_p_X5_226 (pc := 5) X dX5_takesOrder_5 (mo_Md_o hm) ?_
  refine mo_al0 (pc := 8) X dX5_takesOrder_8 ?_
  refine mo_f_X5_226 (pc := 9) X dX5_takesOrder_9 (mo_Md_o hm) ?_
  rw [f12]
  refine mo_bipush (pc := 12) X dX5_takesOrder_12 (by decide) ?_
  refine mo_ic_eq (pc := 14) (tgt := 55) X dX5_takesOrder_14 (by decide) ?_ ?_ (fun c_14 => ?_) (fun c_14 => ?_)
  · omega
  · omega
  · skip
    exact key (by omega)
  · skip
    refine mo_al0 (pc := 17) X dX5_takesOrder_17 ?_
    refine mo_f_X5_226 (pc := 18) X dX5_takesOrder_18 (mo_Md_o hm) ?_
    rw [f12]
    refine mo_bipush (pc := 21) X dX5_takesOrder_21 (by decide) ?_
    refine mo_ic_eq (pc := 23) (tgt := 55) X dX5_takesOrder_23 (by decide) ?_ ?_ (fun c_23 => ?_) (fun c_23 => ?_)
    · omega
    · omega
    · skip
      exact key (by omega)
    · skip
      refine mo_al0 (pc := 26) X dX5_takesOrder_26 ?_
      refine mo_f_X5_226 (pc := 27) X dX5_takesOrder_27 (mo_Md_o hm) ?_
      rw [f12]
      refine mo_bipush (pc := 30) X dX5_takesOrder_30 (by decide) ?_
      refine mo_ic_eq (pc := 32) (tgt := 55) X dX5_takesOrder_32 (by decide) ?_ ?_ (fun c_32 => ?_) (fun c_32 => ?_)
      · omega
      · omega
      · skip
        exact key (by omega)
      · skip
        refine mo_al0 (pc := 35) X dX5_takesOrder_35 ?_
        refine mo_f_X5_226 (pc := 36) X dX5_takesOrder_36 (mo_Md_o hm) ?_
        rw [f12]
        refine mo_bipush (pc := 39) X dX5_takesOrder_39 (by decide) ?_
        refine mo_ic_eq (pc := 41) (tgt := 55) X dX5_takesOrder_41 (by decide) ?_ ?_ (fun c_41 => ?_) (fun c_41 => ?_)
        · omega
        · omega
        · skip
          exact key (by omega)
        · skip
          refine mo_al0 (pc := 44) X dX5_takesOrder_44 ?_
          refine mo_f_X5_226 (pc := 45) X dX5_takesOrder_45 (mo_Md_o hm) ?_
          rw [f12]
          refine mo_bipush (pc := 48) X dX5_takesOrder_48 (by decide) ?_
          refine mo_ic_eq (pc := 50) (tgt := 55) X dX5_takesOrder_50 (by decide) ?_ ?_ (fun c_50 => ?_) (fun c_50 => ?_)
          · omega
          · omega
          · skip
            exact key (by omega)
          · skip
            refine mo_iconst (pc := 53) X dX5_takesOrder_53 ?_
            refine mo_zret (pc := 54) X Y rfl ?_ dX5_takesOrder_54 ⟨rfl, rfl, _, rfl, ?_⟩
            · omega
            have elt : mo_ltr (mo_bh (M (m + 8)) n) p = false := by unfold mo_ltr; exact decide_eq_false (by omega)
            have e1 : mo_okp (mo_bh (M (m + 8)) n) p = false := by unfold mo_okp; rw [elt]; rfl
            have e2 : mo_odf (mo_bh (M (m + 8)) n) p = false := by unfold mo_odf; rw [e1]; rfl
            have e3 : mo_oe (mo_bh (M (m + 8)) n) p = p := by unfold mo_oe mo_oq; rw [if_neg (by rw [e2]; decide), if_neg (by rw [elt]; decide)]
            exact ⟨Or.inr ⟨rfl, by rw [e2]; decide⟩, by rw [e3, mo_ur_s, mo_up_n (by omega), h11], f12 _, ⟨fun j a1 a2 => by rw [mo_ur_s, mo_up_n a2], fun a a1 a2 => mo_ur_n a1⟩, fun q => absurd q (by rw [e2]; decide)⟩
