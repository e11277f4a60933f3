set_option maxHeartbeats 4000000 in
set_option maxRecDepth 100000 in
theorem nt4_tell {lf : Launch} {ρf : mo_E} {G : mo_G} {M : mo_M} {t : Nat} {x n sv s : Nat} {g T : Nat → Int} {S : Nat → Nat → Int} {B : Int} (hC : mo_CI G M x g n T sv S s) (hI : mo_Iv g B) (hB : B ≤ 700000000) (hsv : sv ≤ 4) {o pl v : Int} (ho : mo_In o) (hv : mo_In v) (hpl : pl = mo_ff (fun k => decide (mo_fld g k 0 = o)) (mo_nk g)) (hok : (pl ≠ -1) ∧ (mo_op g pl.toNat = true)) : mo_Ct lf ρf yX4_tell cX4_tell 4 (some .int) 6 0 0 [.ref x, mo_iv o, mo_iv v] G M t (fun u G' M' t' => (G'.1 = G.1 ∧ ∀ b, b ≠ x + 39 → G'.2 b = G.2 b) ∧ t' = t ∧ (pl ≠ -1) ∧ (mo_op g pl.toNat = true) ∧ u = some (mo_iv (mo_ow (if v = 0 then mo_ms g pl.toNat else mo_hd g pl.toNat) (mo_fld g pl.toNat 1).toNat (g 0).toNat)) ∧ (∀ a, mo_oz x a → M' a = M a) ∧ ∃ s', mo_CI G' M' x ((if v = 0 then mo_ms g pl.toNat else mo_hd g pl.toNat)) n T (mo_svq sv + 1) (mo_Sn sv g S) s') := by
  refine mo_ofW (ls0 := [some (.ref x), some (mo_iv o), some (mo_iv v), none]) (by decide) rfl (Nat.le_of_ble_eq_true rfl) ?_
  intro κ X Y
  have X : mo_Cx κ lf ρf cX4_tell 4 RX4 (some .int) 6 := X
  obtain ⟨hx, hg, hS, h5, hSv, ht, hT⟩ := id hC
  obtain ⟨hI0, hI1, hI2, hI3, hI4, hI5, hI6, hI7, hIh, hIa, hIe, hIm, hIs, hIl, hIw, hIr, hIt, hIs2, hIs3, hIz⟩ := id hI
  obtain ⟨s0, s1, s2, s3, s4, s5, sH, sA, sE, sM, sS, sL, sW, sRo, sF⟩ := id hS
  have hnk : ((mo_nk g : Nat) : Int) = g 7 := by unfold mo_nk; omega
  have hplb : pl = -1 ∨ (0 ≤ pl ∧ pl < g 7) := by
    rw [hpl]
    rcases mo_ff_cases (fun k => decide (mo_fld g k 0 = o)) (mo_nk g) with ⟨pf1, pf2⟩ | ⟨pk, pf1, pf2, pf3, pf4⟩
    · exact Or.inl pf1
    · exact Or.inr (by omega)
  refine mo_al0 (pc := 0) X dX4_tell_0 ?_
  refine mo_f_X4_12 (pc := 1) X dX4_tell_1 (mo_Ms_o hx) (mo_Ms_p0 hx) ?_
  refine mo_il1 (pc := 4) X dX4_tell_4 ?_
  refine mo_cVI (pc := 5) (As := [_]) X mo_k_X4_173 mo_y_yX2_placeOf rfl dX4_tell_5 (ct2_placeOf (mo_Ms_r0 hx) hS hI (by omega) ho) (mo_St_o (mo_Ms_r0 hx)) rfl (by decide) (by decide) (Nat.le_of_ble_eq_true rfl) ?_
  rintro r_5 _ ⟨h_5, rfl⟩
  rw [← hpl] at h_5
  have h_5 := h_5.symm
  subst h_5
  refine mo_is3 (pc := 8) X dX4_tell_8 rfl (by decide) ?_
  refine mo_il3 (pc := 9) X dX4_tell_9 ?_
  refine mo_iconst (pc := 10) X dX4_tell_10 ?_
  refine mo_ic_ne (pc := 11) (tgt := 24) X dX4_tell_11 (by decide) ?_ ?_ (fun c_11 => ?_) (fun c_11 => ?_)
  · omega
  · omega
  · skip
    obtain ⟨pk, rfl⟩ := Int.eq_ofNat_of_zero_le (show 0 ≤ pl by omega)
    refine mo_al0 (pc := 24) X dX4_tell_24 ?_
    refine mo_f_X4_12 (pc := 25) X dX4_tell_25 (mo_Ms_o hx) (mo_Ms_p0 hx) ?_
    refine mo_il3 (pc := 28) X dX4_tell_28 ?_
    refine mo_cVI (pc := 29) (As := [_]) X mo_k_X4_187 mo_y_yX2_isOpen rfl dX4_tell_29 (ct2_isOpen (k := pk) (mo_Ms_r0 hx) hS hI (by omega) (by omega)) (mo_St_o (mo_Ms_r0 hx)) rfl (by decide) (by decide) (Nat.le_of_ble_eq_true rfl) ?_
    rintro r_29 _ ⟨h_29, rfl⟩
    refine mo_if_ne (pc := 32) (tgt := 45) X dX4_tell_32 (by decide) ?_ (fun c_32 => ?_) (fun c_32 => ?_)
    · omega
    · skip
      refine mo_al0 (pc := 45) X dX4_tell_45 ?_
      refine mo_callVr (pc := 46) (As := []) X mo_k_X4_63 mo_y_yX4_save rfl dX4_tell_46 (ct4_save (n := sv) (s := s) hx hg hsv h5 hS hI) (mo_Ms_o hx) rfl (by decide) (by decide) (Nat.le_of_ble_eq_true rfl) (mo_rm0 κ) ?_
      rintro v1 G1 M1 t1 ⟨rfl, rfl, hq⟩
      show mo_V κ 0 0 _ _ _ _ _ _
      obtain ⟨⟨s9, hC1⟩, hG1, hF1⟩ := mo_CI_sv hC hq hsv
      have hx := hC1.1
      have hS1 := hC1.2.2.1
      refine mo_al0 (pc := 49) X dX4_tell_49 ?_
      refine mo_f_X4_12 (pc := 50) X dX4_tell_50 (mo_Ms_o hx) (mo_Ms_p0 hx) ?_
      refine mo_il3 (pc := 53) X dX4_tell_53 ?_
      refine mo_il2 (pc := 54) X dX4_tell_54 ?_
      refine mo_if_eq (pc := 55) (tgt := 62) X dX4_tell_55 (by decide) ?_ (fun c_55 => ?_) (fun c_55 => ?_)
      · omega
      · skip
        refine mo_iconst (pc := 62) X dX4_tell_62 ?_
        refine mo_cVV (pc := 63) (As := [_, _]) X mo_k_X4_192 mo_y_yX2_settle rfl dX4_tell_63 (ct2_settle2 (k := pk) (mo_Ms_r0 hx) hS1 hI (by omega) (by omega)) (mo_St_o (mo_Ms_r0 hx)) rfl (by decide) (by decide) (Nat.le_of_ble_eq_true rfl) ?_
        rintro M_63 ⟨s_63, f_63⟩
        obtain ⟨g2, hg2⟩ : ∃ g2, g2 = mo_ms g pk := ⟨_, rfl⟩
        rw [← hg2] at s_63
        have hf1 : mo_fld g2 pk 1 = mo_fld g pk 1 := by
          rw [hg2]
          rw [mo_ms_f (hIt pk (by omega)) hI4.2, if_neg (by omega)]
        have hf0 : g2 0 = g 0 := by
          rw [hg2]
          exact mo_ms_lo ⟨by omega, by omega, by omega⟩
        have hf7 : g2 7 = g 7 := by
          rw [hg2]
          exact mo_ms_lo ⟨by omega, by omega, by omega⟩
        have hI2 : mo_Iv g2 (B + 1) := by
          rw [hg2]
          exact mo_Iv_ms hI (by omega)
        have hgi : (if v = 0 then mo_ms g pk else mo_hd g pk) = g2 := by
          rw [if_pos c_55]
          exact hg2.symm
        have hmb := hIt pk (by omega)
        unfold mo_Mt at hmb
        have hw4 : M_63 (x + 1) 4 = g 0 := by
          obtain ⟨-, -, -, -, t4, -⟩ := id s_63
          rw [t4, hf0]
        refine mo_al0 (pc := 66) X dX4_tell_66 ?_
        refine mo_f_X4_12 (pc := 67) X dX4_tell_67 (mo_Ms_o hx) (mo_Ms_p0 hx) ?_
        refine mo_al0 (pc := 70) X dX4_tell_70 ?_
        refine mo_f_X4_12 (pc := 71) X dX4_tell_71 (mo_Ms_o hx) (mo_Ms_p0 hx) ?_
        refine mo_il3 (pc := 74) X dX4_tell_74 ?_
        refine mo_iconst (pc := 75) X dX4_tell_75 ?_
        refine mo_cVI (pc := 76) (As := [_, _]) X mo_k_X4_178 mo_y_yX2_fact rfl dX4_tell_76 (ct2_fld (g := g2) (k := pk) (j := 0) (q := 1) (mo_Ms_r0 hx) s_63 (by omega) (by omega) (by omega) rfl) (mo_St_o (mo_Ms_r0 hx)) rfl (by decide) (by decide) (Nat.le_of_ble_eq_true rfl) ?_
        rintro r_76 _ ⟨u_76, rfl⟩
        obtain rfl : r_76 = ((mo_fld g pk 1).toNat : Nat) := by omega
        refine mo_al0 (pc := 79) X dX4_tell_79 ?_
        refine mo_f_X4_12 (pc := 80) X dX4_tell_80 (mo_Ms_o hx) (mo_Ms_p0 hx) ?_
        refine mo_f_X4_195 (pc := 83) X dX4_tell_83 (mo_St_o (mo_Ms_r0 hx)) ?_
        rw [hw4, show g 0 = (((g 0).toNat : Nat) : Int) by omega]
        refine mo_cVI (pc := 86) (As := [_, _]) X mo_k_X4_198 mo_y_yX2_debt rfl dX4_tell_86 (ct2_debt (o := (mo_fld g pk 1).toNat) (w := (g 0).toNat) (mo_Ms_r0 hx) s_63 hI2 (by omega) (by omega) (by omega)) (mo_St_o (mo_Ms_r0 hx)) rfl (by decide) (by decide) (Nat.le_of_ble_eq_true rfl) ?_
        rintro r_86 _ ⟨u_86, rfl⟩
        refine mo_iret (pc := 89) X Y rfl dX4_tell_89 ⟨hG1, rfl, by omega, by simp only [Int.toNat_natCast]; rcases h_29 with q | q; { exact q.2 }; { exfalso; omega }, ?_, fun a ha => Eq.trans (f_63 a (by omega)) (hF1 a ha), s9, by simp only [Int.toNat_natCast]; rw [hgi]; exact mo_CI_up hC1 s_63 fun a a1 a2 => f_63 a (by omega)⟩
        simp only [Int.toNat_natCast]
        rw [hgi, u_86]
      · skip
        refine mo_iconst (pc := 58) X dX4_tell_58 ?_
        refine mo_goto (pc := 59) (tgt := 63) X dX4_tell_59 (by decide) ?_
        refine mo_cVV (pc := 63) (As := [_, _]) X mo_k_X4_192 mo_y_yX2_settle rfl dX4_tell_63 (ct2_settle1 (k := pk) (mo_Ms_r0 hx) hS1 hI (by omega) (by omega)) (mo_St_o (mo_Ms_r0 hx)) rfl (by decide) (by decide) (Nat.le_of_ble_eq_true rfl) ?_
        rintro M_63 ⟨s_63, f_63⟩
        obtain ⟨g2, hg2⟩ : ∃ g2, g2 = mo_hd g pk := ⟨_, rfl⟩
        rw [← hg2] at s_63
        have hf1 : mo_fld g2 pk 1 = mo_fld g pk 1 := by
          rw [hg2]
          rw [mo_hd_f (hIt pk (by omega)) hI4.2 hI5.2, if_neg (by omega)]
        have hf0 : g2 0 = g 0 := by
          rw [hg2]
          exact mo_hd_lo ⟨by omega, by omega, by omega, by omega⟩
        have hf7 : g2 7 = g 7 := by
          rw [hg2]
          exact mo_hd_lo ⟨by omega, by omega, by omega, by omega⟩
        have hI2 : mo_Iv g2 (B + 1) := by
          rw [hg2]
          exact mo_Iv_hd hI (by omega)
        have hgi : (if v = 0 then mo_ms g pk else mo_hd g pk) = g2 := by
          rw [if_neg c_55]
          exact hg2.symm
        have hmb := hIt pk (by omega)
        unfold mo_Mt at hmb
        have hw4 : M_63 (x + 1) 4 = g 0 := by
          obtain ⟨-, -, -, -, t4, -⟩ := id s_63
          rw [t4, hf0]
        refine mo_al0 (pc := 66) X dX4_tell_66 ?_
        refine mo_f_X4_12 (pc := 67) X dX4_tell_67 (mo_Ms_o hx) (mo_Ms_p0 hx) ?_
        refine mo_al0 (pc := 70) X dX4_tell_70 ?_
        refine mo_f_X4_12 (pc := 71) X dX4_tell_71 (mo_Ms_o hx) (mo_Ms_p0 hx) ?_
        refine mo_il3 (pc := 74) X dX4_tell_74 ?_
        refine mo_iconst (pc := 75) X dX4_tell_75 ?_
        refine mo_cVI (pc := 76) (As := [_, _]) X mo_k_X4_178 mo_y_yX2_fact rfl dX4_tell_76 (ct2_fld (g := g2) (k := pk) (j := 0) (q := 1) (mo_Ms_r0 hx) s_63 (by omega) (by omega) (by omega) rfl) (mo_St_o (mo_Ms_r0 hx)) rfl (by decide) (by decide) (Nat.le_of_ble_eq_true rfl) ?_
        rintro r_76 _ ⟨u_76, rfl⟩
        obtain rfl : r_76 = ((mo_fld g pk 1).toNat : Nat) := by omega
        refine mo_al0 (pc := 79) X dX4_tell_79 ?_
        refine mo_f_X4_12 (pc := 80) X dX4_tell_80 (mo_Ms_o hx) (mo_Ms_p0 hx) ?_
        refine mo_f_X4_195 (pc := 83) X dX4_tell_83 (mo_St_o (mo_Ms_r0 hx)) ?_
        rw [hw4, show g 0 = (((g 0).toNat : Nat) : Int) by omega]
        refine mo_cVI (pc := 86) (As := [_, _]) X mo_k_X4_198 mo_y_yX2_debt rfl dX4_tell_86 (ct2_debt (o := (mo_fld g pk 1).toNat) (w := (g 0).toNat) (mo_Ms_r0 hx) s_63 hI2 (by omega) (by omega) (by omega)) (mo_St_o (mo_Ms_r0 hx)) rfl (by decide) (by decide) (Nat.le_of_ble_eq_true rfl) ?_
        rintro r_86 _ ⟨u_86, rfl⟩
        refine mo_iret (pc := 89) X Y rfl dX4_tell_89 ⟨hG1, rfl, by omega, by simp only [Int.toNat_natCast]; rcases h_29 with q | q; { exact q.2 }; { exfalso; omega }, ?_, fun a ha => Eq.trans (f_63 a (by omega)) (hF1 a ha), s9, by simp only [Int.toNat_natCast]; rw [hgi]; exact mo_CI_up hC1 s_63 fun a a1 a2 => f_63 a (by omega)⟩
        simp only [Int.toNat_natCast]
        rw [hgi, u_86]
    · skip
      rcases h_29 with q | q
      · exfalso; omega
      · exact absurd (by simpa only [Int.toNat_natCast] using hok.2) q.2
  · skip
    exfalso
    omega
set_option maxHeartbeats 4000000 in
set_option maxRecDepth 100000 in
theorem nt4_undo {lf : Launch} {ρf : mo_E} {G : mo_G} {M : mo_M} {t : Nat} {x n sv s : Nat} {g T : Nat → Int} {S : Nat → Nat → Int} {B : Int} (hC : mo_CI G M x g n T sv S s) (hI : mo_Iv g B) (hB : B ≤ 700000000) (hsv : sv ≤ 4) (hIS : ∀ i, i < sv → mo_Iv (S i) B) (hok : 0 < sv) : mo_Ct lf ρf yX4_undo cX4_undo 1 (some .int) 6 0 0 [.ref x] G M t (fun u G' M' t' => G' = G ∧ t' = t ∧ 0 < sv ∧ u = some (mo_iv ((sv : Int) - 1)) ∧ (∀ a, mo_oz x a → M' a = M a) ∧ mo_CI G' M' x (S (sv - 1)) n T (sv - 1) S s) := by
  refine mo_ofW (ls0 := [some (.ref x)]) (by decide) rfl (Nat.le_of_ble_eq_true rfl) ?_
  intro κ X Y
  have X : mo_Cx κ lf ρf cX4_undo 1 RX4 (some .int) 6 := X
  obtain ⟨hx, hg, hS, h5, hSv, ht, hT⟩ := id hC
  refine mo_al0 (pc := 0) X dX4_undo_0 ?_
  refine mo_f_X4_37 (pc := 1) X dX4_undo_1 (mo_Ms_o hx) ?_
  rw [h5]
  refine mo_iconst (pc := 4) X dX4_undo_4 ?_
  refine mo_ic_lt (pc := 5) (tgt := 20) X dX4_undo_5 (by decide) ?_ ?_ (fun c_5 => ?_) (fun c_5 => ?_)
  · omega
  · omega
  · skip
    exfalso
    omega
  · skip
    refine mo_al0 (pc := 8) X dX4_undo_8 ?_
    refine mo_f_X4_37 (pc := 9) X dX4_undo_9 (mo_Ms_o hx) ?_
    rw [h5]
    refine mo_al0 (pc := 12) X dX4_undo_12 ?_
    refine mo_f_X4_19 (pc := 13) X dX4_undo_13 (mo_Ms_o hx) (mo_Ms_p2 hx) ?_
    refine mo_alenQ (pc := 16) X dX4_undo_16 (mo_Ms_r2 hx) ?_
    refine mo_ic_le (pc := 17) (tgt := 31) X dX4_undo_17 (by decide) ?_ ?_ (fun c_17 => ?_) (fun c_17 => ?_)
    · omega
    · omega
    · skip
      have hgi : G.2 (x + 39) ((sv : Int) - 1).toNat = some (x + 40 + 19 * ((sv - 1 + s) % 4)) := by rw [show ((sv : Int) - 1).toNat = sv - 1 by omega]; exact hg (sv - 1) (by omega)
      have hst : mo_St G (x + 40 + 19 * ((sv - 1 + s) % 4)) := mo_Ms_s hx (by omega)
      refine mo_al0 (pc := 31) X dX4_undo_31 ?_
      refine mo_dup (pc := 32) X dX4_undo_32 rfl ?_
      refine mo_f_X4_37 (pc := 33) X dX4_undo_33 (mo_Ms_o hx) ?_
      rw [h5]
      refine mo_iconst (pc := 36) X dX4_undo_36 ?_
      refine mo_isub (pc := 37) X dX4_undo_37 ?_
      refine mo_p_X4_37 (pc := 38) X dX4_undo_38 (mo_Ms_o hx) ?_
      refine mo_al0 (pc := 41) X dX4_undo_41 ?_
      refine mo_f_X4_12 (pc := 42) X dX4_undo_42 (mo_Ms_o hx) (mo_Ms_p0 hx) ?_
      refine mo_al0 (pc := 45) X dX4_undo_45 ?_
      refine mo_f_X4_19 (pc := 46) X dX4_undo_46 (mo_Ms_o hx) (mo_Ms_p2 hx) ?_
      refine mo_al0 (pc := 49) X dX4_undo_49 ?_
      refine mo_f_X4_37 (pc := 50) X dX4_undo_50 (mo_Ms_o hx) ?_
      rw [mo_ur_s, mo_up_s]
      refine mo_aald (pc := 53) X dX4_undo_53 (mo_Ms_r2 hx) (by decide) (by omega) (by omega) hgi ?_
      refine mo_cVV (pc := 54) (As := [_]) X mo_k_X4_269 mo_y_yX2_copyFrom rfl dX4_undo_54 (ct2_copyFrom (mo_Ms_r0 hx) hst (by omega) (mo_SR_fr (hSv (sv - 1) (by omega)) fun a a1 a2 => mo_ur_n (by omega)) (hIS (sv - 1) (by omega))) (mo_St_o (mo_Ms_r0 hx)) rfl (by decide) (by decide) (Nat.le_of_ble_eq_true rfl) ?_
      rintro M_54 ⟨s_54, f_54⟩
      refine mo_al0 (pc := 57) X dX4_undo_57 ?_
      refine mo_f_X4_37 (pc := 58) X dX4_undo_58 (mo_Ms_o hx) ?_
      rw [f_54 _ (by omega), mo_ur_s, mo_up_s]
      refine mo_iret (pc := 61) X Y rfl dX4_undo_61 ⟨rfl, rfl, by omega, rfl, fun a ha => by rw [f_54 a (by omega), mo_ur_n (by omega)], hx, hg, s_54, ?_, fun i hi => mo_SR_fr (hSv i (by omega)) fun a a1 a2 => by rw [f_54 a (by omega), mo_ur_n (by omega)], by rw [f_54 _ (by omega), mo_ur_n (by omega)]; exact ht, fun j hj => by rw [f_54 _ (by omega), mo_ur_n (by omega)]; exact hT j hj⟩
      rw [f_54 _ (by omega), mo_ur_s, mo_up_s]
      omega
    · exfalso
      omega
