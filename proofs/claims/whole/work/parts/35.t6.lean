/-- an order of the text: whether it stands, and the state behind it -/
def mo_dx (g : Nat → Int) (k : Int) (N W : Nat) (H : Int) : Bool × (Nat → Int) :=
  if k = 99 then (if ((N : Int) < g 4) ∧ (g 0 ≤ (W : Int) ∧ (W : Int) ≤ 19) ∧ (0 ≤ H ∧ H ≤ 7) then (true, mo_gCH g N W H) else (false, g))
  else if k = 112 then (if (W : Int) < g 0 then (false, g) else (true, (mo_pl W 61 g).2))
  else if k = 119 then (if g 0 = 19 then (false, g) else (true, mo_eR g))
  else (if mo_ff (fun j => decide (mo_fld g j 0 = (N : Int))) (mo_nk g) ≠ -1 ∧ mo_op g (mo_ff (fun j => decide (mo_fld g j 0 = (N : Int))) (mo_nk g)).toNat = true then (true, if k = 104 then mo_hd g (mo_ff (fun j => decide (mo_fld g j 0 = (N : Int))) (mo_nk g)).toNat else mo_ms g (mo_ff (fun j => decide (mo_fld g j 0 = (N : Int))) (mo_nk g)).toNat) else (false, g))
def mo_dok2 (M M' : mo_M) (m : Nat) : Prop := ∀ a, a ≠ m + 1 → a ≠ m + 4 → a ≠ m + 5 → a ≠ m + 6 → a ≠ m + 7 → M' a = M a
set_option maxHeartbeats 4000000 in
set_option maxRecDepth 100000 in
theorem ct5_changesOrder {lf : Launch} {ρf : mo_E} {G : mo_G} {M : mo_M} {t : Nat} {m : Nat} (hm : mo_Md G m) {B H : Int} {N W : Nat} (hI : mo_Iv (M (m + 1)) B) (hB : B ≤ 1000000000) (hN : M (m + 9) 0 = N) (hW : M (m + 9) 1 = W) (hH : M (m + 9) 2 = H) (hNr : N < 128) (hWr : W < 128) (hHr : mo_In H) : mo_Ct lf ρf yX5_changesOrder cX5_changesOrder 1 (some .boolean) 2 0 0 [.ref m] G M t (mo_pi G t (fun x M' => ((x = 1 ∧ (((N : Int) < M (m + 1) 4) ∧ (M (m + 1) 0 ≤ (W : Int) ∧ (W : Int) ≤ 19) ∧ (0 ≤ H ∧ H ≤ 7))) ∨ (x = 0 ∧ ¬ (((N : Int) < M (m + 1) 4) ∧ (M (m + 1) 0 ≤ (W : Int) ∧ (W : Int) ≤ 19) ∧ (0 ≤ H ∧ H ≤ 7)))) ∧ ((((N : Int) < M (m + 1) 4) ∧ (M (m + 1) 0 ≤ (W : Int) ∧ (W : Int) ≤ 19) ∧ (0 ≤ H ∧ H ≤ 7)) → M' = mo_ur M (m + 1) (mo_gCH (M (m + 1)) N W H)) ∧ (¬ (((N : Int) < M (m + 1) 4) ∧ (M (m + 1) 0 ≤ (W : Int) ∧ (W : Int) ≤ 19) ∧ (0 ≤ H ∧ H ≤ 7)) → M' = M))) := by
  refine mo_ofW (ls0 := [some (.ref m)]) (by decide) rfl (Nat.le_of_ble_eq_true rfl) ?_
  intro κ X Y
  have X : mo_Cx κ lf ρf cX5_changesOrder 1 RX5 (some .boolean) 2 := X
  obtain ⟨hI0, hI1, hI2, hI3, hI4, hI5, hI6, hI7, hIh, hIa, hIe, hIm, hIs, hIl, hIw, hIr, hIt, hIs2, hIs3, hIz⟩ := id hI
  have hn : ((mo_nk (M (m + 1)) : Nat) : Int) = M (m + 1) 7 := by unfold mo_nk; omega
  refine mo_al0 (pc := 0) X dX5_changesOrder_0 ?_
  refine mo_al0 (pc := 1) X dX5_changesOrder_1 ?_
  refine mo_f_X5_34 (pc := 2) X dX5_changesOrder_2 (mo_Md_o hm) (mo_Md_p13 hm) ?_
  refine mo_iconst (pc := 5) X dX5_changesOrder_5 ?_
  refine mo_iald (pc := 6) (j := 0) X dX5_changesOrder_6 (mo_Md_r13 hm) (by omega) ?_ ?_ rfl ?_
  · omega
  · omega
  rw [hN]
  refine mo_cVI (pc := 7) (As := [_]) X mo_k_X5_65 mo_y_yX5_isOrder rfl dX5_changesOrder_7 (ct5_isOrder hm (by omega) (by omega)) (mo_Md_o hm) rfl (by decide) (by decide) (Nat.le_of_ble_eq_true rfl) ?_
  rintro r_7 _ ⟨h_7, rfl⟩
  refine mo_if_eq (pc := 10) (tgt := 32) X dX5_changesOrder_10 (by decide) ?_ (fun c_10 => ?_) (fun c_10 => ?_)
  · omega
  · skip
    refine mo_iconst (pc := 32) X dX5_changesOrder_32 ?_
    refine mo_zret (pc := 33) X Y rfl ?_ dX5_changesOrder_33 ⟨rfl, rfl, _, rfl, ?_⟩
    · omega
    have e : ¬ (((N : Int) < M (m + 1) 4) ∧ (M (m + 1) 0 ≤ (W : Int) ∧ (W : Int) ≤ 19) ∧ (0 ≤ H ∧ H ≤ 7)) := by omega
    exact ⟨Or.inr ⟨rfl, e⟩, fun q => absurd q e, fun _ => rfl⟩
  · skip
    refine mo_al0 (pc := 13) X dX5_changesOrder_13 ?_
    refine mo_al0 (pc := 14) X dX5_changesOrder_14 ?_
    refine mo_f_X5_34 (pc := 15) X dX5_changesOrder_15 (mo_Md_o hm) (mo_Md_p13 hm) ?_
    refine mo_iconst (pc := 18) X dX5_changesOrder_18 ?_
    refine mo_iald (pc := 19) (j := 1) X dX5_changesOrder_19 (mo_Md_r13 hm) (by omega) ?_ ?_ rfl ?_
    · omega
    · omega
    refine mo_al0 (pc := 20) X dX5_changesOrder_20 ?_
    refine mo_f_X5_34 (pc := 21) X dX5_changesOrder_21 (mo_Md_o hm) (mo_Md_p13 hm) ?_
    refine mo_iconst (pc := 24) X dX5_changesOrder_24 ?_
    refine mo_iald (pc := 25) (j := 2) X dX5_changesOrder_25 (mo_Md_r13 hm) (by omega) ?_ ?_ rfl ?_
    · omega
    · omega
    rw [hW, hH]
    refine mo_cVI (pc := 26) (As := [_, _]) X mo_k_X5_68 mo_y_yX5_mayChange rfl dX5_changesOrder_26 (ct5_mayChange hm (by omega) hHr (by omega)) (mo_Md_o hm) rfl (by decide) (by decide) (Nat.le_of_ble_eq_true rfl) ?_
    rintro r_26 _ ⟨h_26, rfl⟩
    refine mo_if_ne (pc := 29) (tgt := 34) X dX5_changesOrder_29 (by decide) ?_ (fun c_29 => ?_) (fun c_29 => ?_)
    · omega
    · skip
      refine mo_al0 (pc := 34) X dX5_changesOrder_34 ?_
      refine mo_al0 (pc := 35) X dX5_changesOrder_35 ?_
      refine mo_f_X5_34 (pc := 36) X dX5_changesOrder_36 (mo_Md_o hm) (mo_Md_p13 hm) ?_
      refine mo_iconst (pc := 39) X dX5_changesOrder_39 ?_
      refine mo_iald (pc := 40) (j := 0) X dX5_changesOrder_40 (mo_Md_r13 hm) (by omega) ?_ ?_ rfl ?_
      · omega
      · omega
      refine mo_al0 (pc := 41) X dX5_changesOrder_41 ?_
      refine mo_f_X5_34 (pc := 42) X dX5_changesOrder_42 (mo_Md_o hm) (mo_Md_p13 hm) ?_
      refine mo_iconst (pc := 45) X dX5_changesOrder_45 ?_
      refine mo_iald (pc := 46) (j := 1) X dX5_changesOrder_46 (mo_Md_r13 hm) (by omega) ?_ ?_ rfl ?_
      · omega
      · omega
      refine mo_al0 (pc := 47) X dX5_changesOrder_47 ?_
      refine mo_f_X5_34 (pc := 48) X dX5_changesOrder_48 (mo_Md_o hm) (mo_Md_p13 hm) ?_
      refine mo_iconst (pc := 51) X dX5_changesOrder_51 ?_
      refine mo_iald (pc := 52) (j := 2) X dX5_changesOrder_52 (mo_Md_r13 hm) (by omega) ?_ ?_ rfl ?_
      · omega
      · omega
      rw [hN, hW, hH]
      refine mo_cVV (pc := 53) (As := [_, _, _]) X mo_k_X5_72 mo_y_yX5_changes rfl dX5_changesOrder_53 (ct5_changes (o := N) (w := W) hm (by omega) (by omega)) (mo_Md_o hm) rfl (by decide) (by decide) (Nat.le_of_ble_eq_true rfl) ?_
      rintro M_53 h_53
      refine mo_iconst (pc := 56) X dX5_changesOrder_56 ?_
      refine mo_zret (pc := 57) X Y rfl ?_ dX5_changesOrder_57 ⟨rfl, rfl, _, rfl, ?_⟩
      · omega
      have e : ((N : Int) < M (m + 1) 4) ∧ (M (m + 1) 0 ≤ (W : Int) ∧ (W : Int) ≤ 19) ∧ (0 ≤ H ∧ H ≤ 7) := by omega
      exact ⟨Or.inl ⟨rfl, e⟩, fun _ => h_53, fun q => absurd e q⟩
    · skip
      refine mo_iconst (pc := 32) X dX5_changesOrder_32 ?_
      refine mo_zret (pc := 33) X Y rfl ?_ dX5_changesOrder_33 ⟨rfl, rfl, _, rfl, ?_⟩
      · omega
      have e : ¬ (((N : Int) < M (m + 1) 4) ∧ (M (m + 1) 0 ≤ (W : Int) ∧ (W : Int) ≤ 19) ∧ (0 ≤ H ∧ H ≤ 7)) := by omega
      exact ⟨Or.inr ⟨rfl, e⟩, fun q => absurd q e, fun _ => rfl⟩
set_option maxHeartbeats 4000000 in
set_option maxRecDepth 100000 in
theorem ct5_does {lf : Launch} {ρf : mo_E} {G : mo_G} {M : mo_M} {t : Nat} {m : Nat} (hm : mo_Md G m) {B H k : Int} {N W : Nat} (hI : mo_Iv (M (m + 1)) B) (hB : B ≤ 800000000) (hk : M m 12 = k) (hk5 : k = 99 ∨ k = 112 ∨ k = 104 ∨ k = 109 ∨ k = 119) (hN : k = 99 ∨ k = 104 ∨ k = 109 → M (m + 9) 0 = N) (hW9 : k = 99 → M (m + 9) 1 = W) (hH : k = 99 → M (m + 9) 2 = H) (hW1 : k = 112 → M (m + 9) 0 = W) (hNr : k = 99 ∨ k = 104 ∨ k = 109 → N < 128) (hWr : k = 99 ∨ k = 112 → W < 20) (hHr : k = 99 → mo_In H) : mo_Ct lf ρf yX5_does cX5_does 3 (some .boolean) 6 0 0 [.ref m] G M t (mo_pi G t (fun x M' => ((x = 1 ∧ (mo_dx (M (m + 1)) k N W H).1 = true) ∨ (x = 0 ∧ ¬ ((mo_dx (M (m + 1)) k N W H).1 = true))) ∧ M' (m + 1) = (mo_dx (M (m + 1)) k N W H).2 ∧ mo_dok2 M M' m)) := by
  refine mo_ofW (ls0 := [some (.ref m), none, none]) (by decide) rfl (Nat.le_of_ble_eq_true rfl) ?_
  intro κ X Y
  have X : mo_Cx κ lf ρf cX5_does 3 RX5 (some .boolean) 6 := X
  obtain ⟨hI0, hI1, hI2, hI3, hI4, hI5, hI6, hI7, hIh, hIa, hIe, hIm, hIs, hIl, hIw, hIr, hIt, hIs2, hIs3, hIz⟩ := id hI
  have hn : ((mo_nk (M (m + 1)) : Nat) : Int) = M (m + 1) 7 := by unfold mo_nk; omega
  have hkr : mo_In k := by omega
  refine mo_iconst (pc := 0) X dX5_does_0 ?_
  refine mo_is1 (pc := 1) X dX5_does_1 rfl (by decide) ?_
  refine mo_al0 (pc := 2) X dX5_does_2 ?_
  refine mo_f_X5_226 (pc := 3) X dX5_does_3 (mo_Md_o hm) ?_
  rw [hk]
  refine mo_bipush (pc := 6) X dX5_does_6 (by decide) ?_
  refine mo_ic_ne (pc := 8) (tgt := 16) X dX5_does_8 (by decide) ?_ ?_ (fun c_8 => ?_) (fun c_8 => ?_)
  · omega
  · omega
  · skip
    refine mo_al0 (pc := 16) X dX5_does_16 ?_
    refine mo_f_X5_226 (pc := 17) X dX5_does_17 (mo_Md_o hm) ?_
    rw [hk]
    refine mo_bipush (pc := 20) X dX5_does_20 (by decide) ?_
    refine mo_ic_ne (pc := 22) (tgt := 55) X dX5_does_22 (by decide) ?_ ?_ (fun c_22 => ?_) (fun c_22 => ?_)
    · omega
    · omega
    · skip
      refine mo_al0 (pc := 55) X dX5_does_55 ?_
      refine mo_f_X5_226 (pc := 56) X dX5_does_56 (mo_Md_o hm) ?_
      rw [hk]
      refine mo_bipush (pc := 59) X dX5_does_59 (by decide) ?_
      refine mo_ic_ne (pc := 61) (tgt := 84) X dX5_does_61 (by decide) ?_ ?_ (fun c_61 => ?_) (fun c_61 => ?_)
      · omega
      · omega
      · skip
        refine mo_al0 (pc := 84) X dX5_does_84 ?_
        refine mo_al0 (pc := 85) X dX5_does_85 ?_
        refine mo_f_X5_34 (pc := 86) X dX5_does_86 (mo_Md_o hm) (mo_Md_p13 hm) ?_
        refine mo_iconst (pc := 89) X dX5_does_89 ?_
        refine mo_iald (pc := 90) (j := 0) X dX5_does_90 (mo_Md_r13 hm) (by omega) ?_ ?_ rfl ?_
        · omega
        · omega
        have hn128 := hNr (by omega)
        rw [hN (by omega)]
        refine mo_cVI (pc := 91) (As := [_]) X mo_k_X5_145 mo_y_yX5_placeOf rfl dX5_does_91 (ct5_placeOf (B := B) hm hI (by omega) (by omega)) (mo_Md_o hm) rfl (by decide) (by decide) (Nat.le_of_ble_eq_true rfl) ?_
        rintro r_91 _ ⟨h_91, rfl⟩
        refine mo_is2 (pc := 94) X dX5_does_94 rfl (by decide) ?_
        have hpc := mo_ff_cases (fun j => decide (mo_fld (M (m + 1)) j 0 = (N : Int))) (mo_nk (M (m + 1)))
        have hpr : r_91 = -1 ∨ (0 ≤ r_91 ∧ r_91 < M (m + 1) 7) := by
          rcases hpc with ⟨pf1, pf2⟩ | ⟨pk, pf1, pf2, pf3, pf4⟩ <;> omega
        refine mo_al0 (pc := 95) X dX5_does_95 ?_
        refine mo_il2 (pc := 96) X dX5_does_96 ?_
        refine mo_cVI (pc := 97) (As := [_]) X mo_k_X5_157 mo_y_yX5_mayTell rfl dX5_does_97 (ct5_mayTell (B := B) hm hI (by omega) hpr) (mo_Md_o hm) rfl (by decide) (by decide) (Nat.le_of_ble_eq_true rfl) ?_
        rintro r_97 _ ⟨h_97, rfl⟩
        rw [h_91] at h_97
        refine mo_if_ne (pc := 100) (tgt := 105) X dX5_does_100 (by decide) ?_ (fun c_100 => ?_) (fun c_100 => ?_)
        · omega
        · skip
          have s3 := (mo_b1 h_97 c_100).1
          obtain ⟨pk, hpk⟩ : ∃ q : Nat, mo_ff (fun j => decide (mo_fld (M (m + 1)) j 0 = (N : Int))) (mo_nk (M (m + 1))) = q := ⟨(mo_ff (fun j => decide (mo_fld (M (m + 1)) j 0 = (N : Int))) (mo_nk (M (m + 1)))).toNat, by omega⟩
          obtain rfl : r_91 = (pk : Int) := h_91.trans hpk
          refine mo_al0 (pc := 105) X dX5_does_105 ?_
          refine mo_il2 (pc := 106) X dX5_does_106 ?_
          refine mo_al0 (pc := 107) X dX5_does_107 ?_
          refine mo_f_X5_226 (pc := 108) X dX5_does_108 (mo_Md_o hm) ?_
          rw [hk]
          refine mo_bipush (pc := 111) X dX5_does_111 (by decide) ?_
          refine mo_ic_ne (pc := 113) (tgt := 120) X dX5_does_113 (by decide) ?_ ?_ (fun c_113 => ?_) (fun c_113 => ?_)
          · exact hkr
          · decide
          · skip
            refine mo_iconst (pc := 120) X dX5_does_120 ?_
            refine mo_cVV (pc := 121) (As := [_, _]) X mo_k_X5_160 mo_y_yX5_tells rfl dX5_does_121 (ct5_tells (B := B) (p := pk) hm hI (by omega) (by omega) (by omega)) (mo_Md_o hm) rfl (by decide) (by decide) (Nat.le_of_ble_eq_true rfl) ?_
            rintro M_121 h_121
            refine mo_iconst (pc := 124) X dX5_does_124 ?_
            refine mo_zret (pc := 125) X Y rfl ?_ dX5_does_125 ⟨rfl, rfl, _, rfl, ?_⟩
            · omega
            have s2 := mo_b1 h_97 c_100
            have e : mo_dx (M (m + 1)) k N W H = (true, if k = 104 then mo_hd (M (m + 1)) (mo_ff (fun j => decide (mo_fld (M (m + 1)) j 0 = (N : Int))) (mo_nk (M (m + 1)))).toNat else mo_ms (M (m + 1)) (mo_ff (fun j => decide (mo_fld (M (m + 1)) j 0 = (N : Int))) (mo_nk (M (m + 1)))).toNat) := by unfold mo_dx; rw [if_neg (by omega), if_neg (by omega), if_neg (by omega), if_pos s2]
            rw [e]
            rw [h_121]
            refine ⟨Or.inl ⟨rfl, rfl⟩, ?_, fun a a1 _ _ _ _ => mo_ur_n a1⟩
            rw [mo_ur_s, hpk, Int.toNat_natCast]
            first
            | rw [if_pos (show k = 104 by omega), if_neg (by decide)]
            | rw [if_neg (show ¬ k = 104 by omega), if_pos rfl]
          · skip
            refine mo_iconst (pc := 116) X dX5_does_116 ?_
            refine mo_goto (pc := 117) (tgt := 121) X dX5_does_117 (by decide) ?_
            refine mo_cVV (pc := 121) (As := [_, _]) X mo_k_X5_160 mo_y_yX5_tells rfl dX5_does_121 (ct5_tells (B := B) (p := pk) hm hI (by omega) (by omega) (by omega)) (mo_Md_o hm) rfl (by decide) (by decide) (Nat.le_of_ble_eq_true rfl) ?_
            rintro M_121 h_121
            refine mo_iconst (pc := 124) X dX5_does_124 ?_
            refine mo_zret (pc := 125) X Y rfl ?_ dX5_does_125 ⟨rfl, rfl, _, rfl, ?_⟩
            · omega
            have s2 := mo_b1 h_97 c_100
            have e : mo_dx (M (m + 1)) k N W H = (true, if k = 104 then mo_hd (M (m + 1)) (mo_ff (fun j => decide (mo_fld (M (m + 1)) j 0 = (N : Int))) (mo_nk (M (m + 1)))).toNat else mo_ms (M (m + 1)) (mo_ff (fun j => decide (mo_fld (M (m + 1)) j 0 = (N : Int))) (mo_nk (M (m + 1)))).toNat) := by unfold mo_dx; rw [if_neg (by omega), if_neg (by omega), if_neg (by omega), if_pos s2]
            rw [e]
            rw [h_121]
            refine ⟨Or.inl ⟨rfl, rfl⟩, ?_, fun a a1 _ _ _ _ => mo_ur_n a1⟩
            rw [mo_ur_s, hpk, Int.toNat_natCast]
            first
            | rw [if_pos (show k = 104 by omega), if_neg (by decide)]
            | rw [if_neg (show ¬ k = 104 by omega), if_pos rfl]
        · skip
          refine mo_iconst (pc := 103) X dX5_does_103 ?_
          refine mo_zret (pc := 104) X Y rfl ?_ dX5_does_104 ⟨rfl, rfl, _, rfl, ?_⟩
          · omega
          have e : mo_dx (M (m + 1)) k N W H = (false, M (m + 1)) := by unfold mo_dx; rw [if_neg (by omega), if_neg (by omega), if_neg (by omega), if_neg (mo_b0 h_97 c_100)]
          rw [e]
          exact ⟨Or.inr ⟨rfl, fun q => Bool.noConfusion q⟩, rfl, fun a _ _ _ _ _ => rfl⟩
      · skip
        refine mo_al0 (pc := 64) X dX5_does_64 ?_
        refine mo_f_X5_7 (pc := 65) X dX5_does_65 (mo_Md_o hm) (mo_Md_p0 hm) ?_
        refine mo_iconst (pc := 68) X dX5_does_68 ?_
        refine mo_iald (pc := 69) (j := 0) X dX5_does_69 (mo_Md_r0 hm) (by omega) ?_ ?_ rfl ?_
        · omega
        · omega
        refine mo_bipush (pc := 70) X dX5_does_70 (by decide) ?_
        refine mo_ic_ne (pc := 72) (tgt := 77) X dX5_does_72 (by decide) ?_ ?_ (fun c_72 => ?_) (fun c_72 => ?_)
        · omega
        · omega
        · skip
          refine mo_al0 (pc := 77) X dX5_does_77 ?_
          refine mo_cVI (pc := 78) (As := []) X mo_k_X5_164 mo_y_yX5_ends rfl dX5_does_78 (ct5_ends (B := B) hm hI (by omega) (by omega)) (mo_Md_o hm) rfl (by decide) (by decide) (Nat.le_of_ble_eq_true rfl) ?_
          rintro r_78 M_78 ⟨h_78, y_78⟩
          refine mo_is1 (pc := 81) X dX5_does_81 rfl (by decide) ?_
          refine mo_iconst (pc := 82) X dX5_does_82 ?_
          refine mo_zret (pc := 83) X Y rfl ?_ dX5_does_83 ⟨rfl, rfl, _, rfl, ?_⟩
          · omega
          have e : mo_dx (M (m + 1)) k N W H = (true, mo_eR (M (m + 1))) := by unfold mo_dx; rw [if_neg (by omega), if_neg (by omega), if_pos (by omega), if_neg (by omega)]
          rw [e]
          rw [y_78]
          exact ⟨Or.inl ⟨rfl, rfl⟩, mo_ur_s _ _ _, fun a a1 _ _ _ _ => mo_ur_n a1⟩
        · skip
          refine mo_iconst (pc := 75) X dX5_does_75 ?_
          refine mo_zret (pc := 76) X Y rfl ?_ dX5_does_76 ⟨rfl, rfl, _, rfl, ?_⟩
          · omega
          have e : mo_dx (M (m + 1)) k N W H = (false, M (m + 1)) := by unfold mo_dx; rw [if_neg (by omega), if_neg (by omega), if_pos (by omega), if_pos (by omega)]
          rw [e]
          exact ⟨Or.inr ⟨rfl, fun q => Bool.noConfusion q⟩, rfl, fun a _ _ _ _ _ => rfl⟩
    · skip
      refine mo_al0 (pc := 25) X dX5_does_25 ?_
      refine mo_f_X5_34 (pc := 26) X dX5_does_26 (mo_Md_o hm) (mo_Md_p13 hm) ?_
      refine mo_iconst (pc := 29) X dX5_does_29 ?_
      refine mo_iald (pc := 30) (j := 0) X dX5_does_30 (mo_Md_r13 hm) (by omega) ?_ ?_ rfl ?_
      · omega
      · omega
      have hw20 := hWr (by omega)
      rw [hW1 (by omega)]
      refine mo_al0 (pc := 31) X dX5_does_31 ?_
      refine mo_f_X5_7 (pc := 32) X dX5_does_32 (mo_Md_o hm) (mo_Md_p0 hm) ?_
      refine mo_iconst (pc := 35) X dX5_does_35 ?_
      refine mo_iald (pc := 36) (j := 0) X dX5_does_36 (mo_Md_r0 hm) (by omega) ?_ ?_ rfl ?_
      · omega
      · omega
      refine mo_ic_ge (pc := 37) (tgt := 42) X dX5_does_37 (by decide) ?_ ?_ (fun c_37 => ?_) (fun c_37 => ?_)
      · omega
      · omega
      · skip
        refine mo_al0 (pc := 42) X dX5_does_42 ?_
        refine mo_al0 (pc := 43) X dX5_does_43 ?_
        refine mo_f_X5_34 (pc := 44) X dX5_does_44 (mo_Md_o hm) (mo_Md_p13 hm) ?_
        refine mo_iconst (pc := 47) X dX5_does_47 ?_
        refine mo_iald (pc := 48) (j := 0) X dX5_does_48 (mo_Md_r13 hm) (by omega) ?_ ?_ rfl ?_
        · omega
        · omega
        rw [hW1 (by omega)]
        refine mo_cVI (pc := 49) (As := [_]) X mo_k_X5_142 mo_y_yX5_plans rfl dX5_does_49 (ct5_plans (B := B) (w := W) hm hI (by omega) (hWr (by omega))) (mo_Md_o hm) rfl (by decide) (by decide) (Nat.le_of_ble_eq_true rfl) ?_
        rintro r_49 M_49 ⟨f4, f5, f6, f7, h_49, hM_49⟩
        refine mo_is1 (pc := 52) X dX5_does_52 rfl (by decide) ?_
        refine mo_iconst (pc := 53) X dX5_does_53 ?_
        refine mo_zret (pc := 54) X Y rfl ?_ dX5_does_54 ⟨rfl, rfl, _, rfl, ?_⟩
        · omega
        have e : mo_dx (M (m + 1)) k N W H = (true, (mo_pl W 61 (M (m + 1))).2) := by unfold mo_dx; rw [if_neg (by omega), if_pos (by omega), if_neg (by omega)]
        rw [e]
        rw [hM_49]
        exact ⟨Or.inl ⟨rfl, rfl⟩, mo_ur_s _ _ _, fun a a1 a4 a5 a6 a7 => by rw [mo_ur_n a1, mo_sc_r _ _ _ _ _ ⟨a4, a5, a6, a7⟩]⟩
      · skip
        refine mo_iconst (pc := 40) X dX5_does_40 ?_
        refine mo_zret (pc := 41) X Y rfl ?_ dX5_does_41 ⟨rfl, rfl, _, rfl, ?_⟩
        · omega
        have e : mo_dx (M (m + 1)) k N W H = (false, M (m + 1)) := by unfold mo_dx; rw [if_neg (by omega), if_pos (by omega), if_pos (by omega)]
        rw [e]
        exact ⟨Or.inr ⟨rfl, fun q => Bool.noConfusion q⟩, rfl, fun a _ _ _ _ _ => rfl⟩
  · skip
    refine mo_al0 (pc := 11) X dX5_does_11 ?_
    refine mo_cVI (pc := 12) (As := []) X mo_k_X5_242 mo_y_yX5_changesOrder rfl dX5_does_12 (ct5_changesOrder hm hI (by omega) (hN (by omega)) (hW9 (by omega)) (hH (by omega)) (hNr (by omega)) (by have := hWr (by omega); omega) (hHr (by omega))) (mo_Md_o hm) rfl (by decide) (by decide) (Nat.le_of_ble_eq_true rfl) ?_
    rintro r_12 M_12 ⟨h_12, y_12, n_12⟩
    refine mo_zret (pc := 15) X Y rfl ?_ dX5_does_15 ⟨rfl, rfl, _, rfl, ?_⟩
    · omega
    rcases h_12 with ⟨s1, s2⟩ | ⟨s1, s2⟩
    · subst s1
      have e : mo_dx (M (m + 1)) k N W H = (true, mo_gCH (M (m + 1)) N W H) := by unfold mo_dx; rw [if_pos (by omega), if_pos s2]
      rw [e, y_12 s2]
      exact ⟨Or.inl ⟨rfl, rfl⟩, by rw [mo_ur_s], fun a a1 _ _ _ _ => mo_ur_n a1⟩
    · subst s1
      have e : mo_dx (M (m + 1)) k N W H = (false, M (m + 1)) := by unfold mo_dx; rw [if_pos (by omega), if_neg s2]
      rw [e, n_12 s2]
      exact ⟨Or.inr ⟨rfl, fun q => Bool.noConfusion q⟩, rfl, fun a _ _ _ _ _ => rfl⟩
