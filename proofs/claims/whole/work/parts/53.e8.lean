set_option maxHeartbeats 4000000 in
set_option maxRecDepth 100000 in
theorem ct4_meeting {lf : Launch} {ρf : mo_E} {G : mo_G} {M : mo_M} {t : Nat} (hlf : lf.stackTraces = false) {g : Nat → Int} {B : Int} {x : Nat} (hx : mo_Ms G x) (hS : mo_SR M (x + 1) g) (hI : mo_Iv g B) (hB : B ≤ 800000000) {o w pl : Int} (ho : mo_In o) (hw : mo_In w) (hpl : pl = mo_ff (fun k => decide (mo_fld g k 0 = o)) (mo_nk g)) : mo_Cv lf ρf yX4_meeting cX4_meeting 4 (some .int) 6 1 6 [.ref x, mo_iv o, mo_iv w] G M t (fun u G' M' t' => G' = G ∧ t' = t ∧ M' = M ∧ (pl ≠ -1) ∧ (0 ≤ w ∧ w ≤ 5) ∧ u = some (mo_iv (mo_fld g pl.toNat (w.toNat + 1)))) (fun E G' M' t' => G' = G ∧ M' = M ∧ t ≤ t' ∧ ((E = mo_IOE ∧ ¬ (pl ≠ -1)) ∨ (E = mo_IAE ∧ (pl ≠ -1) ∧ ¬ (0 ≤ w ∧ w ≤ 5)))) := by
  refine mo_ofWX (ls0 := [some (.ref x), some (mo_iv o), some (mo_iv w), none]) (by decide) rfl (Nat.le_of_ble_eq_true rfl) ?_
  intro κ X Y
  have X : mo_Cx κ lf ρf cX4_meeting 4 RX4 (some .int) 6 := X
  obtain ⟨hI0, hI1, hI2, hI3, hI4, hI5, hI6, hI7, hIh, hIa, hIe, hIm, hIs, hIl, hIw, hIr, hIt, hIs2, hIs3, hIz⟩ := id hI
  obtain ⟨s0, s1, s2, s3, s4, s5, sH, sA, sE, sM, sS, sL, sW, sRo, sF⟩ := id hS
  have hnk : ((mo_nk g : Nat) : Int) = g 7 := by unfold mo_nk; omega
  have hplb : pl = -1 ∨ (0 ≤ pl ∧ pl < g 7) := by
    rw [hpl]
    rcases mo_ff_cases (fun k => decide (mo_fld g k 0 = o)) (mo_nk g) with ⟨pf1, pf2⟩ | ⟨pk, pf1, pf2, pf3, pf4⟩
    · exact Or.inl pf1
    · exact Or.inr (by omega)
  refine mo_al0 (pc := 0) X dX4_meeting_0 ?_
  refine mo_f_X4_12 (pc := 1) X dX4_meeting_1 (mo_Ms_o hx) (mo_Ms_p0 hx) ?_
  refine mo_il1 (pc := 4) X dX4_meeting_4 ?_
  refine mo_cVI (pc := 5) (As := [_]) X mo_k_X4_173 mo_y_yX2_placeOf rfl dX4_meeting_5 (ct2_placeOf (mo_Ms_r0 hx) hS hI (by omega) ho) (mo_St_o (mo_Ms_r0 hx)) rfl (by decide) (by decide) (Nat.le_of_ble_eq_true rfl) ?_
  rintro r_5 _ ⟨h_5, rfl⟩
  rw [← hpl] at h_5
  have h_5 := h_5.symm
  subst h_5
  refine mo_is3 (pc := 8) X dX4_meeting_8 rfl (by decide) ?_
  refine mo_il3 (pc := 9) X dX4_meeting_9 ?_
  refine mo_iconst (pc := 10) X dX4_meeting_10 ?_
  refine mo_ic_ne (pc := 11) (tgt := 24) X dX4_meeting_11 (by decide) ?_ ?_ (fun c_11 => ?_) (fun c_11 => ?_)
  · omega
  · omega
  · skip
    refine mo_il2 (pc := 24) X dX4_meeting_24 ?_
    refine mo_if_lt (pc := 25) (tgt := 33) X dX4_meeting_25 (by decide) ?_ (fun c_25 => ?_) (fun c_25 => ?_)
    · omega
    · skip
      refine mo_thrS (pc := 33) (names := mo_nm) (text := "what is out of range") X Y hlf (by decide +kernel) mo_fitN mo_wq_X4_48 mo_wz_IllegalArgumentException (by decide) mo_hatA mo_vtA dX4_meeting_33 dX4_meeting_36 dX4_meeting_37 dX4_meeting_39 dX4_meeting_42 (by decide) (Nat.le_of_ble_eq_true rfl) (by decide) (by decide) (fun t9 h9 => ?_)
      exact ⟨rfl, rfl, h9, Or.inr ⟨rfl, by omega, by omega⟩⟩
    · skip
      refine mo_il2 (pc := 28) X dX4_meeting_28 ?_
      refine mo_iconst (pc := 29) X dX4_meeting_29 ?_
      refine mo_ic_le (pc := 30) (tgt := 43) X dX4_meeting_30 (by decide) ?_ ?_ (fun c_30 => ?_) (fun c_30 => ?_)
      · omega
      · omega
      · skip
        refine mo_al0 (pc := 43) X dX4_meeting_43 ?_
        refine mo_f_X4_12 (pc := 44) X dX4_meeting_44 (mo_Ms_o hx) (mo_Ms_p0 hx) ?_
        refine mo_il3 (pc := 47) X dX4_meeting_47 ?_
        refine mo_il2 (pc := 48) X dX4_meeting_48 ?_
        refine mo_toN X Y (fun κ X Y => ?_)
        obtain ⟨pk, rfl⟩ := Int.eq_ofNat_of_zero_le (show 0 ≤ pl by omega)
        obtain ⟨wn, rfl⟩ := Int.eq_ofNat_of_zero_le (show 0 ≤ w by omega)
        refine mo_cVI (pc := 49) (As := [_, _]) X mo_k_X4_178 mo_y_yX2_fact rfl dX4_meeting_49 (ct2_fld (g := g) (k := pk) (j := wn) (q := wn + 1) (mo_Ms_r0 hx) hS (by omega) (by omega) (by omega) (by omega)) (mo_St_o (mo_Ms_r0 hx)) rfl (by decide) (by decide) (Nat.le_of_ble_eq_true rfl) ?_
        rintro r_49 _ ⟨h_49, rfl⟩
        refine mo_wd (k2 := 1) (n2 := 6) (Nat.zero_le _) (Nat.zero_le _) ?_
        refine mo_iret (pc := 52) X Y rfl dX4_meeting_52 ⟨rfl, rfl, rfl, by omega, by omega, ?_⟩
        simp only [Int.toNat_natCast]
        rw [h_49]
      · skip
        refine mo_thrS (pc := 33) (names := mo_nm) (text := "what is out of range") X Y hlf (by decide +kernel) mo_fitN mo_wq_X4_48 mo_wz_IllegalArgumentException (by decide) mo_hatA mo_vtA dX4_meeting_33 dX4_meeting_36 dX4_meeting_37 dX4_meeting_39 dX4_meeting_42 (by decide) (Nat.le_of_ble_eq_true rfl) (by decide) (by decide) (fun t9 h9 => ?_)
        exact ⟨rfl, rfl, h9, Or.inr ⟨rfl, by omega, by omega⟩⟩
  · skip
    refine mo_thrS (pc := 14) (names := mo_nm) (text := "no such meeting is kept") X Y hlf (by decide +kernel) mo_fitN mo_wq_X4_73 mo_wz_IndexOutOfBoundsException (by decide) mo_hatI mo_vtI dX4_meeting_14 dX4_meeting_17 dX4_meeting_18 dX4_meeting_20 dX4_meeting_23 (by decide) (Nat.le_of_ble_eq_true rfl) (by decide) (by decide) (fun t9 h9 => ?_)
    exact ⟨rfl, rfl, h9, Or.inl ⟨rfl, by omega⟩⟩
