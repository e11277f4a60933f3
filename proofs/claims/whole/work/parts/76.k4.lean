theorem mo_and31 (x : Int) : 0 ≤ mo_and x 31 ∧ mo_and x 31 ≤ 31 := by
  unfold mo_and
  have h1 : (Int32.ofInt x &&& Int32.ofInt 31).toBitVec.toNat ≤ 31 := by
    rw [Int32.toBitVec_and, BitVec.toNat_and]
    exact Nat.and_le_right
  have h2 : (Int32.ofInt x &&& Int32.ofInt 31).toInt = ((Int32.ofInt x &&& Int32.ofInt 31).toBitVec.toNat : Int) := by
    show (Int32.ofInt x &&& Int32.ofInt 31).toBitVec.toInt = _
    rw [BitVec.toInt_eq_toNat_of_lt (by omega)]
  omega
set_option maxHeartbeats 4000000 in
set_option maxRecDepth 100000 in
theorem lc_loop {κ : mo_T} {lf : Launch} {ρf : mo_E} {ret : Option FieldType} (hlf : lf.stackTraces = false) {b Ls x m ou K N : Nat} {xs : Nat → Int32} {hh : List (Nat × Nat × Nat × Nat)} (X0 : mo_Cx κ lf ρf cL_law 9 RL ret 11) (Z0 : mo_Hx κ hh) (hX0 : mo_Xs κ b Ls xs) (hLs : Ls ≤ 3072) (hR : ∀ c, c ≤ 512 → mo_Rm κ (K + c + 1) (N + 6 * c + 6)) (fin : ∀ dd : Drawn, (mo_st κ).drawn.sameBut dd lw_cs → ∀ (k n : Nat) (ls : List (Option Value)) (G : mo_G) (M : mo_M) (t : Nat), k ≤ K + 513 → n ≤ N + 3078 → mo_V (mo_dr κ dd) k n 1897 ls [mo_iv 1] G M t) : ∀ (z c : Nat) (dd : Drawn) (G : mo_G) (M : mo_M) (t n sv s : Nat), (mo_st κ).drawn.sameBut dd lw_cs → 6 * c ≤ Ls → Ls < 6 * c + 6 * z + 6 → mo_LI G M x m ou n sv s (4000 * (c : Int)) → mo_V (mo_dr κ dd) (K + c) (N + 6 * c) 23 [some (.ref b), some (.ref x), some (.ref m), some (.ref ou), some (mo_iv ((6 * c : Nat) : Int)), none, none, none, none] [] G M t := by
  intro z
  induction z with
  | zero =>
    intro c dd G M t n sv s hd0 hc1 hc2 L
    have X := mo_Cx_dr X0 dd
    have hXs := mo_Xs_dr hX0 dd
    refine mo_il4 (pc := 23) X dL_law_23 ?_
    refine mo_al0 (pc := 25) X dL_law_25 ?_
    refine mo_slen (pc := 26) X hXs hLs dL_law_26 ?_
    refine mo_bipush (pc := 27) X dL_law_27 (by decide) ?_
    refine mo_isub (pc := 29) X dL_law_29 ?_
    refine mo_ic_gt (pc := 30) (tgt := 1896) X dL_law_30 (by decide) (by omega) (by omega) (fun c_30 => ?_) (fun c_30 => by exfalso; omega)
    refine mo_iconst (pc := 1896) X dL_law_1896 ?_
    exact fin dd hd0 _ _ _ _ _ _ (by omega) (by omega)
  | succ z ih =>
    intro c dd G M t n sv s hd0 hc1 hc2 L
    have X := mo_Cx_dr X0 dd
    have hXs := mo_Xs_dr hX0 dd
    refine mo_il4 (pc := 23) X dL_law_23 ?_
    refine mo_al0 (pc := 25) X dL_law_25 ?_
    refine mo_slen (pc := 26) X hXs hLs dL_law_26 ?_
    refine mo_bipush (pc := 27) X dL_law_27 (by decide) ?_
    refine mo_isub (pc := 29) X dL_law_29 ?_
    refine mo_ic_gt (pc := 30) (tgt := 1896) X dL_law_30 (by decide) (by omega) (by omega) (fun c_30 => ?_) (fun c_30 => ?_)
    · refine mo_iconst (pc := 1896) X dL_law_1896 ?_
      exact fin dd hd0 _ _ _ _ _ _ (by omega) (by omega)
    have hi : 6 * c + 6 ≤ Ls := by omega
    have hrm := hR c (by omega)
    have next : mo_Nxt κ b x m ou (6 * c) (4000 * (c : Int)) (K + c) (N + 6 * c) := by
      intro dd2 hd2 G2 M2 t2 n2 sv2 s2 LI2
      have X2 := mo_Cx_dr X0 dd2
      refine mo_ii4 (pc := 1890) X2 dL_law_1890 rfl (by decide) ?_
      refine mo_goto (pc := 1893) (tgt := 23) X2 dL_law_1893 (by decide) ?_
      have h9 := ih (c + 1) dd2 G2 M2 t2 n2 sv2 s2 hd2 (by omega) (by omega) (by rw [show (4000 * ((c + 1 : Nat) : Int)) = 4000 * (c : Int) + 4000 by omega]; exact LI2)
      rw [show (((6 * c : Nat) : Int) + 6) = ((6 * (c + 1) : Nat) : Int) by omega]
      rw [show K + (c + 1) = K + c + 1 by omega, show N + 6 * (c + 1) = N + 6 * c + 6 by omega] at h9
      exact h9
    refine mo_al0 (pc := 33) X dL_law_33 ?_
    refine mo_il4 (pc := 34) X dL_law_34 ?_
    refine mo_sld (pc := 36) (j := 6 * c) X hXs hLs (by omega) (by omega) (by omega) dL_law_36 ?_
    refine mo_bipush (pc := 37) X dL_law_37 (by decide) ?_
    refine mo_iand (pc := 39) X dL_law_39 ?_
    have hvr := mo_and31 (xs (6 * c)).toInt
    generalize mo_and (xs (6 * c)).toInt 31 = v at hvr ⊢
    rcases (show v = 0 ∨ v = 1 ∨ v = 2 ∨ v = 3 ∨ v = 4 ∨ v = 5 ∨ v = 6 ∨ v = 7 ∨ v = 8 ∨ v = 9 ∨ v = 10 ∨ v = 11 ∨ v = 12 ∨ v = 13 ∨ v = 14 ∨ v = 15 ∨ v = 16 ∨ v = 17 ∨ v = 18 ∨ v = 19 ∨ v = 20 ∨ v = 21 ∨ v = 22 ∨ v = 23 ∨ v = 24 ∨ v = 25 ∨ v = 26 ∨ v = 27 ∨ v = 28 ∨ 29 ≤ v by omega) with rfl | rfl | rfl | rfl | rfl | rfl | rfl | rfl | rfl | rfl | rfl | rfl | rfl | rfl | rfl | rfl | rfl | rfl | rfl | rfl | rfl | rfl | rfl | rfl | rfl | rfl | rfl | rfl | rfl | hv29
    · refine mo_swIn (pc := 40) (tgt := 172) (off := 132) X dL_law_40 (by decide) (by decide) (by decide) rfl (by decide) ?_
      exact lc_addOrder hlf X0 Z0 hX0 hLs hi hrm L (by omega) hd0 next
    · refine mo_swIn (pc := 40) (tgt := 240) (off := 200) X dL_law_40 (by decide) (by decide) (by decide) rfl (by decide) ?_
      exact lc_change hlf X0 Z0 hX0 hLs hi hrm L (by omega) hd0 next
    · refine mo_swIn (pc := 40) (tgt := 320) (off := 280) X dL_law_40 (by decide) (by decide) (by decide) rfl (by decide) ?_
      exact lc_allow hlf X0 Z0 hX0 hLs hi hrm L (by omega) hd0 next
    · refine mo_swIn (pc := 40) (tgt := 388) (off := 348) X dL_law_40 (by decide) (by decide) (by decide) rfl (by decide) ?_
      exact lc_addEscort hlf X0 Z0 hX0 hLs hi hrm L (by omega) hd0 next
    · refine mo_swIn (pc := 40) (tgt := 456) (off := 416) X dL_law_40 (by decide) (by decide) (by decide) rfl (by decide) ?_
      exact lc_setSlots hlf X0 Z0 hX0 hLs hi hrm L (by omega) hd0 next
    · refine mo_swIn (pc := 40) (tgt := 524) (off := 484) X dL_law_40 (by decide) (by decide) (by decide) rfl (by decide) ?_
      exact lc_addVenue hlf X0 Z0 hX0 hLs hi hrm L (by omega) hd0 next
    · refine mo_swIn (pc := 40) (tgt := 580) (off := 540) X dL_law_40 (by decide) (by decide) (by decide) rfl (by decide) ?_
      exact lc_plan hlf X0 Z0 hX0 hLs hi hrm L (by omega) hd0 next
    · refine mo_swIn (pc := 40) (tgt := 684) (off := 644) X dL_law_40 (by decide) (by decide) (by decide) rfl (by decide) ?_
      exact lc_planWeek hlf X0 Z0 hX0 hLs hi hrm L (by omega) hd0 next
    · refine mo_swIn (pc := 40) (tgt := 740) (off := 700) X dL_law_40 (by decide) (by decide) (by decide) rfl (by decide) ?_
      exact lc_cancel hlf X0 Z0 hX0 hLs hi hrm L (by omega) hd0 next
    · refine mo_swIn (pc := 40) (tgt := 796) (off := 756) X dL_law_40 (by decide) (by decide) (by decide) rfl (by decide) ?_
      exact lc_tell hlf X0 Z0 hX0 hLs hi hrm L (by omega) hd0 next
    · refine mo_swIn (pc := 40) (tgt := 880) (off := 840) X dL_law_40 (by decide) (by decide) (by decide) rfl (by decide) ?_
      exact lc_endWeek hlf X0 Z0 hX0 hLs hi hrm L (by omega) hd0 next
    · refine mo_swIn (pc := 40) (tgt := 924) (off := 884) X dL_law_40 (by decide) (by decide) (by decide) rfl (by decide) ?_
      exact lc_order hlf X0 Z0 hX0 hLs hi hrm L (by omega) hd0 next
    · refine mo_swIn (pc := 40) (tgt := 992) (off := 952) X dL_law_40 (by decide) (by decide) (by decide) rfl (by decide) ?_
      exact lc_hours hlf X0 Z0 hX0 hLs hi hrm L (by omega) hd0 next
    · refine mo_swIn (pc := 40) (tgt := 1060) (off := 1020) X dL_law_40 (by decide) (by decide) (by decide) rfl (by decide) ?_
      exact lc_owed hlf X0 Z0 hX0 hLs hi hrm L (by omega) hd0 next
    · refine mo_swIn (pc := 40) (tgt := 1128) (off := 1088) X dL_law_40 (by decide) (by decide) (by decide) rfl (by decide) ?_
      exact lc_meeting hlf X0 Z0 hX0 hLs hi hrm L (by omega) hd0 next
    · refine mo_swIn (pc := 40) (tgt := 1196) (off := 1156) X dL_law_40 (by decide) (by decide) (by decide) rfl (by decide) ?_
      exact lc_escort hlf X0 Z0 hX0 hLs hi hrm L (by omega) hd0 next
    · refine mo_swIn (pc := 40) (tgt := 1264) (off := 1224) X dL_law_40 (by decide) (by decide) (by decide) rfl (by decide) ?_
      exact lc_freeRooms hlf X0 Z0 hX0 hLs hi hrm L (by omega) hd0 next
    · refine mo_swIn (pc := 40) (tgt := 1344) (off := 1304) X dL_law_40 (by decide) (by decide) (by decide) rfl (by decide) ?_
      exact lc_value hlf X0 Z0 hX0 hLs hi hrm L (by omega) hd0 next
    · refine mo_swIn (pc := 40) (tgt := 1400) (off := 1360) X dL_law_40 (by decide) (by decide) (by decide) rfl (by decide) ?_
      exact lc_why hlf X0 Z0 hX0 hLs hi hrm L (by omega) hd0 next
    · refine mo_swIn (pc := 40) (tgt := 1504) (off := 1464) X dL_law_40 (by decide) (by decide) (by decide) rfl (by decide) ?_
      exact lc_firstSlot hlf X0 Z0 hX0 hLs hi hrm L (by omega) hd0 next
    · refine mo_swIn (pc := 40) (tgt := 1572) (off := 1532) X dL_law_40 (by decide) (by decide) (by decide) rfl (by decide) ?_
      exact lc_owedBehind hlf X0 Z0 hX0 hLs hi hrm L (by omega) hd0 next
    · refine mo_swIn (pc := 40) (tgt := 1628) (off := 1588) X dL_law_40 (by decide) (by decide) (by decide) rfl (by decide) ?_
      exact lc_settledIn hlf X0 Z0 hX0 hLs hi hrm L (by omega) hd0 next
    · refine mo_swIn (pc := 40) (tgt := 1641) (off := 1601) X dL_law_40 (by decide) (by decide) (by decide) rfl (by decide) ?_
      exact lc_gainBy hlf X0 Z0 hX0 hLs hi hrm L (by omega) hd0 next
    · refine mo_swIn (pc := 40) (tgt := 1709) (off := 1669) X dL_law_40 (by decide) (by decide) (by decide) rfl (by decide) ?_
      exact lc_kept hlf X0 Z0 hX0 hLs hi hrm L (by omega) hd0 next
    · refine mo_swIn (pc := 40) (tgt := 1750) (off := 1710) X dL_law_40 (by decide) (by decide) (by decide) rfl (by decide) ?_
      exact lc_append hlf X0 Z0 hX0 hLs hi hrm L (by omega) hd0 next
    · refine mo_swIn (pc := 40) (tgt := 1806) (off := 1766) X dL_law_40 (by decide) (by decide) (by decide) rfl (by decide) ?_
      exact lc_clearText hlf X0 Z0 hX0 hLs hi hrm L (by omega) hd0 next
    · refine mo_swIn (pc := 40) (tgt := 1819) (off := 1779) X dL_law_40 (by decide) (by decide) (by decide) rfl (by decide) ?_
      exact lc_carryOut hlf X0 Z0 hX0 hLs hi hrm L (by omega) hd0 next
    · refine mo_swIn (pc := 40) (tgt := 1832) (off := 1792) X dL_law_40 (by decide) (by decide) (by decide) rfl (by decide) ?_
      exact lc_undo hlf X0 Z0 hX0 hLs hi hrm L (by omega) hd0 next
    · refine mo_swIn (pc := 40) (tgt := 1876) (off := 1836) X dL_law_40 (by decide) (by decide) (by decide) rfl (by decide) ?_
      exact lc_digest hlf X0 Z0 hX0 hLs hi hrm L (by omega) hd0 next
    · refine mo_swOut (pc := 40) (tgt := 1890) X dL_law_40 (by omega) (by omega) (by decide) ?_
      refine mo_wd (k2 := K + c + 1) (n2 := N + 6 * c + 6) (by omega) (by omega) ?_
      exact next dd hd0 _ _ _ _ _ _ (mo_LI_mono L (by omega))
