theorem mo_tkn_b (g : Nat → Int) (w : Int) (n j : Nat) : 0 ≤ mo_tkn g w n j ∧ mo_tkn g w n j ≤ n := mo_cnt_le _ _
theorem mo_mny_b (g : Nat → Int) (w : Int) (n j : Nat) : 0 ≤ mo_mny g w n j ∧ mo_mny g w n j ≤ n := mo_cnt_le _ _
theorem mo_we_0 {g : Nat → Int} {w : Int} {e t : Nat} : mo_we g w e t = 0 ↔ mo_hb (g (192 + e)) t = true ∧ mo_hb (mo_bsy g w (mo_nk g) e) t = false ∧ mo_mny g w (mo_nk g) e < g (198 + e) := by
  unfold mo_we
  cases h1 : mo_hb (g (192 + e)) t
  · rw [if_pos rfl]; simp
  · rw [if_neg (by simp)]
    cases h2 : mo_hb (mo_bsy g w (mo_nk g) e) t
    · rw [if_neg (by simp)]
      by_cases h3 : g (198 + e) ≤ mo_mny g w (mo_nk g) e
      · rw [if_pos h3]; simp; omega
      · rw [if_neg h3]; simp; omega
    · rw [if_pos rfl]; simp
def mo_gdt (D : Nat → Int) : Nat → Int × Int
  | 0 => (-1, 0)
  | n + 1 => if (mo_gdt D n).2 < D n then ((n : Int), D n) else mo_gdt D n
set_option maxHeartbeats 4000000 in
set_option maxRecDepth 100000 in
theorem ct3_roomsLeft {lf : Launch} {ρf : mo_E} {G : mo_G} {M : mo_M} {t : Nat} {b h : Nat} (hb : mo_Bk G b) (hs : mo_St G h) (hbh : b + 10 < h ∨ h + 18 < b) {g : Nat → Int} {B : Int} (hS : mo_SR M h g) (hI : mo_Iv g B) (hB : B ≤ 1000000000) {w : Int} (hW : mo_WB M b g w (mo_nk g)) {v q : Nat} (hv : v < 5) (hq : q < 28) : mo_Ct lf ρf yX3_roomsLeft cX3_roomsLeft 4 (some .int) 1 0 0 [.ref b, .ref h, mo_iv v, mo_iv q] G M t (mo_pi G t (fun x M' => x = mo_fre g w (mo_nk g) (28 * v + q) ∧ M = M')) := by
  refine mo_ofW (ls0 := [some (.ref b), some (.ref h), some (mo_iv v), some (mo_iv q)]) (by decide) rfl (Nat.le_of_ble_eq_true rfl) ?_
  intro κ X Y
  have X : mo_Cx κ lf ρf cX3_roomsLeft 4 RX3 (some .int) 1 := X
  obtain ⟨s0, s1, s2, s3, s4, s5, sH, sA, sE, sM, sS, sL, sW, sRo, sF⟩ := id hS
  obtain ⟨hI0, hI1, hI2, hI3, hI4, hI5, hI6, hI7, hIh, hIa, hIe, hIm, hIs, hIl, hIw, hIr, hIt, hIs2, hIs3, hIz⟩ := id hI
  have hn : ((mo_nk g : Nat) : Int) = g 7 := by unfold mo_nk; omega
  obtain ⟨w1, w2, w3, w4⟩ := id hW
  refine mo_al1 (pc := 0) X dX3_roomsLeft_0 ?_
  refine mo_f_X3_80 (pc := 1) X dX3_roomsLeft_1 (mo_St_o hs) (mo_St_p13 hs) ?_
  refine mo_il2 (pc := 4) X dX3_roomsLeft_4 ?_
  refine mo_cVI (pc := 5) (As := [_]) X mo_k_X3_63 mo_y_yX1_get rfl dX3_roomsLeft_5 (ct_get (a := h + 16) (j := v) (mo_St_r13 hs) rfl (by omega) (by omega) (by omega) (by omega)) (mo_St_r13 hs).1 rfl (by decide) (by decide) (Nat.le_of_ble_eq_true rfl) ?_
  rintro r_5 _ ⟨h_5, rfl⟩
  refine mo_al0 (pc := 8) X dX3_roomsLeft_8 ?_
  refine mo_f_X3_26 (pc := 9) X dX3_roomsLeft_9 (mo_Bk_o hb) (mo_Bk_p3 hb) ?_
  refine mo_il2 (pc := 12) X dX3_roomsLeft_12 ?_
  refine mo_bipush (pc := 13) X dX3_roomsLeft_13 (by decide) ?_
  refine mo_imul (pc := 15) X dX3_roomsLeft_15 ?_
  refine mo_il3 (pc := 16) X dX3_roomsLeft_16 ?_
  refine mo_iadd (pc := 17) X dX3_roomsLeft_17 ?_
  refine mo_cVI (pc := 18) (As := [_]) X mo_k_X3_63 mo_y_yX1_get rfl dX3_roomsLeft_18 (ct_get (a := b + 8) (j := 28 * v + q) (mo_Bk_r3 hb) rfl (by omega) (by omega) (by omega) (by omega)) (mo_Bk_r3 hb).1 rfl (by decide) (by decide) (Nat.le_of_ble_eq_true rfl) ?_
  rintro r_18 _ ⟨h_18, rfl⟩
  refine mo_isub (pc := 21) X dX3_roomsLeft_21 ?_
  refine mo_iret (pc := 22) X Y rfl dX3_roomsLeft_22 ⟨rfl, rfl, _, rfl, ?_⟩
  refine ⟨?_, rfl⟩
  unfold mo_fre
  rw [show (28 * v + q) / 28 = v by omega, ← sRo v hv, ← w4 _ (by omega), h_5, h_18]
set_option maxHeartbeats 4000000 in
set_option maxRecDepth 100000 in
theorem ct3_conflict {lf : Launch} {ρf : mo_E} {G : mo_G} {M : mo_M} {t : Nat} {b h : Nat} (hb : mo_Bk G b) (hs : mo_St G h) (hbh : b + 10 < h ∨ h + 18 < b) {g : Nat → Int} {B : Int} (hS : mo_SR M h g) (hI : mo_Iv g B) (hB : B ≤ 1000000000) {w : Int} (hW : mo_WB M b g w (mo_nk g)) {o q e v : Nat} (ho : o < 8) (hq : q < 28) (he : e < 6) (hv : v < 5) (hw : g 0 ≤ w) : mo_Ct lf ρf yX3_conflict cX3_conflict 6 (some .int) 2 0 0 [.ref b, .ref h, mo_iv o, mo_iv q, mo_iv e, mo_iv v] G M t (mo_pi G t (fun x M' => (mo_rs g o w q e v = (if x ≠ 0 then x else if g 7 = 60 then 8 else 0) ∧ 0 ≤ x ∧ x ≤ 7) ∧ M = M')) := by
  refine mo_ofW (ls0 := [some (.ref b), some (.ref h), some (mo_iv o), some (mo_iv q), some (mo_iv e), some (mo_iv v)]) (by decide) rfl (Nat.le_of_ble_eq_true rfl) ?_
  intro κ X Y
  have X : mo_Cx κ lf ρf cX3_conflict 6 RX3 (some .int) 2 := X
  obtain ⟨s0, s1, s2, s3, s4, s5, sH, sA, sE, sM, sS, sL, sW, sRo, sF⟩ := id hS
  obtain ⟨hI0, hI1, hI2, hI3, hI4, hI5, hI6, hI7, hIh, hIa, hIe, hIm, hIs, hIl, hIw, hIr, hIt, hIs2, hIs3, hIz⟩ := id hI
  have hn : ((mo_nk g : Nat) : Int) = g 7 := by unfold mo_nk; omega
  obtain ⟨w1, w2, w3, w4⟩ := id hW
  have hmn := mo_mny_b g w (mo_nk g) e
  have htk := mo_tkn_b g w (mo_nk g) (28 * v + q)
  have hlim := hIl e he
  have hro := hIr v hv
  have hfr : mo_fre g w (mo_nk g) (28 * v + q) = g (210 + v) - mo_tkn g w (mo_nk g) (28 * v + q) := by unfold mo_fre; rw [show (28 * v + q) / 28 = v by omega]
  refine mo_al1 (pc := 0) X dX3_conflict_0 ?_
  refine mo_f_X3_60 (pc := 1) X dX3_conflict_1 (mo_St_o hs) (mo_St_p7 hs) ?_
  refine mo_il2 (pc := 4) X dX3_conflict_4 ?_
  refine mo_cVI (pc := 5) (As := [_]) X mo_k_X3_63 mo_y_yX1_get rfl dX3_conflict_5 (ct_get (a := h + 4) (j := o) (mo_St_r7 hs) rfl (by omega) (by omega) (by omega) (by omega)) (mo_St_r7 hs).1 rfl (by decide) (by decide) (Nat.le_of_ble_eq_true rfl) ?_
  rintro r_5 _ ⟨h_5, rfl⟩
  rw [sA o ho] at h_5
  subst h_5
  refine mo_il5 (pc := 8) X dX3_conflict_8 ?_
  refine mo_cSI (pc := 10) (As := [_, _]) X mo_k_X3_67 mo_y_yX3_isIn dX3_conflict_10 (ct3_isIn) rfl (by decide) (by decide) (Nat.le_of_ble_eq_true rfl) ?_
  rintro r_10 _ ⟨h_10, rfl⟩
  refine mo_if_ne (pc := 13) (tgt := 18) X dX3_conflict_13 (by decide) ?_ (fun c_13 => ?_) (fun c_13 => ?_)
  · omega
  · skip
    refine mo_al0 (pc := 18) X dX3_conflict_18 ?_
    refine mo_f_X3_14 (pc := 19) X dX3_conflict_19 (mo_Bk_o hb) (mo_Bk_p0 hb) ?_
    refine mo_il2 (pc := 22) X dX3_conflict_22 ?_
    refine mo_cVI (pc := 23) (As := [_]) X mo_k_X3_63 mo_y_yX1_get rfl dX3_conflict_23 (ct_get (a := b + 2) (j := o) (mo_Bk_r0 hb) rfl (by omega) (by omega) (by omega) (by omega)) (mo_Bk_r0 hb).1 rfl (by decide) (by decide) (Nat.le_of_ble_eq_true rfl) ?_
    rintro r_23 _ ⟨h_23, rfl⟩
    rw [w1 o ho] at h_23
    subst h_23
    refine mo_il3 (pc := 26) X dX3_conflict_26 ?_
    refine mo_iconst (pc := 27) X dX3_conflict_27 ?_
    refine mo_idiv (pc := 28) X dX3_conflict_28 ?_ ?_ ?_
    · omega
    · omega
    refine mo_cSI (pc := 29) (As := [_, _]) X mo_k_X3_67 mo_y_yX3_isIn dX3_conflict_29 (ct3_isIn) rfl (by decide) (by decide) (Nat.le_of_ble_eq_true rfl) ?_
    rintro r_29 _ ⟨h_29, rfl⟩
    refine mo_if_eq (pc := 32) (tgt := 37) X dX3_conflict_32 (by decide) ?_ (fun c_32 => ?_) (fun c_32 => ?_)
    · omega
    · skip
      refine mo_al1 (pc := 37) X dX3_conflict_37 ?_
      refine mo_f_X3_70 (pc := 38) X dX3_conflict_38 (mo_St_o hs) (mo_St_p10 hs) ?_
      refine mo_il4 (pc := 41) X dX3_conflict_41 ?_
      refine mo_cVI (pc := 43) (As := [_]) X mo_k_X3_63 mo_y_yX1_get rfl dX3_conflict_43 (ct_get (a := h + 10) (j := e) (mo_St_r10 hs) rfl (by omega) (by omega) (by omega) (by omega)) (mo_St_r10 hs).1 rfl (by decide) (by decide) (Nat.le_of_ble_eq_true rfl) ?_
      rintro r_43 _ ⟨h_43, rfl⟩
      rw [sS e he] at h_43
      subst h_43
      refine mo_il3 (pc := 46) X dX3_conflict_46 ?_
      refine mo_cSI (pc := 47) (As := [_, _]) X mo_k_X3_67 mo_y_yX3_isIn dX3_conflict_47 (ct3_isIn) rfl (by decide) (by decide) (Nat.le_of_ble_eq_true rfl) ?_
      rintro r_47 _ ⟨h_47, rfl⟩
      refine mo_if_ne (pc := 50) (tgt := 55) X dX3_conflict_50 (by decide) ?_ (fun c_50 => ?_) (fun c_50 => ?_)
      · omega
      · skip
        refine mo_al0 (pc := 55) X dX3_conflict_55 ?_
        refine mo_f_X3_20 (pc := 56) X dX3_conflict_56 (mo_Bk_o hb) (mo_Bk_p1 hb) ?_
        refine mo_il4 (pc := 59) X dX3_conflict_59 ?_
        refine mo_cVI (pc := 61) (As := [_]) X mo_k_X3_63 mo_y_yX1_get rfl dX3_conflict_61 (ct_get (a := b + 4) (j := e) (mo_Bk_r1 hb) rfl (by omega) (by omega) (by omega) (by omega)) (mo_Bk_r1 hb).1 rfl (by decide) (by decide) (Nat.le_of_ble_eq_true rfl) ?_
        rintro r_61 _ ⟨h_61, rfl⟩
        rw [w2 e he] at h_61
        subst h_61
        refine mo_il3 (pc := 64) X dX3_conflict_64 ?_
        refine mo_cSI (pc := 65) (As := [_, _]) X mo_k_X3_67 mo_y_yX3_isIn dX3_conflict_65 (ct3_isIn) rfl (by decide) (by decide) (Nat.le_of_ble_eq_true rfl) ?_
        rintro r_65 _ ⟨h_65, rfl⟩
        refine mo_if_eq (pc := 68) (tgt := 73) X dX3_conflict_68 (by decide) ?_ (fun c_68 => ?_) (fun c_68 => ?_)
        · omega
        · skip
          refine mo_al0 (pc := 73) X dX3_conflict_73 ?_
          refine mo_f_X3_23 (pc := 74) X dX3_conflict_74 (mo_Bk_o hb) (mo_Bk_p2 hb) ?_
          refine mo_il4 (pc := 77) X dX3_conflict_77 ?_
          refine mo_cVI (pc := 79) (As := [_]) X mo_k_X3_63 mo_y_yX1_get rfl dX3_conflict_79 (ct_get (a := b + 6) (j := e) (mo_Bk_r2 hb) rfl (by omega) (by omega) (by omega) (by omega)) (mo_Bk_r2 hb).1 rfl (by decide) (by decide) (Nat.le_of_ble_eq_true rfl) ?_
          rintro r_79 _ ⟨h_79, rfl⟩
          rw [w3 e he] at h_79
          subst h_79
          refine mo_al1 (pc := 82) X dX3_conflict_82 ?_
          refine mo_f_X3_73 (pc := 83) X dX3_conflict_83 (mo_St_o hs) (mo_St_p11 hs) ?_
          refine mo_il4 (pc := 86) X dX3_conflict_86 ?_
          refine mo_cVI (pc := 88) (As := [_]) X mo_k_X3_63 mo_y_yX1_get rfl dX3_conflict_88 (ct_get (a := h + 12) (j := e) (mo_St_r11 hs) rfl (by omega) (by omega) (by omega) (by omega)) (mo_St_r11 hs).1 rfl (by decide) (by decide) (Nat.le_of_ble_eq_true rfl) ?_
          rintro r_88 _ ⟨h_88, rfl⟩
          rw [sL e he] at h_88
          subst h_88
          refine mo_ic_lt (pc := 91) (tgt := 97) X dX3_conflict_91 (by decide) ?_ ?_ (fun c_91 => ?_) (fun c_91 => ?_)
          · omega
          · omega
          · skip
            refine mo_al0 (pc := 97) X dX3_conflict_97 ?_
            refine mo_al1 (pc := 98) X dX3_conflict_98 ?_
            refine mo_il5 (pc := 99) X dX3_conflict_99 ?_
            refine mo_il3 (pc := 101) X dX3_conflict_101 ?_
            refine mo_cVI (pc := 102) (As := [_, _, _]) X mo_k_X3_76 mo_y_yX3_roomsLeft rfl dX3_conflict_102 (ct3_roomsLeft (w := w) hb hs hbh hS hI hB hW hv hq) (mo_Bk_o hb) rfl (by decide) (by decide) (Nat.le_of_ble_eq_true rfl) ?_
            rintro r_102 _ ⟨h_102, rfl⟩
            rw [hfr] at h_102
            refine mo_if_le (pc := 105) (tgt := 112) X dX3_conflict_105 (by decide) ?_ (fun c_105 => ?_) (fun c_105 => ?_)
            · omega
            · skip
              refine mo_bipush (pc := 112) X dX3_conflict_112 (by decide) ?_
              refine mo_iret (pc := 114) X Y rfl dX3_conflict_114 ⟨rfl, rfl, _, rfl, ?_⟩
              first
              | (have e1 := mo_b1 h_10 c_13; have e2 := mo_b0 h_29 c_32; rw [show ((q : Int) / 4) = ((q / 4 : Nat) : Int) by omega] at e2; have e3 := mo_b1 h_47 c_50; have e4 := mo_b0 h_65 c_68; refine ⟨⟨?_, by omega, by omega⟩, rfl⟩; rw [if_neg (show ¬ ((0 : Int) ≠ 0) by decide)]; unfold mo_rs; rw [if_neg (show ¬ w < g 0 by omega), if_neg (by rw [e1]; decide), if_neg e2]; have e5 : mo_we g w e q = 0 := mo_we_0.mpr ⟨e3, Bool.eq_false_iff.mpr e4, by omega⟩; rw [e5, if_neg (by decide), if_neg (by omega)])
              | (have e1 := mo_b1 h_10 c_13; have e2 := mo_b0 h_29 c_32; rw [show ((q : Int) / 4) = ((q / 4 : Nat) : Int) by omega] at e2; have e3 := mo_b1 h_47 c_50; have e4 := mo_b0 h_65 c_68; refine ⟨⟨?_, by omega, by omega⟩, rfl⟩; rw [if_pos (show (7 : Int) ≠ 0 by decide)]; unfold mo_rs; rw [if_neg (show ¬ w < g 0 by omega), if_neg (by rw [e1]; decide), if_neg e2]; have e5 : mo_we g w e q = 0 := mo_we_0.mpr ⟨e3, Bool.eq_false_iff.mpr e4, by omega⟩; rw [e5, if_neg (by decide), if_pos (by omega)])
            · skip
              refine mo_iconst (pc := 108) X dX3_conflict_108 ?_
              refine mo_goto (pc := 109) (tgt := 114) X dX3_conflict_109 (by decide) ?_
              refine mo_iret (pc := 114) X Y rfl dX3_conflict_114 ⟨rfl, rfl, _, rfl, ?_⟩
              first
              | (have e1 := mo_b1 h_10 c_13; have e2 := mo_b0 h_29 c_32; rw [show ((q : Int) / 4) = ((q / 4 : Nat) : Int) by omega] at e2; have e3 := mo_b1 h_47 c_50; have e4 := mo_b0 h_65 c_68; refine ⟨⟨?_, by omega, by omega⟩, rfl⟩; rw [if_neg (show ¬ ((0 : Int) ≠ 0) by decide)]; unfold mo_rs; rw [if_neg (show ¬ w < g 0 by omega), if_neg (by rw [e1]; decide), if_neg e2]; have e5 : mo_we g w e q = 0 := mo_we_0.mpr ⟨e3, Bool.eq_false_iff.mpr e4, by omega⟩; rw [e5, if_neg (by decide), if_neg (by omega)])
              | (have e1 := mo_b1 h_10 c_13; have e2 := mo_b0 h_29 c_32; rw [show ((q : Int) / 4) = ((q / 4 : Nat) : Int) by omega] at e2; have e3 := mo_b1 h_47 c_50; have e4 := mo_b0 h_65 c_68; refine ⟨⟨?_, by omega, by omega⟩, rfl⟩; rw [if_pos (show (7 : Int) ≠ 0 by decide)]; unfold mo_rs; rw [if_neg (show ¬ w < g 0 by omega), if_neg (by rw [e1]; decide), if_neg e2]; have e5 : mo_we g w e q = 0 := mo_we_0.mpr ⟨e3, Bool.eq_false_iff.mpr e4, by omega⟩; rw [e5, if_neg (by decide), if_pos (by omega)])
          · skip
            refine mo_bipush (pc := 94) X dX3_conflict_94 (by decide) ?_
            refine mo_iret (pc := 96) X Y rfl dX3_conflict_96 ⟨rfl, rfl, _, rfl, ?_⟩
            have e1 := mo_b1 h_10 c_13
            have e2 := mo_b0 h_29 c_32
            rw [show ((q : Int) / 4) = ((q / 4 : Nat) : Int) by omega] at e2
            have e3 := mo_b1 h_47 c_50
            have e4 := mo_b0 h_65 c_68
            refine ⟨⟨?_, by omega, by omega⟩, rfl⟩
            rw [if_pos (show (6 : Int) ≠ 0 by decide)]
            unfold mo_rs
            rw [if_neg (show ¬ w < g 0 by omega), if_neg (by rw [e1]; decide), if_neg e2]
            have e5 : mo_we g w e q = 6 := by unfold mo_we; rw [if_neg (by rw [e3]; decide), if_neg e4, if_pos (by omega)]
            rw [e5, if_pos (by decide)]
        · skip
          refine mo_iconst (pc := 71) X dX3_conflict_71 ?_
          refine mo_iret (pc := 72) X Y rfl dX3_conflict_72 ⟨rfl, rfl, _, rfl, ?_⟩
          have e1 := mo_b1 h_10 c_13
          have e2 := mo_b0 h_29 c_32
          rw [show ((q : Int) / 4) = ((q / 4 : Nat) : Int) by omega] at e2
          have e3 := mo_b1 h_47 c_50
          have e4 := mo_b1 h_65 c_68
          refine ⟨⟨?_, by omega, by omega⟩, rfl⟩
          rw [if_pos (show (5 : Int) ≠ 0 by decide)]
          unfold mo_rs
          rw [if_neg (show ¬ w < g 0 by omega), if_neg (by rw [e1]; decide), if_neg e2]
          have e5 : mo_we g w e q = 5 := by unfold mo_we; rw [if_neg (by rw [e3]; decide), if_pos e4]
          rw [e5, if_pos (by decide)]
      · skip
        refine mo_iconst (pc := 53) X dX3_conflict_53 ?_
        refine mo_iret (pc := 54) X Y rfl dX3_conflict_54 ⟨rfl, rfl, _, rfl, ?_⟩
        have e1 := mo_b1 h_10 c_13
        have e2 := mo_b0 h_29 c_32
        rw [show ((q : Int) / 4) = ((q / 4 : Nat) : Int) by omega] at e2
        have e3 := mo_b0 h_47 c_50
        refine ⟨⟨?_, by omega, by omega⟩, rfl⟩
        rw [if_pos (show (4 : Int) ≠ 0 by decide)]
        unfold mo_rs
        rw [if_neg (show ¬ w < g 0 by omega), if_neg (by rw [e1]; decide), if_neg e2]
        have e5 : mo_we g w e q = 4 := by unfold mo_we; rw [if_pos (Bool.eq_false_iff.mpr e3)]
        rw [e5, if_pos (by decide)]
    · skip
      refine mo_iconst (pc := 35) X dX3_conflict_35 ?_
      refine mo_iret (pc := 36) X Y rfl dX3_conflict_36 ⟨rfl, rfl, _, rfl, ?_⟩
      have e1 := mo_b1 h_10 c_13
      have e2 := mo_b1 h_29 c_32
      rw [show ((q : Int) / 4) = ((q / 4 : Nat) : Int) by omega] at e2
      refine ⟨⟨?_, by omega, by omega⟩, rfl⟩
      rw [if_pos (show (3 : Int) ≠ 0 by decide)]
      unfold mo_rs
      rw [if_neg (show ¬ w < g 0 by omega), if_neg (by rw [e1]; decide), if_pos e2]
  · skip
    refine mo_iconst (pc := 16) X dX3_conflict_16 ?_
    refine mo_iret (pc := 17) X Y rfl dX3_conflict_17 ⟨rfl, rfl, _, rfl, ?_⟩
    have e1 := mo_b0 h_10 c_13
    refine ⟨⟨?_, by omega, by omega⟩, rfl⟩
    rw [if_pos (show (2 : Int) ≠ 0 by decide)]
    unfold mo_rs
    rw [if_neg (show ¬ w < g 0 by omega), if_pos (Bool.eq_false_iff.mpr e1)]
set_option maxHeartbeats 4000000 in
set_option maxRecDepth 100000 in
theorem ct3_firstVenue {lf : Launch} {ρf : mo_E} {G : mo_G} {M : mo_M} {t : Nat} {b h : Nat} (hb : mo_Bk G b) (hs : mo_St G h) (hbh : b + 10 < h ∨ h + 18 < b) {g : Nat → Int} {B : Int} (hS : mo_SR M h g) (hI : mo_Iv g B) (hB : B ≤ 1000000000) {w : Int} (hW : mo_WB M b g w (mo_nk g)) {o q : Nat} (ho : o < 8) (hq : q < 28) : mo_Ct lf ρf yX3_firstVenue cX3_firstVenue 5 (some .int) 2 0 0 [.ref b, .ref h, mo_iv o, mo_iv q] G M t (mo_pi G t (fun x M' => x = mo_vf g w o q ∧ M = M')) := by
  refine mo_ofW (ls0 := [some (.ref b), some (.ref h), some (mo_iv o), some (mo_iv q), none]) (by decide) rfl (Nat.le_of_ble_eq_true rfl) ?_
  intro κ X Y
  have X : mo_Cx κ lf ρf cX3_firstVenue 5 RX3 (some .int) 2 := X
  obtain ⟨s0, s1, s2, s3, s4, s5, sH, sA, sE, sM, sS, sL, sW, sRo, sF⟩ := id hS
  obtain ⟨hI0, hI1, hI2, hI3, hI4, hI5, hI6, hI7, hIh, hIa, hIe, hIm, hIs, hIl, hIw, hIr, hIt, hIs2, hIs3, hIz⟩ := id hI
  have hn : ((mo_nk g : Nat) : Int) = g 7 := by unfold mo_nk; omega
  obtain ⟨n, hn6⟩ : ∃ n : Nat, g 6 = n := ⟨(g 6).toNat, by omega⟩
  have lp1 : ∀ (z i : Nat) (x : Int), i + z = n → x = i → (∀ j, j < i → mo_vp g w o q j = false) → mo_V κ 0 0 3 [some (.ref b), some (.ref h), some (mo_iv o), some (mo_iv q), some (mo_iv x)] [] G M t := by
    intro z
    induction z with
    | zero =>
      intro i x hi hx hf
      subst hx
      refine mo_il4 (pc := 3) X dX3_firstVenue_3 ?_
      refine mo_al1 (pc := 5) X dX3_firstVenue_5 ?_
      refine mo_f_X3_131 (pc := 6) X dX3_firstVenue_6 (mo_St_o hs) ?_
      rw [s2, hn6]
      refine mo_ic_ge (pc := 9) (tgt := 48) X dX3_firstVenue_9 (by decide) ?_ ?_ (fun c_9 => ?_) (fun c_9 => ?_)
      · omega
      · omega
      · skip
        refine mo_iconst (pc := 48) X dX3_firstVenue_48 ?_
        refine mo_iret (pc := 49) X Y rfl dX3_firstVenue_49 ⟨rfl, rfl, _, rfl, ?_⟩
        show _ = mo_vf g w o q ∧ _
        unfold mo_vf
        rw [hn6, Int.toNat_natCast, show n = i by omega]
        exact ⟨(mo_ff_none hf).symm, rfl⟩
      · exfalso
        omega
    | succ z ih =>
      intro i x hi hx hf
      subst hx
      have htk := mo_tkn_b g w (mo_nk g) (28 * i + q)
      have hro := hIr i (by omega)
      have hfr : mo_fre g w (mo_nk g) (28 * i + q) = g (210 + i) - mo_tkn g w (mo_nk g) (28 * i + q) := by unfold mo_fre; rw [show (28 * i + q) / 28 = i by omega]
      refine mo_il4 (pc := 3) X dX3_firstVenue_3 ?_
      refine mo_al1 (pc := 5) X dX3_firstVenue_5 ?_
      refine mo_f_X3_131 (pc := 6) X dX3_firstVenue_6 (mo_St_o hs) ?_
      rw [s2, hn6]
      refine mo_ic_ge (pc := 9) (tgt := 48) X dX3_firstVenue_9 (by decide) ?_ ?_ (fun c_9 => ?_) (fun c_9 => ?_)
      · omega
      · omega
      · exfalso
        omega
      · skip
        refine mo_al1 (pc := 12) X dX3_firstVenue_12 ?_
        refine mo_f_X3_60 (pc := 13) X dX3_firstVenue_13 (mo_St_o hs) (mo_St_p7 hs) ?_
        refine mo_il2 (pc := 16) X dX3_firstVenue_16 ?_
        refine mo_cVI (pc := 17) (As := [_]) X mo_k_X3_63 mo_y_yX1_get rfl dX3_firstVenue_17 (ct_get (a := h + 4) (j := o) (mo_St_r7 hs) rfl (by omega) (by omega) (by omega) (by omega)) (mo_St_r7 hs).1 rfl (by decide) (by decide) (Nat.le_of_ble_eq_true rfl) ?_
        rintro r_17 _ ⟨h_17, rfl⟩
        rw [sA o ho] at h_17
        subst h_17
        refine mo_il4 (pc := 20) X dX3_firstVenue_20 ?_
        refine mo_cSI (pc := 22) (As := [_, _]) X mo_k_X3_67 mo_y_yX3_isIn dX3_firstVenue_22 (ct3_isIn) rfl (by decide) (by decide) (Nat.le_of_ble_eq_true rfl) ?_
        rintro r_22 _ ⟨h_22, rfl⟩
        refine mo_if_eq (pc := 25) (tgt := 42) X dX3_firstVenue_25 (by decide) ?_ (fun c_25 => ?_) (fun c_25 => ?_)
        · omega
        · skip
          refine mo_ii4 (pc := 42) X dX3_firstVenue_42 rfl (by decide) ?_
          refine mo_goto (pc := 45) (tgt := 3) X dX3_firstVenue_45 (by decide) ?_
          refine ih (i + 1) _ (by omega) (by omega) fun j hj => ?_
          by_cases c : j = i
          · rw [c]
            unfold mo_vp
            rw [Bool.eq_false_iff.mpr (mo_b0 h_22 c_25)]; rfl
          · exact hf j (by omega)
        · skip
          refine mo_al0 (pc := 28) X dX3_firstVenue_28 ?_
          refine mo_al1 (pc := 29) X dX3_firstVenue_29 ?_
          refine mo_il4 (pc := 30) X dX3_firstVenue_30 ?_
          refine mo_il3 (pc := 32) X dX3_firstVenue_32 ?_
          refine mo_cVI (pc := 33) (As := [_, _, _]) X mo_k_X3_76 mo_y_yX3_roomsLeft rfl dX3_firstVenue_33 (ct3_roomsLeft (w := w) hb hs hbh hS hI hB hW (v := i) (by omega) hq) (mo_Bk_o hb) rfl (by decide) (by decide) (Nat.le_of_ble_eq_true rfl) ?_
          rintro r_33 _ ⟨h_33, rfl⟩
          rw [hfr] at h_33
          refine mo_if_le (pc := 36) (tgt := 42) X dX3_firstVenue_36 (by decide) ?_ (fun c_36 => ?_) (fun c_36 => ?_)
          · omega
          · skip
            refine mo_ii4 (pc := 42) X dX3_firstVenue_42 rfl (by decide) ?_
            refine mo_goto (pc := 45) (tgt := 3) X dX3_firstVenue_45 (by decide) ?_
            refine ih (i + 1) _ (by omega) (by omega) fun j hj => ?_
            by_cases c : j = i
            · rw [c]
              unfold mo_vp
              rw [show decide (0 < mo_fre g w (mo_nk g) (28 * i + q)) = false from decide_eq_false (by omega), Bool.and_false]
            · exact hf j (by omega)
          · skip
            refine mo_il4 (pc := 39) X dX3_firstVenue_39 ?_
            refine mo_iret (pc := 41) X Y rfl dX3_firstVenue_41 ⟨rfl, rfl, _, rfl, ?_⟩
            show _ = mo_vf g w o q ∧ _
            unfold mo_vf
            rw [hn6, Int.toNat_natCast]
            refine ⟨(mo_ff_at (by omega) hf ?_).symm, rfl⟩
            unfold mo_vp
            rw [mo_b1 h_22 c_25, show decide (0 < mo_fre g w (mo_nk g) (28 * i + q)) = true from decide_eq_true (by omega)]
            rfl
  refine mo_iconst (pc := 0) X dX3_firstVenue_0 ?_
  refine mo_is4 (pc := 1) X dX3_firstVenue_1 rfl (by decide) ?_
  exact lp1 n 0 0 (by omega) rfl fun j hj => absurd hj (by omega)
set_option maxHeartbeats 4000000 in
set_option maxRecDepth 100000 in
theorem ct3_freestEscort {lf : Launch} {ρf : mo_E} {G : mo_G} {M : mo_M} {t : Nat} {b h : Nat} (hb : mo_Bk G b) (hs : mo_St G h) (hbh : b + 10 < h ∨ h + 18 < b) {g : Nat → Int} {B : Int} (hS : mo_SR M h g) (hI : mo_Iv g B) (hB : B ≤ 1000000000) {w : Int} (hW : mo_WB M b g w (mo_nk g)) {q : Nat} (hq : q < 28) : mo_Ct lf ρf yX3_freestEscort cX3_freestEscort 7 (some .int) 1 0 0 [.ref b, .ref h, mo_iv q] G M t (mo_pi G t (fun x M' => x = mo_ef g w q (mo_en5 g) ∧ M = M')) := by
  refine mo_ofW (ls0 := [some (.ref b), some (.ref h), some (mo_iv q), none, none, none, none]) (by decide) rfl (Nat.le_of_ble_eq_true rfl) ?_
  intro κ X Y
  have X : mo_Cx κ lf ρf cX3_freestEscort 7 RX3 (some .int) 1 := X
  obtain ⟨s0, s1, s2, s3, s4, s5, sH, sA, sE, sM, sS, sL, sW, sRo, sF⟩ := id hS
  obtain ⟨hI0, hI1, hI2, hI3, hI4, hI5, hI6, hI7, hIh, hIa, hIe, hIm, hIs, hIl, hIw, hIr, hIt, hIs2, hIs3, hIz⟩ := id hI
  have hn : ((mo_nk g : Nat) : Int) = g 7 := by unfold mo_nk; omega
  obtain ⟨w1, w2, w3, w4⟩ := id hW
  obtain ⟨n, hn6⟩ : ∃ n : Nat, mo_en5 g = n := ⟨_, rfl⟩
  have hn5 : g 5 = n := by unfold mo_en5 at hn6; omega
  have lp1 : ∀ (z i : Nat) (x y f : Int) (last : Option Value), i + z = n → x = i → y = mo_ef g w q i → f = (if y = -1 then 20 else mo_mny g w (mo_nk g) y.toNat) → 0 ≤ f ∧ f ≤ 60 → mo_V κ 0 0 9 [some (.ref b), some (.ref h), some (mo_iv q), some (mo_iv y), some (mo_iv f), some (mo_iv x), last] [] G M t := by
    intro z
    induction z with
    | zero =>
      intro i x y f last hi hx hy hf hfb
      subst hx
      refine mo_il5 (pc := 9) X dX3_freestEscort_9 ?_
      refine mo_al1 (pc := 11) X dX3_freestEscort_11 ?_
      refine mo_f_X3_128 (pc := 12) X dX3_freestEscort_12 (mo_St_o hs) ?_
      rw [s1, hn5]
      refine mo_ic_ge (pc := 15) (tgt := 91) X dX3_freestEscort_15 (by decide) ?_ ?_ (fun c_15 => ?_) (fun c_15 => ?_)
      · omega
      · omega
      · skip
        refine mo_il3 (pc := 91) X dX3_freestEscort_91 ?_
        refine mo_iret (pc := 92) X Y rfl dX3_freestEscort_92 ⟨rfl, rfl, _, rfl, ?_⟩
        show _ = mo_ef g w q (mo_en5 g) ∧ _
        rw [hn6, show n = i by omega]
        exact ⟨hy, rfl⟩
      · exfalso
        omega
    | succ z ih =>
      intro i x y f last hi hx hy hf hfb
      subst hx
      have hmn := mo_mny_b g w (mo_nk g) i
      have hlim := hIl i (by omega)
      have hyb := mo_ef_b g w q i
      refine mo_il5 (pc := 9) X dX3_freestEscort_9 ?_
      refine mo_al1 (pc := 11) X dX3_freestEscort_11 ?_
      refine mo_f_X3_128 (pc := 12) X dX3_freestEscort_12 (mo_St_o hs) ?_
      rw [s1, hn5]
      refine mo_ic_ge (pc := 15) (tgt := 91) X dX3_freestEscort_15 (by decide) ?_ ?_ (fun c_15 => ?_) (fun c_15 => ?_)
      · omega
      · omega
      · exfalso
        omega
      · skip
        refine mo_al0 (pc := 18) X dX3_freestEscort_18 ?_
        refine mo_f_X3_23 (pc := 19) X dX3_freestEscort_19 (mo_Bk_o hb) (mo_Bk_p2 hb) ?_
        refine mo_il5 (pc := 22) X dX3_freestEscort_22 ?_
        refine mo_cVI (pc := 24) (As := [_]) X mo_k_X3_63 mo_y_yX1_get rfl dX3_freestEscort_24 (ct_get (a := b + 6) (j := i) (mo_Bk_r2 hb) rfl (by omega) (by omega) (by omega) (by omega)) (mo_Bk_r2 hb).1 rfl (by decide) (by decide) (Nat.le_of_ble_eq_true rfl) ?_
        rintro r_24 _ ⟨h_24, rfl⟩
        rw [w3 i (by omega)] at h_24
        subst h_24
        refine mo_is6 (pc := 27) X dX3_freestEscort_27 rfl (by decide) ?_
        refine mo_il6 (pc := 29) X dX3_freestEscort_29 ?_
        refine mo_il4 (pc := 31) X dX3_freestEscort_31 ?_
        refine mo_ic_ge (pc := 33) (tgt := 85) X dX3_freestEscort_33 (by decide) ?_ ?_ (fun c_33 => ?_) (fun c_33 => ?_)
        · omega
        · omega
        · skip
          refine mo_ii5 (pc := 85) X dX3_freestEscort_85 rfl (by decide) ?_
          refine mo_goto (pc := 88) (tgt := 9) X dX3_freestEscort_88 (by decide) ?_
          have c1 : ¬ (mo_we g w i q = 0 ∧ (mo_ef g w q i = -1 ∨ mo_mny g w (mo_nk g) i < mo_mny g w (mo_nk g) (mo_ef g w q i).toNat)) := fun ⟨u1, u2⟩ => by
            obtain ⟨v1, v2, v3⟩ := mo_we_0.mp u1
            rw [hy] at hf
            rcases u2 with u2 | u2
            · rw [if_pos u2] at hf; omega
            · by_cases u3 : mo_ef g w q i = -1
              · rw [if_pos u3] at hf; omega
              · rw [if_neg u3] at hf; omega
          have e2 : mo_ef g w q (i + 1) = mo_ef g w q i := by rw [mo_ef, if_neg c1]
          refine ih (i + 1) _ _ _ _ (by omega) (by omega) (by rw [e2]; exact hy) hf hfb
        · skip
          refine mo_il6 (pc := 36) X dX3_freestEscort_36 ?_
          refine mo_al1 (pc := 38) X dX3_freestEscort_38 ?_
          refine mo_f_X3_73 (pc := 39) X dX3_freestEscort_39 (mo_St_o hs) (mo_St_p11 hs) ?_
          refine mo_il5 (pc := 42) X dX3_freestEscort_42 ?_
          refine mo_cVI (pc := 44) (As := [_]) X mo_k_X3_63 mo_y_yX1_get rfl dX3_freestEscort_44 (ct_get (a := h + 12) (j := i) (mo_St_r11 hs) rfl (by omega) (by omega) (by omega) (by omega)) (mo_St_r11 hs).1 rfl (by decide) (by decide) (Nat.le_of_ble_eq_true rfl) ?_
          rintro r_44 _ ⟨h_44, rfl⟩
          rw [sL i (by omega)] at h_44
          subst h_44
          refine mo_ic_ge (pc := 47) (tgt := 85) X dX3_freestEscort_47 (by decide) ?_ ?_ (fun c_47 => ?_) (fun c_47 => ?_)
          · omega
          · omega
          · skip
            refine mo_ii5 (pc := 85) X dX3_freestEscort_85 rfl (by decide) ?_
            refine mo_goto (pc := 88) (tgt := 9) X dX3_freestEscort_88 (by decide) ?_
            have c1 : ¬ (mo_we g w i q = 0 ∧ (mo_ef g w q i = -1 ∨ mo_mny g w (mo_nk g) i < mo_mny g w (mo_nk g) (mo_ef g w q i).toNat)) := fun ⟨u1, u2⟩ => by
              obtain ⟨v1, v2, v3⟩ := mo_we_0.mp u1
              rw [hy] at hf
              omega
            have e2 : mo_ef g w q (i + 1) = mo_ef g w q i := by rw [mo_ef, if_neg c1]
            refine ih (i + 1) _ _ _ _ (by omega) (by omega) (by rw [e2]; exact hy) hf hfb
          · skip
            refine mo_al1 (pc := 50) X dX3_freestEscort_50 ?_
            refine mo_f_X3_70 (pc := 51) X dX3_freestEscort_51 (mo_St_o hs) (mo_St_p10 hs) ?_
            refine mo_il5 (pc := 54) X dX3_freestEscort_54 ?_
            refine mo_cVI (pc := 56) (As := [_]) X mo_k_X3_63 mo_y_yX1_get rfl dX3_freestEscort_56 (ct_get (a := h + 10) (j := i) (mo_St_r10 hs) rfl (by omega) (by omega) (by omega) (by omega)) (mo_St_r10 hs).1 rfl (by decide) (by decide) (Nat.le_of_ble_eq_true rfl) ?_
            rintro r_56 _ ⟨h_56, rfl⟩
            rw [sS i (by omega)] at h_56
            subst h_56
            refine mo_al0 (pc := 59) X dX3_freestEscort_59 ?_
            refine mo_f_X3_20 (pc := 60) X dX3_freestEscort_60 (mo_Bk_o hb) (mo_Bk_p1 hb) ?_
            refine mo_il5 (pc := 63) X dX3_freestEscort_63 ?_
            refine mo_cVI (pc := 65) (As := [_]) X mo_k_X3_63 mo_y_yX1_get rfl dX3_freestEscort_65 (ct_get (a := b + 4) (j := i) (mo_Bk_r1 hb) rfl (by omega) (by omega) (by omega) (by omega)) (mo_Bk_r1 hb).1 rfl (by decide) (by decide) (Nat.le_of_ble_eq_true rfl) ?_
            rintro r_65 _ ⟨h_65, rfl⟩
            rw [w2 i (by omega)] at h_65
            subst h_65
            refine mo_iconst (pc := 68) X dX3_freestEscort_68 ?_
            refine mo_ixor (pc := 69) X dX3_freestEscort_69 ?_
            refine mo_iand (pc := 70) X dX3_freestEscort_70 ?_
            refine mo_il2 (pc := 71) X dX3_freestEscort_71 ?_
            refine mo_cSI (pc := 72) (As := [_, _]) X mo_k_X3_67 mo_y_yX3_isIn dX3_freestEscort_72 (ct3_isIn) rfl (by decide) (by decide) (Nat.le_of_ble_eq_true rfl) ?_
            rintro r_72 _ ⟨h_72, rfl⟩
            refine mo_if_eq (pc := 75) (tgt := 85) X dX3_freestEscort_75 (by decide) ?_ (fun c_75 => ?_) (fun c_75 => ?_)
            · omega
            · skip
              refine mo_ii5 (pc := 85) X dX3_freestEscort_85 rfl (by decide) ?_
              refine mo_goto (pc := 88) (tgt := 9) X dX3_freestEscort_88 (by decide) ?_
              have c1 : ¬ (mo_we g w i q = 0 ∧ (mo_ef g w q i = -1 ∨ mo_mny g w (mo_nk g) i < mo_mny g w (mo_nk g) (mo_ef g w q i).toNat)) := fun ⟨u1, u2⟩ => by
                obtain ⟨v1, v2, v3⟩ := mo_we_0.mp u1
                rw [hy] at hf
                have e3 := mo_b0 h_72 c_75
                rw [mo_hb_an _ _ (by omega), v1, v2] at e3
                exact e3 rfl
              have e2 : mo_ef g w q (i + 1) = mo_ef g w q i := by rw [mo_ef, if_neg c1]
              refine ih (i + 1) _ _ _ _ (by omega) (by omega) (by rw [e2]; exact hy) hf hfb
            · skip
              refine mo_il5 (pc := 78) X dX3_freestEscort_78 ?_
              refine mo_is3 (pc := 80) X dX3_freestEscort_80 rfl (by decide) ?_
              refine mo_il6 (pc := 81) X dX3_freestEscort_81 ?_
              refine mo_is4 (pc := 83) X dX3_freestEscort_83 rfl (by decide) ?_
              refine mo_ii5 (pc := 85) X dX3_freestEscort_85 rfl (by decide) ?_
              refine mo_goto (pc := 88) (tgt := 9) X dX3_freestEscort_88 (by decide) ?_
              have e3 := mo_b1 h_72 c_75
              rw [mo_hb_an _ _ (by omega), Bool.and_eq_true, Bool.not_eq_true'] at e3
              have c1 : mo_we g w i q = 0 ∧ (mo_ef g w q i = -1 ∨ mo_mny g w (mo_nk g) i < mo_mny g w (mo_nk g) (mo_ef g w q i).toNat) := by
                refine ⟨mo_we_0.mpr ⟨e3.1, e3.2, by omega⟩, ?_⟩
                by_cases u3 : mo_ef g w q i = -1
                · exact Or.inl u3
                · rw [hy, if_neg u3] at hf
                  exact Or.inr (by omega)
              have e2 : mo_ef g w q (i + 1) = i := by rw [mo_ef, if_pos c1]
              refine ih (i + 1) _ _ _ _ (by omega) (by omega) e2.symm ?_ (by omega)
              rw [if_neg (by omega), Int.toNat_natCast]
  refine mo_iconst (pc := 0) X dX3_freestEscort_0 ?_
  refine mo_is3 (pc := 1) X dX3_freestEscort_1 rfl (by decide) ?_
  refine mo_bipush (pc := 2) X dX3_freestEscort_2 (by decide) ?_
  refine mo_is4 (pc := 4) X dX3_freestEscort_4 rfl (by decide) ?_
  refine mo_iconst (pc := 6) X dX3_freestEscort_6 ?_
  refine mo_is5 (pc := 7) X dX3_freestEscort_7 rfl (by decide) ?_
  exact lp1 n 0 0 (-1) 20 none (by omega) rfl rfl rfl (by omega)
set_option maxHeartbeats 4000000 in
set_option maxRecDepth 100000 in
theorem ct3_greatestDebt {lf : Launch} {ρf : mo_E} {G : mo_G} {M : mo_M} {t : Nat} {b h : Nat} (hb : mo_Bk G b) (hs : mo_St G h) (hbh : b + 10 < h ∨ h + 18 < b) {g : Nat → Int} {B : Int} (hS : mo_SR M h g) (hI : mo_Iv g B) (hB : B ≤ 1000000000) (hD : ∀ j : Nat, (j : Int) < g 4 → mo_In (M (b + 10) j)) : mo_Ct lf ρf yX3_greatestDebt cX3_greatestDebt 5 (some .int) 1 0 0 [.ref b, .ref h] G M t (mo_pi G t (fun x M' => x = (mo_gdt (M (b + 10)) (g 4).toNat).1 ∧ M = M')) := by
  refine mo_ofW (ls0 := [some (.ref b), some (.ref h), none, none, none]) (by decide) rfl (Nat.le_of_ble_eq_true rfl) ?_
  intro κ X Y
  have X : mo_Cx κ lf ρf cX3_greatestDebt 5 RX3 (some .int) 1 := X
  obtain ⟨s0, s1, s2, s3, s4, s5, sH, sA, sE, sM, sS, sL, sW, sRo, sF⟩ := id hS
  obtain ⟨hI0, hI1, hI2, hI3, hI4, hI5, hI6, hI7, hIh, hIa, hIe, hIm, hIs, hIl, hIw, hIr, hIt, hIs2, hIs3, hIz⟩ := id hI
  have hn : ((mo_nk g : Nat) : Int) = g 7 := by unfold mo_nk; omega
  obtain ⟨n, hn6⟩ : ∃ n : Nat, (g 4).toNat = n := ⟨_, rfl⟩
  have hn4 : g 4 = n := by omega
  have lp1 : ∀ (z i : Nat) (x : Int), i + z = n → x = i → mo_In (mo_gdt (M (b + 10)) i).2 → mo_V κ 0 0 7 [some (.ref b), some (.ref h), some (mo_iv (mo_gdt (M (b + 10)) i).1), some (mo_iv (mo_gdt (M (b + 10)) i).2), some (mo_iv x)] [] G M t := by
    intro z
    induction z with
    | zero =>
      intro i x hi hx hy
      subst hx
      refine mo_il4 (pc := 7) X dX3_greatestDebt_7 ?_
      refine mo_al1 (pc := 9) X dX3_greatestDebt_9 ?_
      refine mo_f_X3_87 (pc := 10) X dX3_greatestDebt_10 (mo_St_o hs) ?_
      rw [s0, hn4]
      refine mo_ic_ge (pc := 13) (tgt := 48) X dX3_greatestDebt_13 (by decide) ?_ ?_ (fun c_13 => ?_) (fun c_13 => ?_)
      · omega
      · omega
      · skip
        refine mo_il2 (pc := 48) X dX3_greatestDebt_48 ?_
        refine mo_iret (pc := 49) X Y rfl dX3_greatestDebt_49 ⟨rfl, rfl, _, rfl, ?_⟩
        show _ = (mo_gdt (M (b + 10)) (g 4).toNat).1 ∧ _
        rw [hn6, show n = i by omega]
        exact ⟨rfl, rfl⟩
      · exfalso
        omega
    | succ z ih =>
      intro i x hi hx hy
      subst hx
      have hDi := hD i (by omega)
      have es : mo_gdt (M (b + 10)) (i + 1) = if (mo_gdt (M (b + 10)) i).2 < M (b + 10) i then ((i : Int), M (b + 10) i) else mo_gdt (M (b + 10)) i := rfl
      refine mo_il4 (pc := 7) X dX3_greatestDebt_7 ?_
      refine mo_al1 (pc := 9) X dX3_greatestDebt_9 ?_
      refine mo_f_X3_87 (pc := 10) X dX3_greatestDebt_10 (mo_St_o hs) ?_
      rw [s0, hn4]
      refine mo_ic_ge (pc := 13) (tgt := 48) X dX3_greatestDebt_13 (by decide) ?_ ?_ (fun c_13 => ?_) (fun c_13 => ?_)
      · omega
      · omega
      · exfalso
        omega
      · skip
        refine mo_al0 (pc := 16) X dX3_greatestDebt_16 ?_
        refine mo_f_X3_29 (pc := 17) X dX3_greatestDebt_17 (mo_Bk_o hb) (mo_Bk_p4 hb) ?_
        refine mo_il4 (pc := 20) X dX3_greatestDebt_20 ?_
        refine mo_cVI (pc := 22) (As := [_]) X mo_k_X3_63 mo_y_yX1_get rfl dX3_greatestDebt_22 (ct_get (a := b + 10) (j := i) (mo_Bk_r4 hb) rfl (by omega) (by omega) (by omega) (by omega)) (mo_Bk_r4 hb).1 rfl (by decide) (by decide) (Nat.le_of_ble_eq_true rfl) ?_
        rintro r_22 _ ⟨h_22, rfl⟩
        subst h_22
        refine mo_il3 (pc := 25) X dX3_greatestDebt_25 ?_
        refine mo_ic_le (pc := 26) (tgt := 42) X dX3_greatestDebt_26 (by decide) ?_ ?_ (fun c_26 => ?_) (fun c_26 => ?_)
        · exact hDi
        · exact hy
        · skip
          refine mo_ii4 (pc := 42) X dX3_greatestDebt_42 rfl (by decide) ?_
          refine mo_goto (pc := 45) (tgt := 7) X dX3_greatestDebt_45 (by decide) ?_
          rw [if_neg (by omega)] at es
          have h9 := ih (i + 1) ((i : Int) + 1) (by omega) (by omega) (by rw [es]; exact hy)
          rw [es] at h9
          exact h9
        · skip
          refine mo_il4 (pc := 29) X dX3_greatestDebt_29 ?_
          refine mo_is2 (pc := 31) X dX3_greatestDebt_31 rfl (by decide) ?_
          refine mo_al0 (pc := 32) X dX3_greatestDebt_32 ?_
          refine mo_f_X3_29 (pc := 33) X dX3_greatestDebt_33 (mo_Bk_o hb) (mo_Bk_p4 hb) ?_
          refine mo_il4 (pc := 36) X dX3_greatestDebt_36 ?_
          refine mo_cVI (pc := 38) (As := [_]) X mo_k_X3_63 mo_y_yX1_get rfl dX3_greatestDebt_38 (ct_get (a := b + 10) (j := i) (mo_Bk_r4 hb) rfl (by omega) (by omega) (by omega) (by omega)) (mo_Bk_r4 hb).1 rfl (by decide) (by decide) (Nat.le_of_ble_eq_true rfl) ?_
          rintro r_38 _ ⟨h_38, rfl⟩
          subst h_38
          refine mo_is3 (pc := 41) X dX3_greatestDebt_41 rfl (by decide) ?_
          refine mo_ii4 (pc := 42) X dX3_greatestDebt_42 rfl (by decide) ?_
          refine mo_goto (pc := 45) (tgt := 7) X dX3_greatestDebt_45 (by decide) ?_
          rw [if_pos (by omega)] at es
          have h9 := ih (i + 1) ((i : Int) + 1) (by omega) (by omega) (by rw [es]; exact hDi)
          rw [es] at h9
          exact h9
  refine mo_iconst (pc := 0) X dX3_greatestDebt_0 ?_
  refine mo_is2 (pc := 1) X dX3_greatestDebt_1 rfl (by decide) ?_
  refine mo_iconst (pc := 2) X dX3_greatestDebt_2 ?_
  refine mo_is3 (pc := 3) X dX3_greatestDebt_3 rfl (by decide) ?_
  refine mo_iconst (pc := 4) X dX3_greatestDebt_4 ?_
  refine mo_is4 (pc := 5) X dX3_greatestDebt_5 rfl (by decide) ?_
  exact lp1 n 0 0 (by omega) rfl (show mo_In 0 by decide)
