theorem mo_ldcw {κ : mo_T} {lf : Launch} {ρf : mo_E} {cc : ByteArray} {nL : Nat} {own : String} {ret : Option FieldType} {d k n pc : Nat} {ls : List (Option Value)} {st : List Value} {G : mo_G} {M : mo_M} {t : Nat} (X : mo_Cx κ lf ρf cc nL own ret d) {i : Nat} {v : Int} (hd : decode cc pc = .ok (.ldc_w i, 3)) (hw : Cond.constant own i (Int32.ofInt v) ∈ mo_B) (kk : mo_V κ k n (pc + 3) ls (mo_iv v :: st) G M t) : mo_V κ k n pc ls st G M t := by
  obtain ⟨⟨p, l, e, R, s⟩, ⟨m, args, below, meth, c⟩, Q, ρ⟩ := κ
  obtain ⟨hx, hb, hml, hown, hts, hK, hlk, hrt, hb0, hRf, hRl, hlf, hρ⟩ := X
  intro H locs lr ht hR hS hl
  exact lv_ldcw hx hb hown (hts _ hw) hd (kk H locs lr ht hR hS hl)
set_option maxHeartbeats 4000000 in
set_option maxRecDepth 100000 in
theorem ct4_isWeek {lf : Launch} {ρf : mo_E} {G : mo_G} {M : mo_M} {t : Nat} {v : Int} (hv : mo_In v) : mo_Ct lf ρf yX4_isWeek cX4_isWeek 1 (some .boolean) 0 0 0 [mo_iv v] G M t (mo_pi G t (fun y M' => ((y = 1 ∧ (0 ≤ v ∧ v ≤ 19)) ∨ (y = 0 ∧ ¬ (0 ≤ v ∧ v ≤ 19))) ∧ M = M')) := by
  refine mo_ofW (ls0 := [some (mo_iv v)]) (by decide) rfl (Nat.le_of_ble_eq_true rfl) ?_
  intro κ X Y
  have X : mo_Cx κ lf ρf cX4_isWeek 1 RX4 (some .boolean) 0 := X
  refine mo_il0 (pc := 0) X dX4_isWeek_0 ?_
  refine mo_if_lt (pc := 1) (tgt := 14) X dX4_isWeek_1 (by decide) ?_ (fun c_1 => ?_) (fun c_1 => ?_)
  · omega
  · skip
    refine mo_iconst (pc := 14) X dX4_isWeek_14 ?_
    refine mo_zret (pc := 15) X Y rfl ?_ dX4_isWeek_15 ⟨rfl, rfl, _, rfl, ?_⟩
    · omega
    exact ⟨by omega, rfl⟩
  · skip
    refine mo_il0 (pc := 4) X dX4_isWeek_4 ?_
    refine mo_bipush (pc := 5) X dX4_isWeek_5 (by decide) ?_
    refine mo_ic_ge (pc := 7) (tgt := 14) X dX4_isWeek_7 (by decide) ?_ ?_ (fun c_7 => ?_) (fun c_7 => ?_)
    · omega
    · omega
    · skip
      refine mo_iconst (pc := 14) X dX4_isWeek_14 ?_
      refine mo_zret (pc := 15) X Y rfl ?_ dX4_isWeek_15 ⟨rfl, rfl, _, rfl, ?_⟩
      · omega
      exact ⟨by omega, rfl⟩
    · skip
      refine mo_iconst (pc := 10) X dX4_isWeek_10 ?_
      refine mo_goto (pc := 11) (tgt := 15) X dX4_isWeek_11 (by decide) ?_
      refine mo_zret (pc := 15) X Y rfl ?_ dX4_isWeek_15 ⟨rfl, rfl, _, rfl, ?_⟩
      · omega
      exact ⟨by omega, rfl⟩
set_option maxHeartbeats 4000000 in
set_option maxRecDepth 100000 in
theorem ct4_isHours {lf : Launch} {ρf : mo_E} {G : mo_G} {M : mo_M} {t : Nat} {v : Int} (hv : mo_In v) : mo_Ct lf ρf yX4_isHours cX4_isHours 1 (some .boolean) 0 0 0 [mo_iv v] G M t (mo_pi G t (fun y M' => ((y = 1 ∧ (0 ≤ v ∧ v ≤ 7)) ∨ (y = 0 ∧ ¬ (0 ≤ v ∧ v ≤ 7))) ∧ M = M')) := by
  refine mo_ofW (ls0 := [some (mo_iv v)]) (by decide) rfl (Nat.le_of_ble_eq_true rfl) ?_
  intro κ X Y
  have X : mo_Cx κ lf ρf cX4_isHours 1 RX4 (some .boolean) 0 := X
  refine mo_il0 (pc := 0) X dX4_isHours_0 ?_
  refine mo_if_lt (pc := 1) (tgt := 14) X dX4_isHours_1 (by decide) ?_ (fun c_1 => ?_) (fun c_1 => ?_)
  · omega
  · skip
    refine mo_iconst (pc := 14) X dX4_isHours_14 ?_
    refine mo_zret (pc := 15) X Y rfl ?_ dX4_isHours_15 ⟨rfl, rfl, _, rfl, ?_⟩
    · omega
    exact ⟨by omega, rfl⟩
  · skip
    refine mo_il0 (pc := 4) X dX4_isHours_4 ?_
    refine mo_bipush (pc := 5) X dX4_isHours_5 (by decide) ?_
    refine mo_ic_gt (pc := 7) (tgt := 14) X dX4_isHours_7 (by decide) ?_ ?_ (fun c_7 => ?_) (fun c_7 => ?_)
    · omega
    · omega
    · skip
      refine mo_iconst (pc := 14) X dX4_isHours_14 ?_
      refine mo_zret (pc := 15) X Y rfl ?_ dX4_isHours_15 ⟨rfl, rfl, _, rfl, ?_⟩
      · omega
      exact ⟨by omega, rfl⟩
    · skip
      refine mo_iconst (pc := 10) X dX4_isHours_10 ?_
      refine mo_goto (pc := 11) (tgt := 15) X dX4_isHours_11 (by decide) ?_
      refine mo_zret (pc := 15) X Y rfl ?_ dX4_isHours_15 ⟨rfl, rfl, _, rfl, ?_⟩
      · omega
      exact ⟨by omega, rfl⟩
set_option maxHeartbeats 4000000 in
set_option maxRecDepth 100000 in
theorem ct4_isSlot {lf : Launch} {ρf : mo_E} {G : mo_G} {M : mo_M} {t : Nat} {v : Int} (hv : mo_In v) : mo_Ct lf ρf yX4_isSlot cX4_isSlot 1 (some .boolean) 0 0 0 [mo_iv v] G M t (mo_pi G t (fun y M' => ((y = 1 ∧ (0 ≤ v ∧ v ≤ 27)) ∨ (y = 0 ∧ ¬ (0 ≤ v ∧ v ≤ 27))) ∧ M = M')) := by
  refine mo_ofW (ls0 := [some (mo_iv v)]) (by decide) rfl (Nat.le_of_ble_eq_true rfl) ?_
  intro κ X Y
  have X : mo_Cx κ lf ρf cX4_isSlot 1 RX4 (some .boolean) 0 := X
  refine mo_il0 (pc := 0) X dX4_isSlot_0 ?_
  refine mo_if_lt (pc := 1) (tgt := 14) X dX4_isSlot_1 (by decide) ?_ (fun c_1 => ?_) (fun c_1 => ?_)
  · omega
  · skip
    refine mo_iconst (pc := 14) X dX4_isSlot_14 ?_
    refine mo_zret (pc := 15) X Y rfl ?_ dX4_isSlot_15 ⟨rfl, rfl, _, rfl, ?_⟩
    · omega
    exact ⟨by omega, rfl⟩
  · skip
    refine mo_il0 (pc := 4) X dX4_isSlot_4 ?_
    refine mo_bipush (pc := 5) X dX4_isSlot_5 (by decide) ?_
    refine mo_ic_ge (pc := 7) (tgt := 14) X dX4_isSlot_7 (by decide) ?_ ?_ (fun c_7 => ?_) (fun c_7 => ?_)
    · omega
    · omega
    · skip
      refine mo_iconst (pc := 14) X dX4_isSlot_14 ?_
      refine mo_zret (pc := 15) X Y rfl ?_ dX4_isSlot_15 ⟨rfl, rfl, _, rfl, ?_⟩
      · omega
      exact ⟨by omega, rfl⟩
    · skip
      refine mo_iconst (pc := 10) X dX4_isSlot_10 ?_
      refine mo_goto (pc := 11) (tgt := 15) X dX4_isSlot_11 (by decide) ?_
      refine mo_zret (pc := 15) X Y rfl ?_ dX4_isSlot_15 ⟨rfl, rfl, _, rfl, ?_⟩
      · omega
      exact ⟨by omega, rfl⟩
set_option maxHeartbeats 4000000 in
set_option maxRecDepth 100000 in
theorem ct4_isSetOfSlots {lf : Launch} {ρf : mo_E} {G : mo_G} {M : mo_M} {t : Nat} {v : Int} (hv : mo_In v) : mo_Ct lf ρf yX4_isSetOfSlots cX4_isSetOfSlots 1 (some .boolean) 0 0 0 [mo_iv v] G M t (mo_pi G t (fun y M' => ((y = 1 ∧ (0 ≤ v ∧ v ≤ 268435455)) ∨ (y = 0 ∧ ¬ (0 ≤ v ∧ v ≤ 268435455))) ∧ M = M')) := by
  refine mo_ofW (ls0 := [some (mo_iv v)]) (by decide) rfl (Nat.le_of_ble_eq_true rfl) ?_
  intro κ X Y
  have X : mo_Cx κ lf ρf cX4_isSetOfSlots 1 RX4 (some .boolean) 0 := X
  refine mo_il0 (pc := 0) X dX4_isSetOfSlots_0 ?_
  refine mo_if_lt (pc := 1) (tgt := 15) X dX4_isSetOfSlots_1 (by decide) ?_ (fun c_1 => ?_) (fun c_1 => ?_)
  · omega
  · skip
    refine mo_iconst (pc := 15) X dX4_isSetOfSlots_15 ?_
    refine mo_zret (pc := 16) X Y rfl ?_ dX4_isSetOfSlots_16 ⟨rfl, rfl, _, rfl, ?_⟩
    · omega
    exact ⟨by omega, rfl⟩
  · skip
    refine mo_il0 (pc := 4) X dX4_isSetOfSlots_4 ?_
    refine mo_ldcw (pc := 5) (v := 268435455) X dX4_isSetOfSlots_5 mo_wk_X4_340 ?_
    refine mo_ic_gt (pc := 8) (tgt := 15) X dX4_isSetOfSlots_8 (by decide) ?_ ?_ (fun c_8 => ?_) (fun c_8 => ?_)
    · omega
    · omega
    · skip
      refine mo_iconst (pc := 15) X dX4_isSetOfSlots_15 ?_
      refine mo_zret (pc := 16) X Y rfl ?_ dX4_isSetOfSlots_16 ⟨rfl, rfl, _, rfl, ?_⟩
      · omega
      exact ⟨by omega, rfl⟩
    · skip
      refine mo_iconst (pc := 11) X dX4_isSetOfSlots_11 ?_
      refine mo_goto (pc := 12) (tgt := 16) X dX4_isSetOfSlots_12 (by decide) ?_
      refine mo_zret (pc := 16) X Y rfl ?_ dX4_isSetOfSlots_16 ⟨rfl, rfl, _, rfl, ?_⟩
      · omega
      exact ⟨by omega, rfl⟩
set_option maxHeartbeats 4000000 in
set_option maxRecDepth 100000 in
theorem ct4_mayChange {lf : Launch} {ρf : mo_E} {G : mo_G} {M : mo_M} {t : Nat} {x : Nat} (hx : mo_Ms G x) {w v : Int} {g : Nat → Int} {B : Int} (hS : mo_SR M (x + 1) g) (hI : mo_Iv g B) (hB : B ≤ 999000000) (hw : mo_In w) (hv : mo_In v) : mo_Ct lf ρf yX4_mayChange cX4_mayChange 3 (some .boolean) 1 0 0 [.ref x, mo_iv w, mo_iv v] G M t (mo_pi G t (fun y M' => ((y = 1 ∧ ((g 0 ≤ w ∧ w ≤ 19) ∧ (0 ≤ v ∧ v ≤ 7))) ∨ (y = 0 ∧ ¬ ((g 0 ≤ w ∧ w ≤ 19) ∧ (0 ≤ v ∧ v ≤ 7)))) ∧ M = M')) := by
  refine mo_ofW (ls0 := [some (.ref x), some (mo_iv w), some (mo_iv v)]) (by decide) rfl (Nat.le_of_ble_eq_true rfl) ?_
  intro κ X Y
  have X : mo_Cx κ lf ρf cX4_mayChange 3 RX4 (some .boolean) 1 := X
  have hI0 := hI.1
  have h4 : M (x + 1) 4 = g 0 := hS.2.2.2.2.1
  refine mo_il1 (pc := 0) X dX4_mayChange_0 ?_
  refine mo_cSI (pc := 1) (As := [_]) X mo_k_X4_145 mo_y_yX4_isWeek dX4_mayChange_1 (ct4_isWeek hw) rfl (by decide) (by decide) (Nat.le_of_ble_eq_true rfl) ?_
  rintro r_1 _ ⟨h_1, rfl⟩
  refine mo_if_eq (pc := 4) (tgt := 29) X dX4_mayChange_4 (by decide) ?_ (fun c_4 => ?_) (fun c_4 => ?_)
  · omega
  · skip
    refine mo_iconst (pc := 29) X dX4_mayChange_29 ?_
    refine mo_zret (pc := 30) X Y rfl ?_ dX4_mayChange_30 ⟨rfl, rfl, _, rfl, ?_⟩
    · omega
    exact ⟨by omega, rfl⟩
  · skip
    refine mo_al0 (pc := 7) X dX4_mayChange_7 ?_
    refine mo_f_X4_12 (pc := 8) X dX4_mayChange_8 (mo_Ms_o hx) (mo_Ms_p0 hx) ?_
    refine mo_il1 (pc := 11) X dX4_mayChange_11 ?_
    refine mo_cVI (pc := 12) (As := [_]) X mo_k_X4_164 mo_y_yX2_isOver rfl dX4_mayChange_12 (ct2_isOver (mo_Ms_r0 hx) hw (by omega)) (mo_St_o (mo_Ms_r0 hx)) rfl (by decide) (by decide) (Nat.le_of_ble_eq_true rfl) ?_
    rintro r_12 _ ⟨h_12, rfl⟩
    refine mo_if_ne (pc := 15) (tgt := 29) X dX4_mayChange_15 (by decide) ?_ (fun c_15 => ?_) (fun c_15 => ?_)
    · omega
    · skip
      refine mo_iconst (pc := 29) X dX4_mayChange_29 ?_
      refine mo_zret (pc := 30) X Y rfl ?_ dX4_mayChange_30 ⟨rfl, rfl, _, rfl, ?_⟩
      · omega
      exact ⟨by omega, rfl⟩
    · skip
      refine mo_il2 (pc := 18) X dX4_mayChange_18 ?_
      refine mo_cSI (pc := 19) (As := [_]) X mo_k_X4_41 mo_y_yX4_isHours dX4_mayChange_19 (ct4_isHours hv) rfl (by decide) (by decide) (Nat.le_of_ble_eq_true rfl) ?_
      rintro r_19 _ ⟨h_19, rfl⟩
      refine mo_if_eq (pc := 22) (tgt := 29) X dX4_mayChange_22 (by decide) ?_ (fun c_22 => ?_) (fun c_22 => ?_)
      · omega
      · skip
        refine mo_iconst (pc := 29) X dX4_mayChange_29 ?_
        refine mo_zret (pc := 30) X Y rfl ?_ dX4_mayChange_30 ⟨rfl, rfl, _, rfl, ?_⟩
        · omega
        exact ⟨by omega, rfl⟩
      · skip
        refine mo_iconst (pc := 25) X dX4_mayChange_25 ?_
        refine mo_goto (pc := 26) (tgt := 30) X dX4_mayChange_26 (by decide) ?_
        refine mo_zret (pc := 30) X Y rfl ?_ dX4_mayChange_30 ⟨rfl, rfl, _, rfl, ?_⟩
        · omega
        exact ⟨by omega, rfl⟩
set_option maxHeartbeats 4000000 in
set_option maxRecDepth 100000 in
theorem ct4_reasonAgainst {lf : Launch} {ρf : mo_E} {G : mo_G} {M : mo_M} {t : Nat} {x : Nat} (hx : mo_Ms G x) {o w q e v : Nat} {g : Nat → Int} {B : Int} (hS : mo_SR M (x + 1) g) (hI : mo_Iv g B) (hB : B ≤ 999000000) (ho : o < 8) (hw : w < 20) (hq : q < 28) (he : e < 6) (hv : v < 5) : mo_Ct lf ρf yX4_reasonAgainst cX4_reasonAgainst 7 (some .int) 4 0 0 [.ref x, mo_iv o, mo_iv w, mo_iv q, mo_iv e, mo_iv v] G M t (mo_pi G t (fun y M' => y = mo_rs g o w q e v ∧ ∀ a, (a < x + 118 ∨ x + 124 < a) → M' a = M a)) := by
  refine mo_ofW (ls0 := [some (.ref x), some (mo_iv o), some (mo_iv w), some (mo_iv q), some (mo_iv e), some (mo_iv v), none]) (by decide) rfl (Nat.le_of_ble_eq_true rfl) ?_
  intro κ X Y
  have X : mo_Cx κ lf ρf cX4_reasonAgainst 7 RX4 (some .int) 4 := X
  have hI0 := hI.1
  have hI7 := hI.2.2.2.2.2.2.2.1
  have h4 : M (x + 1) 4 = g 0 := hS.2.2.2.2.1
  refine mo_al0 (pc := 0) X dX4_reasonAgainst_0 ?_
  refine mo_f_X4_12 (pc := 1) X dX4_reasonAgainst_1 (mo_Ms_o hx) (mo_Ms_p0 hx) ?_
  refine mo_il2 (pc := 4) X dX4_reasonAgainst_4 ?_
  refine mo_cVI (pc := 5) (As := [_]) X mo_k_X4_164 mo_y_yX2_isOver rfl dX4_reasonAgainst_5 (ct2_isOver (mo_Ms_r0 hx) (by omega) (by omega)) (mo_St_o (mo_Ms_r0 hx)) rfl (by decide) (by decide) (Nat.le_of_ble_eq_true rfl) ?_
  rintro r_5 _ ⟨h_5, rfl⟩
  refine mo_if_eq (pc := 8) (tgt := 13) X dX4_reasonAgainst_8 (by decide) ?_ (fun c_8 => ?_) (fun c_8 => ?_)
  · omega
  · skip
    refine mo_al0 (pc := 13) X dX4_reasonAgainst_13 ?_
    refine mo_f_X4_26 (pc := 14) X dX4_reasonAgainst_14 (mo_Ms_o hx) (mo_Ms_p3 hx) ?_
    refine mo_al0 (pc := 17) X dX4_reasonAgainst_17 ?_
    refine mo_f_X4_12 (pc := 18) X dX4_reasonAgainst_18 (mo_Ms_o hx) (mo_Ms_p0 hx) ?_
    refine mo_il2 (pc := 21) X dX4_reasonAgainst_21 ?_
    refine mo_cVV (pc := 22) (As := [_, _]) X mo_k_X4_238 mo_y_yX3_open rfl dX4_reasonAgainst_22 (ct3_open (w := w) (mo_Ms_r3 hx) (mo_Ms_r0 hx) (by omega) hS hI (by omega) (by omega)) (mo_Bk_o (mo_Ms_r3 hx)) rfl (by decide) (by decide) (Nat.le_of_ble_eq_true rfl) ?_
    rintro M_22 ⟨h_22, f_22⟩
    have hS22 : mo_SR M_22 (x + 1) g := mo_SR_fr hS fun a h1 h2 => f_22 a (by omega)
    have h3 : M_22 (x + 1) 3 = g 7 := hS22.2.2.2.1
    refine mo_al0 (pc := 25) X dX4_reasonAgainst_25 ?_
    refine mo_f_X4_26 (pc := 26) X dX4_reasonAgainst_26 (mo_Ms_o hx) (mo_Ms_p3 hx) ?_
    refine mo_al0 (pc := 29) X dX4_reasonAgainst_29 ?_
    refine mo_f_X4_12 (pc := 30) X dX4_reasonAgainst_30 (mo_Ms_o hx) (mo_Ms_p0 hx) ?_
    refine mo_il1 (pc := 33) X dX4_reasonAgainst_33 ?_
    refine mo_il3 (pc := 34) X dX4_reasonAgainst_34 ?_
    refine mo_il4 (pc := 35) X dX4_reasonAgainst_35 ?_
    refine mo_il5 (pc := 37) X dX4_reasonAgainst_37 ?_
    refine mo_cVI (pc := 39) (As := [_, _, _, _, _]) X mo_k_X4_336 mo_y_yX3_conflict rfl dX4_reasonAgainst_39 (ct3_conflict (w := w) (o := o) (q := q) (e := e) (v := v) (mo_Ms_r3 hx) (mo_Ms_r0 hx) (by omega) hS22 hI (by omega) h_22 ho hq he hv (by omega)) (mo_Bk_o (mo_Ms_r3 hx)) rfl (by decide) (by decide) (Nat.le_of_ble_eq_true rfl) ?_
    rintro r_39 _ ⟨h_39, rfl⟩
    refine mo_is6 (pc := 42) X dX4_reasonAgainst_42 rfl (by decide) ?_
    refine mo_il6 (pc := 44) X dX4_reasonAgainst_44 ?_
    refine mo_if_ne (pc := 46) (tgt := 62) X dX4_reasonAgainst_46 (by decide) ?_ (fun c_46 => ?_) (fun c_46 => ?_)
    · omega
    · skip
      refine mo_il6 (pc := 62) X dX4_reasonAgainst_62 ?_
      refine mo_iret (pc := 64) X Y rfl dX4_reasonAgainst_64 ⟨rfl, rfl, _, rfl, ?_⟩
      refine ⟨?_, fun a ha => f_22 a (by omega)⟩
      rw [h_39.1]
      by_cases c : r_39 = 0
      · rw [if_neg (by omega), if_neg (by omega)]; exact c
      · rw [if_pos c]
    · skip
      refine mo_al0 (pc := 49) X dX4_reasonAgainst_49 ?_
      refine mo_f_X4_12 (pc := 50) X dX4_reasonAgainst_50 (mo_Ms_o hx) (mo_Ms_p0 hx) ?_
      refine mo_cVI (pc := 53) (As := []) X mo_k_X4_259 mo_y_yX2_isFull rfl dX4_reasonAgainst_53 (ct2_isFull (mo_Ms_r0 hx) (by omega)) (mo_St_o (mo_Ms_r0 hx)) rfl (by decide) (by decide) (Nat.le_of_ble_eq_true rfl) ?_
      rintro r_53 _ ⟨h_53, rfl⟩
      refine mo_if_eq (pc := 56) (tgt := 62) X dX4_reasonAgainst_56 (by decide) ?_ (fun c_56 => ?_) (fun c_56 => ?_)
      · omega
      · skip
        refine mo_il6 (pc := 62) X dX4_reasonAgainst_62 ?_
        refine mo_iret (pc := 64) X Y rfl dX4_reasonAgainst_64 ⟨rfl, rfl, _, rfl, ?_⟩
        refine ⟨?_, fun a ha => f_22 a (by omega)⟩
        rw [h_39.1]
        by_cases c : r_39 = 0
        · rw [if_neg (by omega), if_neg (by omega)]; exact c
        · rw [if_pos c]
      · skip
        refine mo_bipush (pc := 59) X dX4_reasonAgainst_59 (by decide) ?_
        refine mo_iret (pc := 61) X Y rfl dX4_reasonAgainst_61 ⟨rfl, rfl, _, rfl, ?_⟩
        refine ⟨?_, fun a ha => f_22 a (by omega)⟩
        rw [h_39.1, if_neg (by omega), if_pos (by omega)]
  · skip
    refine mo_iconst (pc := 11) X dX4_reasonAgainst_11 ?_
    refine mo_iret (pc := 12) X Y rfl dX4_reasonAgainst_12 ⟨rfl, rfl, _, rfl, ?_⟩
    refine ⟨?_, fun a ha => rfl⟩
    unfold mo_rs
    rw [if_pos (by omega)]
