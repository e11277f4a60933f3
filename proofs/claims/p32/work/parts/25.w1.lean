theorem mo_sh31 (k : Nat) (hk : k < 32) : (Int32.ofInt (k : Int) &&& 31).toBitVec.smod 32 = BitVec.ofNat 32 k := by
  have h : ∀ k : Fin 32, (Int32.ofInt ((k.val : Nat) : Int) &&& 31).toBitVec.smod 32 = BitVec.ofNat 32 k.val := by decide +kernel
  exact h ⟨k, hk⟩
theorem mo_bit1 (y : Int32) : decide ((y &&& Int32.ofInt 1).toInt = 1) = y.toBitVec.getLsbD 0 := by
  have e : (y &&& Int32.ofInt 1).toBitVec = (BitVec.ofBool (y.toBitVec.getLsbD 0)).setWidth 32 := by
    rw [Int32.toBitVec_and, show (Int32.ofInt 1).toBitVec = 1#32 from rfl, BitVec.and_one_eq_setWidth_ofBool_getLsbD]
  rw [← Int32.toInt_toBitVec, e]
  cases y.toBitVec.getLsbD 0 <;> decide
theorem mo_hb_bit (s : Int) {k : Nat} (hk : k < 32) : mo_hb s k = (Int32.ofInt s).toBitVec.getLsbD k := by
  unfold mo_hb mo_and mo_shr
  rw [Int32.ofInt_toInt, mo_bit1, Int32.toBitVec_shiftRight, mo_sh31 k hk, BitVec.sshiftRight', BitVec.toNat_ofNat, Nat.mod_eq_of_lt (by omega), BitVec.getLsbD_sshiftRight]
  simp [hk]
theorem mo_hb_or (a b : Int) {k : Nat} (hk : k < 32) : mo_hb (mo_or a b) k = (mo_hb a k || mo_hb b k) := by
  rw [mo_hb_bit _ hk, mo_hb_bit _ hk, mo_hb_bit _ hk]
  unfold mo_or
  rw [Int32.ofInt_toInt, Int32.toBitVec_or, BitVec.getLsbD_or]
theorem mo_hb_an (a b : Int) {k : Nat} (hk : k < 32) : mo_hb (mo_and a (mo_xor b (-1))) k = (mo_hb a k && !mo_hb b k) := by
  rw [mo_hb_bit _ hk, mo_hb_bit _ hk, mo_hb_bit _ hk]
  unfold mo_and mo_xor
  rw [Int32.ofInt_toInt, Int32.ofInt_toInt, Int32.toBitVec_and, Int32.toBitVec_xor, BitVec.getLsbD_and, BitVec.getLsbD_xor, show (Int32.ofInt (-1)).toBitVec = BitVec.allOnes 32 from by decide, BitVec.getLsbD_allOnes]
  simp [hk]
/-- the week's book: what is taken by the first n meetings -/
def mo_WB (M : mo_M) (b : Nat) (g : Nat → Int) (w : Int) (n : Nat) : Prop := (∀ j, j < 8 → M (b + 2) j = mo_dys g w n j) ∧ (∀ j, j < 6 → M (b + 4) j = mo_bsy g w n j) ∧ (∀ j, j < 6 → M (b + 6) j = mo_mny g w n j) ∧ (∀ j, j < 140 → M (b + 8) j = mo_tkn g w n j)
theorem mo_WB_fr {M M' : mo_M} {b n : Nat} {g : Nat → Int} {w : Int} (h : mo_WB M b g w n) (hf : ∀ a, b < a → a ≤ b + 8 → M' a = M a) : mo_WB M' b g w n := by
  unfold mo_WB
  rw [hf (b + 2) (by omega) (by omega), hf (b + 4) (by omega) (by omega), hf (b + 6) (by omega) (by omega), hf (b + 8) (by omega) (by omega)]
  exact h
theorem mo_WB_g {M : mo_M} {b n : Nat} {g g' : Nat → Int} {w : Int} (h : mo_WB M b g w n) (hf : ∀ k j, k < n → j < 7 → mo_fld g' k j = mo_fld g k j) : mo_WB M b g' w n := by
  obtain ⟨h1, h2, h3, h4⟩ := h
  have hs : ∀ k, k < n → mo_std g' w k = mo_std g w k := fun k hk => by unfold mo_std; rw [hf k 2 hk (by omega), hf k 6 hk (by omega)]
  refine ⟨fun j hj => ?_, fun j hj => ?_, fun j hj => ?_, fun j hj => ?_⟩
  · rw [h1 j hj]
    exact (mo_msk_congr fun k hk => ⟨by rw [hs k hk, hf k 1 hk (by omega)], by rw [hf k 3 hk (by omega)]⟩).symm
  · rw [h2 j hj]
    exact (mo_msk_congr fun k hk => ⟨by rw [hs k hk, hf k 4 hk (by omega)], by rw [hf k 3 hk (by omega)]⟩).symm
  · rw [h3 j hj]
    exact (mo_cnt_congr fun k hk => by rw [hs k hk, hf k 4 hk (by omega)]).symm
  · rw [h4 j hj]
    exact (mo_cnt_congr fun k hk => by rw [hs k hk, hf k 5 hk (by omega), hf k 3 hk (by omega)]).symm
/-- what take writes -/
def mo_tk (M : mo_M) (b : Nat) (o s e v : Nat) : mo_M := mo_ur (mo_ur (mo_ur (mo_ur M (b + 2) (va_up (M (b + 2)) o (mo_or (M (b + 2) o) (mo_shl 1 ((s : Int) / 4))))) (b + 4) (va_up (M (b + 4)) e (mo_or (M (b + 4) e) (mo_shl 1 s)))) (b + 6) (va_up (M (b + 6)) e (M (b + 6) e + 1))) (b + 8) (va_up (M (b + 8)) (28 * v + s) (M (b + 8) (28 * v + s) + 1))
theorem mo_tk_n (M : mo_M) {b o s e v a : Nat} (h : a < b + 2 ∨ b + 8 < a) : mo_tk M b o s e v a = M a := by
  unfold mo_tk
  rw [mo_ur_n (by omega), mo_ur_n (by omega), mo_ur_n (by omega), mo_ur_n (by omega)]
theorem mo_WB_no {M : mo_M} {b n : Nat} {g : Nat → Int} {w : Int} (h : mo_WB M b g w n) (hs : mo_std g w n = false) : mo_WB M b g w (n + 1) := by
  obtain ⟨h1, h2, h3, h4⟩ := h
  refine ⟨fun j hj => ?_, fun j hj => ?_, fun j hj => ?_, fun j hj => ?_⟩
  · rw [h1 j hj]; unfold mo_dys; rw [mo_msk, if_neg (by simp [hs])]
  · rw [h2 j hj]; unfold mo_bsy; rw [mo_msk, if_neg (by simp [hs])]
  · rw [h3 j hj]; unfold mo_mny; rw [mo_cnt, if_neg (by simp [hs]), Int.add_zero]
  · rw [h4 j hj]; unfold mo_tkn; rw [mo_cnt, if_neg (by simp [hs]), Int.add_zero]
theorem mo_WB_tk {M : mo_M} {b n : Nat} {g : Nat → Int} {w : Int} (h : mo_WB M b g w n) (hs : mo_std g w n = true) {o s e v : Nat} (ho : mo_fld g n 1 = o) (hs3 : mo_fld g n 3 = s) (he : mo_fld g n 4 = e) (hv : mo_fld g n 5 = v) : mo_WB (mo_tk M b o s e v) b g w (n + 1) := by
  obtain ⟨h1, h2, h3, h4⟩ := h
  refine ⟨fun j hj => ?_, fun j hj => ?_, fun j hj => ?_, fun j hj => ?_⟩
  · unfold mo_tk
    rw [mo_ur_n (by omega), mo_ur_n (by omega), mo_ur_n (by omega), mo_ur_s]
    unfold mo_dys
    rw [mo_msk]
    by_cases c : j = o
    · rw [c, mo_up_s, if_pos (by rw [hs, ho]; simp), h1 o (by omega), hs3]; rfl
    · rw [mo_up_n c, if_neg (by rw [hs, ho]; simp; omega), h1 j hj]; rfl
  · unfold mo_tk
    rw [mo_ur_n (by omega), mo_ur_n (by omega), mo_ur_s]
    unfold mo_bsy
    rw [mo_msk]
    by_cases c : j = e
    · rw [c, mo_up_s, if_pos (by rw [hs, he]; simp), h2 e (by omega), hs3]; rfl
    · rw [mo_up_n c, if_neg (by rw [hs, he]; simp; omega), h2 j hj]; rfl
  · unfold mo_tk
    rw [mo_ur_n (by omega), mo_ur_s]
    unfold mo_mny
    rw [mo_cnt]
    by_cases c : j = e
    · rw [c, mo_up_s, if_pos (by rw [hs, he]; simp), h3 e (by omega)]; rfl
    · rw [mo_up_n c, if_neg (by rw [hs, he]; simp; omega), h3 j hj, Int.add_zero]; rfl
  · unfold mo_tk
    rw [mo_ur_s]
    unfold mo_tkn
    rw [mo_cnt]
    by_cases c : j = 28 * v + s
    · rw [c, mo_up_s, if_pos (by rw [hs, hv, hs3]; simp), h4 _ (by omega)]; rfl
    · rw [mo_up_n c, if_neg (by rw [hs, hv, hs3]; simp; omega), h4 j hj, Int.add_zero]; rfl
set_option maxHeartbeats 4000000 in
set_option maxRecDepth 100000 in
theorem ct3_isIn {lf : Launch} {ρf : mo_E} {G : mo_G} {M : mo_M} {t : Nat} {s k : Int} : mo_Ct lf ρf yX3_isIn cX3_isIn 2 (some .boolean) 0 0 0 [mo_iv s, mo_iv k] G M t (mo_pi G t (fun x M' => ((x = 1 ∧ mo_hb s k = true) ∨ (x = 0 ∧ ¬ (mo_hb s k = true))) ∧ M = M')) := by
  refine mo_ofW (ls0 := [some (mo_iv s), some (mo_iv k)]) (by decide) rfl (Nat.le_of_ble_eq_true rfl) ?_
  intro κ X Y
  have X : mo_Cx κ lf ρf cX3_isIn 2 RX3 (some .boolean) 0 := X
  refine mo_il0 (pc := 0) X dX3_isIn_0 ?_
  refine mo_il1 (pc := 1) X dX3_isIn_1 ?_
  refine mo_ishr (pc := 2) X dX3_isIn_2 ?_
  refine mo_iconst (pc := 3) X dX3_isIn_3 ?_
  refine mo_iand (pc := 4) X dX3_isIn_4 ?_
  refine mo_iconst (pc := 5) X dX3_isIn_5 ?_
  refine mo_ic_ne (pc := 6) (tgt := 13) X dX3_isIn_6 (by decide) ?_ ?_ (fun c_6 => ?_) (fun c_6 => ?_)
  · exact mo_andIn _ _
  · omega
  · skip
    refine mo_iconst (pc := 13) X dX3_isIn_13 ?_
    refine mo_zret (pc := 14) X Y rfl ?_ dX3_isIn_14 ⟨rfl, rfl, _, rfl, ?_⟩
    · omega
    refine ⟨?_, rfl⟩
    unfold mo_hb
    rw [decide_eq_true_eq]
    omega
  · skip
    refine mo_iconst (pc := 9) X dX3_isIn_9 ?_
    refine mo_goto (pc := 10) (tgt := 14) X dX3_isIn_10 (by decide) ?_
    refine mo_zret (pc := 14) X Y rfl ?_ dX3_isIn_14 ⟨rfl, rfl, _, rfl, ?_⟩
    · omega
    refine ⟨?_, rfl⟩
    unfold mo_hb
    rw [decide_eq_true_eq]
    omega
set_option maxHeartbeats 4000000 in
set_option maxRecDepth 100000 in
theorem ct3_take {lf : Launch} {ρf : mo_E} {G : mo_G} {M : mo_M} {t : Nat} {b : Nat} (hb : mo_Bk G b) {o s e v : Nat} (ho : o < 8) (hs : s < 28) (he : e < 6) (hv : v < 5) : mo_Ct lf ρf yX3_take cX3_take 5 none 1 0 0 [.ref b, mo_iv o, mo_iv s, mo_iv e, mo_iv v] G M t (mo_pv G t (fun M' => M' = mo_tk M b o s e v)) := by
  refine mo_ofW (ls0 := [some (.ref b), some (mo_iv o), some (mo_iv s), some (mo_iv e), some (mo_iv v)]) (by decide) rfl (Nat.le_of_ble_eq_true rfl) ?_
  intro κ X Y
  have X : mo_Cx κ lf ρf cX3_take 5 RX3 none 1 := X
  refine mo_al0 (pc := 0) X dX3_take_0 ?_
  refine mo_f_X3_14 (pc := 1) X dX3_take_1 (mo_Bk_o hb) (mo_Bk_p0 hb) ?_
  refine mo_il1 (pc := 4) X dX3_take_4 ?_
  refine mo_iconst (pc := 5) X dX3_take_5 ?_
  refine mo_il2 (pc := 6) X dX3_take_6 ?_
  refine mo_iconst (pc := 7) X dX3_take_7 ?_
  refine mo_idiv (pc := 8) X dX3_take_8 ?_ ?_ ?_
  · omega
  · omega
  refine mo_ishl (pc := 9) X dX3_take_9 ?_
  refine mo_cVV (pc := 10) (As := [_, _]) X mo_k_X3_53 mo_y_yX1_mark rfl dX3_take_10 (ct_mark (a := b + 2) (j := o) (mo_Bk_r0 hb) rfl (by omega) (by omega) (by omega) (by omega)) (mo_Bk_r0 hb).1 rfl (by decide) (by decide) (Nat.le_of_ble_eq_true rfl) ?_
  rintro M_10 h_10
  refine mo_al0 (pc := 13) X dX3_take_13 ?_
  refine mo_f_X3_20 (pc := 14) X dX3_take_14 (mo_Bk_o hb) (mo_Bk_p1 hb) ?_
  refine mo_il3 (pc := 17) X dX3_take_17 ?_
  refine mo_iconst (pc := 18) X dX3_take_18 ?_
  refine mo_il2 (pc := 19) X dX3_take_19 ?_
  refine mo_ishl (pc := 20) X dX3_take_20 ?_
  refine mo_cVV (pc := 21) (As := [_, _]) X mo_k_X3_53 mo_y_yX1_mark rfl dX3_take_21 (ct_mark (a := b + 4) (j := e) (mo_Bk_r1 hb) rfl (by omega) (by omega) (by omega) (by omega)) (mo_Bk_r1 hb).1 rfl (by decide) (by decide) (Nat.le_of_ble_eq_true rfl) ?_
  rintro M_21 h_21
  refine mo_al0 (pc := 24) X dX3_take_24 ?_
  refine mo_f_X3_23 (pc := 25) X dX3_take_25 (mo_Bk_o hb) (mo_Bk_p2 hb) ?_
  refine mo_il3 (pc := 28) X dX3_take_28 ?_
  refine mo_iconst (pc := 29) X dX3_take_29 ?_
  refine mo_cVV (pc := 30) (As := [_, _]) X mo_k_X3_57 mo_y_yX1_add rfl dX3_take_30 (ct_add (a := b + 6) (j := e) (mo_Bk_r2 hb) rfl (by omega) (by omega) (by omega) (by omega)) (mo_Bk_r2 hb).1 rfl (by decide) (by decide) (Nat.le_of_ble_eq_true rfl) ?_
  rintro M_30 h_30
  refine mo_al0 (pc := 33) X dX3_take_33 ?_
  refine mo_f_X3_26 (pc := 34) X dX3_take_34 (mo_Bk_o hb) (mo_Bk_p3 hb) ?_
  refine mo_il4 (pc := 37) X dX3_take_37 ?_
  refine mo_bipush (pc := 39) X dX3_take_39 (by decide) ?_
  refine mo_imul (pc := 41) X dX3_take_41 ?_
  refine mo_il2 (pc := 42) X dX3_take_42 ?_
  refine mo_iadd (pc := 43) X dX3_take_43 ?_
  refine mo_iconst (pc := 44) X dX3_take_44 ?_
  refine mo_cVV (pc := 45) (As := [_, _]) X mo_k_X3_57 mo_y_yX1_add rfl dX3_take_45 (ct_add (a := b + 8) (j := 28 * v + s) (mo_Bk_r3 hb) rfl (by omega) (by omega) (by omega) (by omega)) (mo_Bk_r3 hb).1 rfl (by decide) (by decide) (Nat.le_of_ble_eq_true rfl) ?_
  rintro M_45 h_45
  refine mo_vret (pc := 48) X Y rfl dX3_take_48 ⟨rfl, rfl, rfl, ?_⟩
  unfold mo_tk
  rw [h_45, h_30, h_21, h_10]
  rw [mo_ur_n (show b + 4 ≠ b + 2 by omega), mo_ur_n (show b + 6 ≠ b + 4 by omega), mo_ur_n (show b + 6 ≠ b + 2 by omega), mo_ur_n (show b + 8 ≠ b + 6 by omega), mo_ur_n (show b + 8 ≠ b + 4 by omega), mo_ur_n (show b + 8 ≠ b + 2 by omega)]
set_option maxHeartbeats 4000000 in
set_option maxRecDepth 100000 in
theorem ct3_open {lf : Launch} {ρf : mo_E} {G : mo_G} {M : mo_M} {t : Nat} {b h : Nat} (hb : mo_Bk G b) (hs : mo_St G h) (hbh : b + 10 < h ∨ h + 18 < b) {g : Nat → Int} {B : Int} (hS : mo_SR M h g) (hI : mo_Iv g B) (hB : B ≤ 1000000000) {w : Int} (hw : mo_In w) : mo_Ct lf ρf yX3_open cX3_open 4 none 3 0 0 [.ref b, .ref h, mo_iv w] G M t (mo_pv G t (fun M' => mo_WB M' b g w (mo_nk g) ∧ ∀ a, a < b + 2 ∨ b + 8 < a → M' a = M a)) := by
  refine mo_ofW (ls0 := [some (.ref b), some (.ref h), some (mo_iv w), none]) (by decide) rfl (Nat.le_of_ble_eq_true rfl) ?_
  intro κ X Y
  have X : mo_Cx κ lf ρf cX3_open 4 RX3 none 3 := X
  obtain ⟨s0, s1, s2, s3, s4, s5, sH, sA, sE, sM, sS, sL, sW, sRo, sF⟩ := id hS
  obtain ⟨hI0, hI1, hI2, hI3, hI4, hI5, hI6, hI7, hIh, hIa, hIe, hIm, hIs, hIl, hIw, hIr, hIt, hIs2, hIs3, hIz⟩ := id hI
  have hn : ((mo_nk g : Nat) : Int) = g 7 := by unfold mo_nk; omega
  obtain ⟨n, hn2⟩ : ∃ n, mo_nk g = n := ⟨_, rfl⟩
  rw [hn2] at hn
  have lp1 : ∀ (z i : Nat) (x : Int) (M1 : mo_M), i + z = n → x = i → mo_WB M1 b g w i → (∀ a, a < b + 2 ∨ b + 8 < a → M1 a = M a) → mo_V κ 0 0 30 [some (.ref b), some (.ref h), some (mo_iv w), some (mo_iv x)] [] G M1 t := by
    intro z
    induction z with
    | zero =>
      intro i x M1 hi hx hW hf
      subst hx
      have hS1 : mo_SR M1 h g := mo_SR_fr hS fun a h1 h2 => hf a (by omega)
      refine mo_il3 (pc := 30) X dX3_open_30 ?_
      refine mo_al1 (pc := 31) X dX3_open_31 ?_
      refine mo_f_X3_35 (pc := 32) X dX3_open_32 (mo_St_o hs) ?_
      rw [hS1.2.2.2.1, ← hn]
      refine mo_ic_ge (pc := 35) (tgt := 81) X dX3_open_35 (by decide) ?_ ?_ (fun c_35 => ?_) (fun c_35 => ?_)
      · omega
      · omega
      · skip
        refine mo_vret (pc := 81) X Y rfl dX3_open_81 ⟨rfl, rfl, rfl, ?_⟩
        show mo_WB _ b g w (mo_nk g) ∧ _
        rw [hn2, show n = i by omega]
        exact ⟨hW, hf⟩
      · exfalso
        omega
    | succ z ih =>
      intro i x M1 hi hx hW hf
      subst hx
      have hS1 : mo_SR M1 h g := mo_SR_fr hS fun a h1 h2 => hf a (by omega)
      have hti := hIt i (by omega)
      unfold mo_Mt at hti
      obtain ⟨f1, e1⟩ : ∃ q : Nat, mo_fld g i 1 = q := ⟨(mo_fld g i 1).toNat, by omega⟩
      obtain ⟨f3, e3⟩ : ∃ q : Nat, mo_fld g i 3 = q := ⟨(mo_fld g i 3).toNat, by omega⟩
      obtain ⟨f4, e4⟩ : ∃ q : Nat, mo_fld g i 4 = q := ⟨(mo_fld g i 4).toNat, by omega⟩
      obtain ⟨f5, e5⟩ : ∃ q : Nat, mo_fld g i 5 = q := ⟨(mo_fld g i 5).toNat, by omega⟩
      refine mo_il3 (pc := 30) X dX3_open_30 ?_
      refine mo_al1 (pc := 31) X dX3_open_31 ?_
      refine mo_f_X3_35 (pc := 32) X dX3_open_32 (mo_St_o hs) ?_
      rw [hS1.2.2.2.1, ← hn]
      refine mo_ic_ge (pc := 35) (tgt := 81) X dX3_open_35 (by decide) ?_ ?_ (fun c_35 => ?_) (fun c_35 => ?_)
      · omega
      · omega
      · exfalso
        omega
      · skip
        refine mo_al1 (pc := 38) X dX3_open_38 ?_
        refine mo_il3 (pc := 39) X dX3_open_39 ?_
        refine mo_il2 (pc := 40) X dX3_open_40 ?_
        refine mo_cVI (pc := 41) (As := [_, _]) X mo_k_X3_41 mo_y_yX2_takesPlaceIn rfl dX3_open_41 (ct2_takesPlaceIn (k := i) hs hS1 hI hB (by omega) hw) (mo_St_o hs) rfl (by decide) (by decide) (Nat.le_of_ble_eq_true rfl) ?_
        rintro r_41 _ ⟨h_41, rfl⟩
        refine mo_if_eq (pc := 44) (tgt := 75) X dX3_open_44 (by decide) ?_ (fun c_44 => ?_) (fun c_44 => ?_)
        · omega
        · skip
          refine mo_ii3 (pc := 75) X dX3_open_75 rfl (by decide) ?_
          refine mo_goto (pc := 78) (tgt := 30) X dX3_open_78 (by decide) ?_
          refine ih (i + 1) _ _ (by omega) (by omega) (mo_WB_no hW ?_) hf
          exact Bool.eq_false_iff.mpr (mo_b0 h_41 c_44)
        · skip
          refine mo_al0 (pc := 47) X dX3_open_47 ?_
          refine mo_al1 (pc := 48) X dX3_open_48 ?_
          refine mo_il3 (pc := 49) X dX3_open_49 ?_
          refine mo_iconst (pc := 50) X dX3_open_50 ?_
          refine mo_cVI (pc := 51) (As := [_, _]) X mo_k_X3_45 mo_y_yX2_fact rfl dX3_open_51 (ct2_fld (g := g) (k := i) (j := 0) (q := 1) hs hS1 (by omega) (by omega) (by omega) rfl) (mo_St_o hs) rfl (by decide) (by decide) (Nat.le_of_ble_eq_true rfl) ?_
          rintro r_51 _ ⟨h_51, rfl⟩
          rw [e1] at h_51
          subst h_51
          refine mo_al1 (pc := 54) X dX3_open_54 ?_
          refine mo_il3 (pc := 55) X dX3_open_55 ?_
          refine mo_iconst (pc := 56) X dX3_open_56 ?_
          refine mo_cVI (pc := 57) (As := [_, _]) X mo_k_X3_45 mo_y_yX2_fact rfl dX3_open_57 (ct2_fld (g := g) (k := i) (j := 2) (q := 3) hs hS1 (by omega) (by omega) (by omega) rfl) (mo_St_o hs) rfl (by decide) (by decide) (Nat.le_of_ble_eq_true rfl) ?_
          rintro r_57 _ ⟨h_57, rfl⟩
          rw [e3] at h_57
          subst h_57
          refine mo_al1 (pc := 60) X dX3_open_60 ?_
          refine mo_il3 (pc := 61) X dX3_open_61 ?_
          refine mo_iconst (pc := 62) X dX3_open_62 ?_
          refine mo_cVI (pc := 63) (As := [_, _]) X mo_k_X3_45 mo_y_yX2_fact rfl dX3_open_63 (ct2_fld (g := g) (k := i) (j := 3) (q := 4) hs hS1 (by omega) (by omega) (by omega) rfl) (mo_St_o hs) rfl (by decide) (by decide) (Nat.le_of_ble_eq_true rfl) ?_
          rintro r_63 _ ⟨h_63, rfl⟩
          rw [e4] at h_63
          subst h_63
          refine mo_al1 (pc := 66) X dX3_open_66 ?_
          refine mo_il3 (pc := 67) X dX3_open_67 ?_
          refine mo_iconst (pc := 68) X dX3_open_68 ?_
          refine mo_cVI (pc := 69) (As := [_, _]) X mo_k_X3_45 mo_y_yX2_fact rfl dX3_open_69 (ct2_fld (g := g) (k := i) (j := 4) (q := 5) hs hS1 (by omega) (by omega) (by omega) rfl) (mo_St_o hs) rfl (by decide) (by decide) (Nat.le_of_ble_eq_true rfl) ?_
          rintro r_69 _ ⟨h_69, rfl⟩
          rw [e5] at h_69
          subst h_69
          refine mo_cVV (pc := 72) (As := [_, _, _, _]) X mo_k_X3_49 mo_y_yX3_take rfl dX3_open_72 (ct3_take hb (by omega) (by omega) (by omega) (by omega)) (mo_Bk_o hb) rfl (by decide) (by decide) (Nat.le_of_ble_eq_true rfl) ?_
          rintro _ rfl
          refine mo_ii3 (pc := 75) X dX3_open_75 rfl (by decide) ?_
          refine mo_goto (pc := 78) (tgt := 30) X dX3_open_78 (by decide) ?_
          exact ih (i + 1) _ _ (by omega) (by omega) (mo_WB_tk hW (mo_b1 h_41 c_44) e1 e3 e4 e5) fun a ha => by rw [mo_tk_n _ ha, hf a ha]
  refine mo_al0 (pc := 0) X dX3_open_0 ?_
  refine mo_f_X3_14 (pc := 1) X dX3_open_1 (mo_Bk_o hb) (mo_Bk_p0 hb) ?_
  refine mo_cVV (pc := 4) (As := []) X mo_k_X3_32 mo_y_yX1_clear rfl dX3_open_4 (ct_clear (a := b + 2) (mo_Bk_r0 hb) rfl (by omega)) (mo_Bk_r0 hb).1 rfl (by decide) (by decide) (Nat.le_of_ble_eq_true rfl) ?_
  rintro M_4 h_4
  refine mo_al0 (pc := 7) X dX3_open_7 ?_
  refine mo_f_X3_20 (pc := 8) X dX3_open_8 (mo_Bk_o hb) (mo_Bk_p1 hb) ?_
  refine mo_cVV (pc := 11) (As := []) X mo_k_X3_32 mo_y_yX1_clear rfl dX3_open_11 (ct_clear (a := b + 4) (mo_Bk_r1 hb) rfl (by omega)) (mo_Bk_r1 hb).1 rfl (by decide) (by decide) (Nat.le_of_ble_eq_true rfl) ?_
  rintro M_11 h_11
  refine mo_al0 (pc := 14) X dX3_open_14 ?_
  refine mo_f_X3_23 (pc := 15) X dX3_open_15 (mo_Bk_o hb) (mo_Bk_p2 hb) ?_
  refine mo_cVV (pc := 18) (As := []) X mo_k_X3_32 mo_y_yX1_clear rfl dX3_open_18 (ct_clear (a := b + 6) (mo_Bk_r2 hb) rfl (by omega)) (mo_Bk_r2 hb).1 rfl (by decide) (by decide) (Nat.le_of_ble_eq_true rfl) ?_
  rintro M_18 h_18
  refine mo_al0 (pc := 21) X dX3_open_21 ?_
  refine mo_f_X3_26 (pc := 22) X dX3_open_22 (mo_Bk_o hb) (mo_Bk_p3 hb) ?_
  refine mo_cVV (pc := 25) (As := []) X mo_k_X3_32 mo_y_yX1_clear rfl dX3_open_25 (ct_clear (a := b + 8) (mo_Bk_r3 hb) rfl (by omega)) (mo_Bk_r3 hb).1 rfl (by decide) (by decide) (Nat.le_of_ble_eq_true rfl) ?_
  rintro M_25 h_25
  refine mo_iconst (pc := 28) X dX3_open_28 ?_
  refine mo_is3 (pc := 29) X dX3_open_29 rfl (by decide) ?_
  refine lp1 n 0 0 M_25 (by omega) rfl ⟨fun j hj => ?_, fun j hj => ?_, fun j hj => ?_, fun j hj => ?_⟩ fun a ha => by rw [h_25, mo_ur_n (by omega), h_18, mo_ur_n (by omega), h_11, mo_ur_n (by omega), h_4, mo_ur_n (by omega)]
  · rw [h_25, mo_ur_n (by omega), h_18, mo_ur_n (by omega), h_11, mo_ur_n (by omega), h_4, mo_ur_s]; unfold mo_clr; rw [if_pos (by omega)]; rfl
  · rw [h_25, mo_ur_n (by omega), h_18, mo_ur_n (by omega), h_11, mo_ur_s]; unfold mo_clr; rw [if_pos (by omega)]; rfl
  · rw [h_25, mo_ur_n (by omega), h_18, mo_ur_s]; unfold mo_clr; rw [if_pos (by omega)]; rfl
  · rw [h_25, mo_ur_s]; unfold mo_clr; rw [if_pos (by omega)]; rfl
