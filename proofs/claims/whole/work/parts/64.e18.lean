theorem mo_i2lB {κ : mo_T} {lf : Launch} {ρf : mo_E} {cc : ByteArray} {nL : Nat} {own : String} {ret : Option FieldType} {d k n pc : Nat} {ls : List (Option Value)} {st : List Value} {G : mo_G} {M : mo_M} {t : Nat} (X : mo_Cx κ lf ρf cc nL own ret d) {x : Int} (hd : decode cc pc = .ok (.i2l, 1)) (kk : mo_V κ k n (pc + 1) ls (mo_jv (x.bmod (2 ^ 32)) :: st) G M t) : mo_V κ k n pc ls (mo_iv x :: st) G M t := by
  obtain ⟨⟨p, l, e, R, s⟩, ⟨m, args, below, meth, c⟩, Q, ρ⟩ := κ
  obtain ⟨hx, hb, hml, hown, hts, hK, hlk, hrt, hb0, hRf, hRl, hlf, hρ⟩ := X
  intro H locs lr ht hR hS hl
  have h9 : mo_In (x.bmod (2 ^ 32)) := by
    have h8 := mo_ri (Int32.ofInt x)
    rw [Int32.toInt_ofInt] at h8
    exact h8
  exact lv_i2l hx hb hd (by rw [← Int64.toInt_inj, Int32.toInt_toInt64, Int32.toInt_ofInt, mo_tl (by omega)]) (kk H locs lr ht hR hS hl)
set_option maxHeartbeats 4000000 in
set_option maxRecDepth 100000 in
theorem ctL_addOrder {lf : Launch} {ρf : mo_E} {G : mo_G} {M : mo_M} {t : Nat} {x out : Nat} {a0 a1 : Int} {val : Int} {post : Option Value → mo_G → mo_M → Nat → Prop} {postX : String → mo_G → mo_M → Nat → Prop} (hx0 : G.1 x = some (.inl 4)) (hC : mo_Cv lf ρf yX4_addOrder cX4_addOrder 3 (some .int) 6 1 6 [.ref x, mo_iv a0, mo_iv a1] G M t post postX) (hp : ∀ v G' M' t', post v G' M' t' → v = some (mo_iv val) ∧ G'.1 out = some (.inr (1, 1))) (hX : ∀ E G' M' t', postX E G' M' t' → E = mo_IAE ∨ E = mo_ISE) : mo_CtH lf ρf yL_addOrder cL_addOrder 5 (some .int) [(0, 10, 13, 13), (0, 10, 17, 15)] 7 1 6 [.ref x, mo_iv a0, mo_iv a1, .ref out] G M t (fun w G' M' t' => ∃ k : Int, w = some (mo_iv k) ∧ ((k = 0 ∧ ∃ M1, post (some (mo_iv val)) G' M1 t' ∧ M' = mo_ur M1 out (va_up (M1 out) 0 (val.bmod (2 ^ 32)))) ∨ ∃ E, postX E G' M' t' ∧ ((E = mo_IAE ∧ k = 1) ∨ (E = mo_ISE ∧ k = 2)))) := by
  refine mo_ofWH (ls0 := [some (.ref x), some (mo_iv a0), some (mo_iv a1), some (.ref out), none]) (by decide) rfl (Nat.le_of_ble_eq_true rfl) ?_
  intro κ X Y Z hRm
  have X : mo_Cx κ lf ρf cL_addOrder 5 RL (some .int) 7 := X
  have hrm : mo_Rm κ (0 + 1) (0 + 6) := ⟨by rw [hRm]; exact Nat.le_refl _, by rw [hRm]; exact Nat.le_refl _⟩
  refine mo_al3 (pc := 0) X dL_addOrder_0 ?_
  refine mo_iconst (pc := 1) X dL_addOrder_1 ?_
  refine mo_al0 (pc := 2) X dL_addOrder_2 ?_
  refine mo_il1 (pc := 3) X dL_addOrder_3 ?_
  refine mo_il2 (pc := 4) X dL_addOrder_4 ?_
  refine mo_callVx (pc := 5) (As := [_, _]) X Z mo_k_L_7 mo_y_yX4_addOrder rfl dL_addOrder_5 hC hx0 rfl (by decide) (by decide) (Nat.le_of_ble_eq_true rfl) hrm ?_ ?_
  · rintro v G1 M1 t1 hpp
    obtain ⟨rfl, hgo⟩ := hp _ _ _ _ hpp
    show mo_V κ 1 6 8 _ (mo_iv val :: _) _ _ _
    refine mo_i2lB (pc := 8) X dL_addOrder_8 ?_
    refine mo_last (pc := 9) (j := 0) X dL_addOrder_9 hgo (by omega) ?_ ?_ rfl ?_
    · omega
    · omega
    refine mo_goto (pc := 10) (tgt := 21) X dL_addOrder_10 (by decide) ?_
    refine mo_iconst (pc := 21) X dL_addOrder_21 ?_
    refine mo_iret (pc := 22) X Y rfl dL_addOrder_22 ?_
    exact ⟨_, rfl, Or.inl ⟨rfl, M1, hpp, rfl⟩⟩
  · rintro E G1 M1 t1 hpp
    rcases hX _ _ _ _ hpp with rfl | rfl
    · refine mo_catch (pc := 5) X Z [] ⟨0, 10, 13, 13⟩ [⟨0, 10, 17, 15⟩] rfl (fun z hz => nomatch hz) (by decide) (by decide) mo_wq_L_13 mo_bad_m.2.1 (fun q => ?_)
      show mo_V κ 1 6 13 _ _ _ _ _
      refine mo_as4 (pc := 13) X dL_addOrder_13 rfl (by decide) ?_
      refine mo_iconst (pc := 15) X dL_addOrder_15 ?_
      refine mo_iret (pc := 16) X Y rfl dL_addOrder_16 ?_
      exact ⟨_, rfl, Or.inr ⟨_, hpp, Or.inl ⟨rfl, rfl⟩⟩⟩
    · refine mo_catch (pc := 5) X Z [⟨0, 10, 13, 13⟩] ⟨0, 10, 17, 15⟩ [] rfl (fun z hz => by
        simp only [List.mem_cons, List.not_mem_nil, or_false] at hz
        subst hz
        exact ⟨by decide, mo_IAE, mo_wq_L_13, fun U h => h.2.2⟩) (by decide) (by decide) mo_wq_L_15 mo_bad_m.2.2 (fun q => ?_)
      show mo_V κ 1 6 17 _ _ _ _ _
      refine mo_as4 (pc := 17) X dL_addOrder_17 rfl (by decide) ?_
      refine mo_iconst (pc := 19) X dL_addOrder_19 ?_
      refine mo_iret (pc := 20) X Y rfl dL_addOrder_20 ?_
      exact ⟨_, rfl, Or.inr ⟨_, hpp, Or.inr (⟨rfl, rfl⟩)⟩⟩
set_option maxHeartbeats 4000000 in
set_option maxRecDepth 100000 in
theorem ctL_change {lf : Launch} {ρf : mo_E} {G : mo_G} {M : mo_M} {t : Nat} {x out : Nat} {a0 a1 a2 : Int} {val : Int} {post : Option Value → mo_G → mo_M → Nat → Prop} {postX : String → mo_G → mo_M → Nat → Prop} (hx0 : G.1 x = some (.inl 4)) (hC : mo_Cv lf ρf yX4_change cX4_change 5 (some .int) 6 1 6 [.ref x, mo_iv a0, mo_iv a1, mo_iv a2] G M t post postX) (hp : ∀ v G' M' t', post v G' M' t' → v = some (mo_iv val) ∧ G'.1 out = some (.inr (1, 1))) (hX : ∀ E G' M' t', postX E G' M' t' → E = mo_IOE ∨ E = mo_IAE) : mo_CtH lf ρf yL_change cL_change 6 (some .int) [(0, 12, 15, 21), (0, 12, 19, 13)] 7 1 6 [.ref x, mo_iv a0, mo_iv a1, mo_iv a2, .ref out] G M t (fun w G' M' t' => ∃ k : Int, w = some (mo_iv k) ∧ ((k = 0 ∧ ∃ M1, post (some (mo_iv val)) G' M1 t' ∧ M' = mo_ur M1 out (va_up (M1 out) 0 (val.bmod (2 ^ 32)))) ∨ ∃ E, postX E G' M' t' ∧ ((E = mo_IOE ∧ k = 1) ∨ (E = mo_IAE ∧ k = 2)))) := by
  refine mo_ofWH (ls0 := [some (.ref x), some (mo_iv a0), some (mo_iv a1), some (mo_iv a2), some (.ref out), none]) (by decide) rfl (Nat.le_of_ble_eq_true rfl) ?_
  intro κ X Y Z hRm
  have X : mo_Cx κ lf ρf cL_change 6 RL (some .int) 7 := X
  have hrm : mo_Rm κ (0 + 1) (0 + 6) := ⟨by rw [hRm]; exact Nat.le_refl _, by rw [hRm]; exact Nat.le_refl _⟩
  refine mo_al4 (pc := 0) X dL_change_0 ?_
  refine mo_iconst (pc := 2) X dL_change_2 ?_
  refine mo_al0 (pc := 3) X dL_change_3 ?_
  refine mo_il1 (pc := 4) X dL_change_4 ?_
  refine mo_il2 (pc := 5) X dL_change_5 ?_
  refine mo_il3 (pc := 6) X dL_change_6 ?_
  refine mo_callVx (pc := 7) (As := [_, _, _]) X Z mo_k_L_17 mo_y_yX4_change rfl dL_change_7 hC hx0 rfl (by decide) (by decide) (Nat.le_of_ble_eq_true rfl) hrm ?_ ?_
  · rintro v G1 M1 t1 hpp
    obtain ⟨rfl, hgo⟩ := hp _ _ _ _ hpp
    show mo_V κ 1 6 10 _ (mo_iv val :: _) _ _ _
    refine mo_i2lB (pc := 10) X dL_change_10 ?_
    refine mo_last (pc := 11) (j := 0) X dL_change_11 hgo (by omega) ?_ ?_ rfl ?_
    · omega
    · omega
    refine mo_goto (pc := 12) (tgt := 23) X dL_change_12 (by decide) ?_
    refine mo_iconst (pc := 23) X dL_change_23 ?_
    refine mo_iret (pc := 24) X Y rfl dL_change_24 ?_
    exact ⟨_, rfl, Or.inl ⟨rfl, M1, hpp, rfl⟩⟩
  · rintro E G1 M1 t1 hpp
    rcases hX _ _ _ _ hpp with rfl | rfl
    · refine mo_catch (pc := 7) X Z [] ⟨0, 12, 15, 21⟩ [⟨0, 12, 19, 13⟩] rfl (fun z hz => nomatch hz) (by decide) (by decide) mo_wq_L_21 mo_bad_m.1 (fun q => ?_)
      show mo_V κ 1 6 15 _ _ _ _ _
      refine mo_as5 (pc := 15) X dL_change_15 rfl (by decide) ?_
      refine mo_iconst (pc := 17) X dL_change_17 ?_
      refine mo_iret (pc := 18) X Y rfl dL_change_18 ?_
      exact ⟨_, rfl, Or.inr ⟨_, hpp, Or.inl ⟨rfl, rfl⟩⟩⟩
    · refine mo_catch (pc := 7) X Z [⟨0, 12, 15, 21⟩] ⟨0, 12, 19, 13⟩ [] rfl (fun z hz => by
        simp only [List.mem_cons, List.not_mem_nil, or_false] at hz
        subst hz
        exact ⟨by decide, mo_IOE, mo_wq_L_21, fun U h => h.1⟩) (by decide) (by decide) mo_wq_L_13 mo_bad_m.2.1 (fun q => ?_)
      show mo_V κ 1 6 19 _ _ _ _ _
      refine mo_as5 (pc := 19) X dL_change_19 rfl (by decide) ?_
      refine mo_iconst (pc := 21) X dL_change_21 ?_
      refine mo_iret (pc := 22) X Y rfl dL_change_22 ?_
      exact ⟨_, rfl, Or.inr ⟨_, hpp, Or.inr (⟨rfl, rfl⟩)⟩⟩
set_option maxHeartbeats 4000000 in
set_option maxRecDepth 100000 in
theorem ctL_allow {lf : Launch} {ρf : mo_E} {G : mo_G} {M : mo_M} {t : Nat} {x out : Nat} {a0 a1 : Int} {val : Int} {post : Option Value → mo_G → mo_M → Nat → Prop} {postX : String → mo_G → mo_M → Nat → Prop} (hx0 : G.1 x = some (.inl 4)) (hC : mo_Cv lf ρf yX4_allow cX4_allow 4 (some .int) 6 1 6 [.ref x, mo_iv a0, mo_iv a1] G M t post postX) (hp : ∀ v G' M' t', post v G' M' t' → v = some (mo_iv val) ∧ G'.1 out = some (.inr (1, 1))) (hX : ∀ E G' M' t', postX E G' M' t' → E = mo_IOE ∨ E = mo_IAE) : mo_CtH lf ρf yL_allow cL_allow 5 (some .int) [(0, 10, 13, 21), (0, 10, 17, 13)] 7 1 6 [.ref x, mo_iv a0, mo_iv a1, .ref out] G M t (fun w G' M' t' => ∃ k : Int, w = some (mo_iv k) ∧ ((k = 0 ∧ ∃ M1, post (some (mo_iv val)) G' M1 t' ∧ M' = mo_ur M1 out (va_up (M1 out) 0 (val.bmod (2 ^ 32)))) ∨ ∃ E, postX E G' M' t' ∧ ((E = mo_IOE ∧ k = 1) ∨ (E = mo_IAE ∧ k = 2)))) := by
  refine mo_ofWH (ls0 := [some (.ref x), some (mo_iv a0), some (mo_iv a1), some (.ref out), none]) (by decide) rfl (Nat.le_of_ble_eq_true rfl) ?_
  intro κ X Y Z hRm
  have X : mo_Cx κ lf ρf cL_allow 5 RL (some .int) 7 := X
  have hrm : mo_Rm κ (0 + 1) (0 + 6) := ⟨by rw [hRm]; exact Nat.le_refl _, by rw [hRm]; exact Nat.le_refl _⟩
  refine mo_al3 (pc := 0) X dL_allow_0 ?_
  refine mo_iconst (pc := 1) X dL_allow_1 ?_
  refine mo_al0 (pc := 2) X dL_allow_2 ?_
  refine mo_il1 (pc := 3) X dL_allow_3 ?_
  refine mo_il2 (pc := 4) X dL_allow_4 ?_
  refine mo_callVx (pc := 5) (As := [_, _]) X Z mo_k_L_23 mo_y_yX4_allow rfl dL_allow_5 hC hx0 rfl (by decide) (by decide) (Nat.le_of_ble_eq_true rfl) hrm ?_ ?_
  · rintro v G1 M1 t1 hpp
    obtain ⟨rfl, hgo⟩ := hp _ _ _ _ hpp
    show mo_V κ 1 6 8 _ (mo_iv val :: _) _ _ _
    refine mo_i2lB (pc := 8) X dL_allow_8 ?_
    refine mo_last (pc := 9) (j := 0) X dL_allow_9 hgo (by omega) ?_ ?_ rfl ?_
    · omega
    · omega
    refine mo_goto (pc := 10) (tgt := 21) X dL_allow_10 (by decide) ?_
    refine mo_iconst (pc := 21) X dL_allow_21 ?_
    refine mo_iret (pc := 22) X Y rfl dL_allow_22 ?_
    exact ⟨_, rfl, Or.inl ⟨rfl, M1, hpp, rfl⟩⟩
  · rintro E G1 M1 t1 hpp
    rcases hX _ _ _ _ hpp with rfl | rfl
    · refine mo_catch (pc := 5) X Z [] ⟨0, 10, 13, 21⟩ [⟨0, 10, 17, 13⟩] rfl (fun z hz => nomatch hz) (by decide) (by decide) mo_wq_L_21 mo_bad_m.1 (fun q => ?_)
      show mo_V κ 1 6 13 _ _ _ _ _
      refine mo_as4 (pc := 13) X dL_allow_13 rfl (by decide) ?_
      refine mo_iconst (pc := 15) X dL_allow_15 ?_
      refine mo_iret (pc := 16) X Y rfl dL_allow_16 ?_
      exact ⟨_, rfl, Or.inr ⟨_, hpp, Or.inl ⟨rfl, rfl⟩⟩⟩
    · refine mo_catch (pc := 5) X Z [⟨0, 10, 13, 21⟩] ⟨0, 10, 17, 13⟩ [] rfl (fun z hz => by
        simp only [List.mem_cons, List.not_mem_nil, or_false] at hz
        subst hz
        exact ⟨by decide, mo_IOE, mo_wq_L_21, fun U h => h.1⟩) (by decide) (by decide) mo_wq_L_13 mo_bad_m.2.1 (fun q => ?_)
      show mo_V κ 1 6 17 _ _ _ _ _
      refine mo_as4 (pc := 17) X dL_allow_17 rfl (by decide) ?_
      refine mo_iconst (pc := 19) X dL_allow_19 ?_
      refine mo_iret (pc := 20) X Y rfl dL_allow_20 ?_
      exact ⟨_, rfl, Or.inr ⟨_, hpp, Or.inr (⟨rfl, rfl⟩)⟩⟩
set_option maxHeartbeats 4000000 in
set_option maxRecDepth 100000 in
theorem ctL_addEscort {lf : Launch} {ρf : mo_E} {G : mo_G} {M : mo_M} {t : Nat} {x out : Nat} {a0 a1 : Int} {val : Int} {post : Option Value → mo_G → mo_M → Nat → Prop} {postX : String → mo_G → mo_M → Nat → Prop} (hx0 : G.1 x = some (.inl 4)) (hC : mo_Cv lf ρf yX4_addEscort cX4_addEscort 3 (some .int) 6 1 6 [.ref x, mo_iv a0, mo_iv a1] G M t post postX) (hp : ∀ v G' M' t', post v G' M' t' → v = some (mo_iv val) ∧ G'.1 out = some (.inr (1, 1))) (hX : ∀ E G' M' t', postX E G' M' t' → E = mo_IAE ∨ E = mo_ISE) : mo_CtH lf ρf yL_addEscort cL_addEscort 5 (some .int) [(0, 10, 13, 13), (0, 10, 17, 15)] 7 1 6 [.ref x, mo_iv a0, mo_iv a1, .ref out] G M t (fun w G' M' t' => ∃ k : Int, w = some (mo_iv k) ∧ ((k = 0 ∧ ∃ M1, post (some (mo_iv val)) G' M1 t' ∧ M' = mo_ur M1 out (va_up (M1 out) 0 (val.bmod (2 ^ 32)))) ∨ ∃ E, postX E G' M' t' ∧ ((E = mo_IAE ∧ k = 1) ∨ (E = mo_ISE ∧ k = 2)))) := by
  refine mo_ofWH (ls0 := [some (.ref x), some (mo_iv a0), some (mo_iv a1), some (.ref out), none]) (by decide) rfl (Nat.le_of_ble_eq_true rfl) ?_
  intro κ X Y Z hRm
  have X : mo_Cx κ lf ρf cL_addEscort 5 RL (some .int) 7 := X
  have hrm : mo_Rm κ (0 + 1) (0 + 6) := ⟨by rw [hRm]; exact Nat.le_refl _, by rw [hRm]; exact Nat.le_refl _⟩
  refine mo_al3 (pc := 0) X dL_addEscort_0 ?_
  refine mo_iconst (pc := 1) X dL_addEscort_1 ?_
  refine mo_al0 (pc := 2) X dL_addEscort_2 ?_
  refine mo_il1 (pc := 3) X dL_addEscort_3 ?_
  refine mo_il2 (pc := 4) X dL_addEscort_4 ?_
  refine mo_callVx (pc := 5) (As := [_, _]) X Z mo_k_L_26 mo_y_yX4_addEscort rfl dL_addEscort_5 hC hx0 rfl (by decide) (by decide) (Nat.le_of_ble_eq_true rfl) hrm ?_ ?_
  · rintro v G1 M1 t1 hpp
    obtain ⟨rfl, hgo⟩ := hp _ _ _ _ hpp
    show mo_V κ 1 6 8 _ (mo_iv val :: _) _ _ _
    refine mo_i2lB (pc := 8) X dL_addEscort_8 ?_
    refine mo_last (pc := 9) (j := 0) X dL_addEscort_9 hgo (by omega) ?_ ?_ rfl ?_
    · omega
    · omega
    refine mo_goto (pc := 10) (tgt := 21) X dL_addEscort_10 (by decide) ?_
    refine mo_iconst (pc := 21) X dL_addEscort_21 ?_
    refine mo_iret (pc := 22) X Y rfl dL_addEscort_22 ?_
    exact ⟨_, rfl, Or.inl ⟨rfl, M1, hpp, rfl⟩⟩
  · rintro E G1 M1 t1 hpp
    rcases hX _ _ _ _ hpp with rfl | rfl
    · refine mo_catch (pc := 5) X Z [] ⟨0, 10, 13, 13⟩ [⟨0, 10, 17, 15⟩] rfl (fun z hz => nomatch hz) (by decide) (by decide) mo_wq_L_13 mo_bad_m.2.1 (fun q => ?_)
      show mo_V κ 1 6 13 _ _ _ _ _
      refine mo_as4 (pc := 13) X dL_addEscort_13 rfl (by decide) ?_
      refine mo_iconst (pc := 15) X dL_addEscort_15 ?_
      refine mo_iret (pc := 16) X Y rfl dL_addEscort_16 ?_
      exact ⟨_, rfl, Or.inr ⟨_, hpp, Or.inl ⟨rfl, rfl⟩⟩⟩
    · refine mo_catch (pc := 5) X Z [⟨0, 10, 13, 13⟩] ⟨0, 10, 17, 15⟩ [] rfl (fun z hz => by
        simp only [List.mem_cons, List.not_mem_nil, or_false] at hz
        subst hz
        exact ⟨by decide, mo_IAE, mo_wq_L_13, fun U h => h.2.2⟩) (by decide) (by decide) mo_wq_L_15 mo_bad_m.2.2 (fun q => ?_)
      show mo_V κ 1 6 17 _ _ _ _ _
      refine mo_as4 (pc := 17) X dL_addEscort_17 rfl (by decide) ?_
      refine mo_iconst (pc := 19) X dL_addEscort_19 ?_
      refine mo_iret (pc := 20) X Y rfl dL_addEscort_20 ?_
      exact ⟨_, rfl, Or.inr ⟨_, hpp, Or.inr (⟨rfl, rfl⟩)⟩⟩
set_option maxHeartbeats 4000000 in
set_option maxRecDepth 100000 in
theorem ctL_setSlots {lf : Launch} {ρf : mo_E} {G : mo_G} {M : mo_M} {t : Nat} {x out : Nat} {a0 a1 : Int} {val : Int} {post : Option Value → mo_G → mo_M → Nat → Prop} {postX : String → mo_G → mo_M → Nat → Prop} (hx0 : G.1 x = some (.inl 4)) (hC : mo_Cv lf ρf yX4_setSlots cX4_setSlots 4 (some .int) 6 1 6 [.ref x, mo_iv a0, mo_iv a1] G M t post postX) (hp : ∀ v G' M' t', post v G' M' t' → v = some (mo_iv val) ∧ G'.1 out = some (.inr (1, 1))) (hX : ∀ E G' M' t', postX E G' M' t' → E = mo_IOE ∨ E = mo_IAE) : mo_CtH lf ρf yL_setSlots cL_setSlots 5 (some .int) [(0, 10, 13, 21), (0, 10, 17, 13)] 7 1 6 [.ref x, mo_iv a0, mo_iv a1, .ref out] G M t (fun w G' M' t' => ∃ k : Int, w = some (mo_iv k) ∧ ((k = 0 ∧ ∃ M1, post (some (mo_iv val)) G' M1 t' ∧ M' = mo_ur M1 out (va_up (M1 out) 0 (val.bmod (2 ^ 32)))) ∨ ∃ E, postX E G' M' t' ∧ ((E = mo_IOE ∧ k = 1) ∨ (E = mo_IAE ∧ k = 2)))) := by
  refine mo_ofWH (ls0 := [some (.ref x), some (mo_iv a0), some (mo_iv a1), some (.ref out), none]) (by decide) rfl (Nat.le_of_ble_eq_true rfl) ?_
  intro κ X Y Z hRm
  have X : mo_Cx κ lf ρf cL_setSlots 5 RL (some .int) 7 := X
  have hrm : mo_Rm κ (0 + 1) (0 + 6) := ⟨by rw [hRm]; exact Nat.le_refl _, by rw [hRm]; exact Nat.le_refl _⟩
  refine mo_al3 (pc := 0) X dL_setSlots_0 ?_
  refine mo_iconst (pc := 1) X dL_setSlots_1 ?_
  refine mo_al0 (pc := 2) X dL_setSlots_2 ?_
  refine mo_il1 (pc := 3) X dL_setSlots_3 ?_
  refine mo_il2 (pc := 4) X dL_setSlots_4 ?_
  refine mo_callVx (pc := 5) (As := [_, _]) X Z mo_k_L_29 mo_y_yX4_setSlots rfl dL_setSlots_5 hC hx0 rfl (by decide) (by decide) (Nat.le_of_ble_eq_true rfl) hrm ?_ ?_
  · rintro v G1 M1 t1 hpp
    obtain ⟨rfl, hgo⟩ := hp _ _ _ _ hpp
    show mo_V κ 1 6 8 _ (mo_iv val :: _) _ _ _
    refine mo_i2lB (pc := 8) X dL_setSlots_8 ?_
    refine mo_last (pc := 9) (j := 0) X dL_setSlots_9 hgo (by omega) ?_ ?_ rfl ?_
    · omega
    · omega
    refine mo_goto (pc := 10) (tgt := 21) X dL_setSlots_10 (by decide) ?_
    refine mo_iconst (pc := 21) X dL_setSlots_21 ?_
    refine mo_iret (pc := 22) X Y rfl dL_setSlots_22 ?_
    exact ⟨_, rfl, Or.inl ⟨rfl, M1, hpp, rfl⟩⟩
  · rintro E G1 M1 t1 hpp
    rcases hX _ _ _ _ hpp with rfl | rfl
    · refine mo_catch (pc := 5) X Z [] ⟨0, 10, 13, 21⟩ [⟨0, 10, 17, 13⟩] rfl (fun z hz => nomatch hz) (by decide) (by decide) mo_wq_L_21 mo_bad_m.1 (fun q => ?_)
      show mo_V κ 1 6 13 _ _ _ _ _
      refine mo_as4 (pc := 13) X dL_setSlots_13 rfl (by decide) ?_
      refine mo_iconst (pc := 15) X dL_setSlots_15 ?_
      refine mo_iret (pc := 16) X Y rfl dL_setSlots_16 ?_
      exact ⟨_, rfl, Or.inr ⟨_, hpp, Or.inl ⟨rfl, rfl⟩⟩⟩
    · refine mo_catch (pc := 5) X Z [⟨0, 10, 13, 21⟩] ⟨0, 10, 17, 13⟩ [] rfl (fun z hz => by
        simp only [List.mem_cons, List.not_mem_nil, or_false] at hz
        subst hz
        exact ⟨by decide, mo_IOE, mo_wq_L_21, fun U h => h.1⟩) (by decide) (by decide) mo_wq_L_13 mo_bad_m.2.1 (fun q => ?_)
      show mo_V κ 1 6 17 _ _ _ _ _
      refine mo_as4 (pc := 17) X dL_setSlots_17 rfl (by decide) ?_
      refine mo_iconst (pc := 19) X dL_setSlots_19 ?_
      refine mo_iret (pc := 20) X Y rfl dL_setSlots_20 ?_
      exact ⟨_, rfl, Or.inr ⟨_, hpp, Or.inr (⟨rfl, rfl⟩)⟩⟩
set_option maxHeartbeats 4000000 in
set_option maxRecDepth 100000 in
theorem ctL_addVenue {lf : Launch} {ρf : mo_E} {G : mo_G} {M : mo_M} {t : Nat} {x out : Nat} {a0 : Int} {val : Int} {post : Option Value → mo_G → mo_M → Nat → Prop} {postX : String → mo_G → mo_M → Nat → Prop} (hx0 : G.1 x = some (.inl 4)) (hC : mo_Cv lf ρf yX4_addVenue cX4_addVenue 2 (some .int) 6 1 6 [.ref x, mo_iv a0] G M t post postX) (hp : ∀ v G' M' t', post v G' M' t' → v = some (mo_iv val) ∧ G'.1 out = some (.inr (1, 1))) (hX : ∀ E G' M' t', postX E G' M' t' → E = mo_IAE ∨ E = mo_ISE) : mo_CtH lf ρf yL_addVenue cL_addVenue 4 (some .int) [(0, 9, 12, 13), (0, 9, 15, 15)] 7 1 6 [.ref x, mo_iv a0, .ref out] G M t (fun w G' M' t' => ∃ k : Int, w = some (mo_iv k) ∧ ((k = 0 ∧ ∃ M1, post (some (mo_iv val)) G' M1 t' ∧ M' = mo_ur M1 out (va_up (M1 out) 0 (val.bmod (2 ^ 32)))) ∨ ∃ E, postX E G' M' t' ∧ ((E = mo_IAE ∧ k = 1) ∨ (E = mo_ISE ∧ k = 2)))) := by
  refine mo_ofWH (ls0 := [some (.ref x), some (mo_iv a0), some (.ref out), none]) (by decide) rfl (Nat.le_of_ble_eq_true rfl) ?_
  intro κ X Y Z hRm
  have X : mo_Cx κ lf ρf cL_addVenue 4 RL (some .int) 7 := X
  have hrm : mo_Rm κ (0 + 1) (0 + 6) := ⟨by rw [hRm]; exact Nat.le_refl _, by rw [hRm]; exact Nat.le_refl _⟩
  refine mo_al2 (pc := 0) X dL_addVenue_0 ?_
  refine mo_iconst (pc := 1) X dL_addVenue_1 ?_
  refine mo_al0 (pc := 2) X dL_addVenue_2 ?_
  refine mo_il1 (pc := 3) X dL_addVenue_3 ?_
  refine mo_callVx (pc := 4) (As := [_]) X Z mo_k_L_32 mo_y_yX4_addVenue rfl dL_addVenue_4 hC hx0 rfl (by decide) (by decide) (Nat.le_of_ble_eq_true rfl) hrm ?_ ?_
  · rintro v G1 M1 t1 hpp
    obtain ⟨rfl, hgo⟩ := hp _ _ _ _ hpp
    show mo_V κ 1 6 7 _ (mo_iv val :: _) _ _ _
    refine mo_i2lB (pc := 7) X dL_addVenue_7 ?_
    refine mo_last (pc := 8) (j := 0) X dL_addVenue_8 hgo (by omega) ?_ ?_ rfl ?_
    · omega
    · omega
    refine mo_goto (pc := 9) (tgt := 18) X dL_addVenue_9 (by decide) ?_
    refine mo_iconst (pc := 18) X dL_addVenue_18 ?_
    refine mo_iret (pc := 19) X Y rfl dL_addVenue_19 ?_
    exact ⟨_, rfl, Or.inl ⟨rfl, M1, hpp, rfl⟩⟩
  · rintro E G1 M1 t1 hpp
    rcases hX _ _ _ _ hpp with rfl | rfl
    · refine mo_catch (pc := 4) X Z [] ⟨0, 9, 12, 13⟩ [⟨0, 9, 15, 15⟩] rfl (fun z hz => nomatch hz) (by decide) (by decide) mo_wq_L_13 mo_bad_m.2.1 (fun q => ?_)
      show mo_V κ 1 6 12 _ _ _ _ _
      refine mo_as3 (pc := 12) X dL_addVenue_12 rfl (by decide) ?_
      refine mo_iconst (pc := 13) X dL_addVenue_13 ?_
      refine mo_iret (pc := 14) X Y rfl dL_addVenue_14 ?_
      exact ⟨_, rfl, Or.inr ⟨_, hpp, Or.inl ⟨rfl, rfl⟩⟩⟩
    · refine mo_catch (pc := 4) X Z [⟨0, 9, 12, 13⟩] ⟨0, 9, 15, 15⟩ [] rfl (fun z hz => by
        simp only [List.mem_cons, List.not_mem_nil, or_false] at hz
        subst hz
        exact ⟨by decide, mo_IAE, mo_wq_L_13, fun U h => h.2.2⟩) (by decide) (by decide) mo_wq_L_15 mo_bad_m.2.2 (fun q => ?_)
      show mo_V κ 1 6 15 _ _ _ _ _
      refine mo_as3 (pc := 15) X dL_addVenue_15 rfl (by decide) ?_
      refine mo_iconst (pc := 16) X dL_addVenue_16 ?_
      refine mo_iret (pc := 17) X Y rfl dL_addVenue_17 ?_
      exact ⟨_, rfl, Or.inr ⟨_, hpp, Or.inr (⟨rfl, rfl⟩)⟩⟩
set_option maxHeartbeats 4000000 in
set_option maxRecDepth 100000 in
theorem ctL_plan {lf : Launch} {ρf : mo_E} {G : mo_G} {M : mo_M} {t : Nat} {x out : Nat} {a0 a1 a2 a3 a4 : Int} {val : Int} {post : Option Value → mo_G → mo_M → Nat → Prop} {postX : String → mo_G → mo_M → Nat → Prop} (hx0 : G.1 x = some (.inl 4)) (hC : mo_Cv lf ρf yX4_plan cX4_plan 6 (some .int) 6 1 6 [.ref x, mo_iv a0, mo_iv a1, mo_iv a2, mo_iv a3, mo_iv a4] G M t post postX) (hp : ∀ v G' M' t', post v G' M' t' → v = some (mo_iv val) ∧ G'.1 out = some (.inr (1, 1))) (hX : ∀ E G' M' t', postX E G' M' t' → E = mo_IOE ∨ E = mo_IAE ∨ E = mo_ISE) : mo_CtH lf ρf yL_plan cL_plan 8 (some .int) [(0, 16, 19, 21), (0, 16, 23, 13), (0, 16, 27, 15)] 7 1 6 [.ref x, mo_iv a0, mo_iv a1, mo_iv a2, mo_iv a3, mo_iv a4, .ref out] G M t (fun w G' M' t' => ∃ k : Int, w = some (mo_iv k) ∧ ((k = 0 ∧ ∃ M1, post (some (mo_iv val)) G' M1 t' ∧ M' = mo_ur M1 out (va_up (M1 out) 0 (val.bmod (2 ^ 32)))) ∨ ∃ E, postX E G' M' t' ∧ ((E = mo_IOE ∧ k = 1) ∨ (E = mo_IAE ∧ k = 2) ∨ (E = mo_ISE ∧ k = 3)))) := by
  refine mo_ofWH (ls0 := [some (.ref x), some (mo_iv a0), some (mo_iv a1), some (mo_iv a2), some (mo_iv a3), some (mo_iv a4), some (.ref out), none]) (by decide) rfl (Nat.le_of_ble_eq_true rfl) ?_
  intro κ X Y Z hRm
  have X : mo_Cx κ lf ρf cL_plan 8 RL (some .int) 7 := X
  have hrm : mo_Rm κ (0 + 1) (0 + 6) := ⟨by rw [hRm]; exact Nat.le_refl _, by rw [hRm]; exact Nat.le_refl _⟩
  refine mo_al6 (pc := 0) X dL_plan_0 ?_
  refine mo_iconst (pc := 2) X dL_plan_2 ?_
  refine mo_al0 (pc := 3) X dL_plan_3 ?_
  refine mo_il1 (pc := 4) X dL_plan_4 ?_
  refine mo_il2 (pc := 5) X dL_plan_5 ?_
  refine mo_il3 (pc := 6) X dL_plan_6 ?_
  refine mo_il4 (pc := 7) X dL_plan_7 ?_
  refine mo_il5 (pc := 9) X dL_plan_9 ?_
  refine mo_callVx (pc := 11) (As := [_, _, _, _, _]) X Z mo_k_L_36 mo_y_yX4_plan rfl dL_plan_11 hC hx0 rfl (by decide) (by decide) (Nat.le_of_ble_eq_true rfl) hrm ?_ ?_
  · rintro v G1 M1 t1 hpp
    obtain ⟨rfl, hgo⟩ := hp _ _ _ _ hpp
    show mo_V κ 1 6 14 _ (mo_iv val :: _) _ _ _
    refine mo_i2lB (pc := 14) X dL_plan_14 ?_
    refine mo_last (pc := 15) (j := 0) X dL_plan_15 hgo (by omega) ?_ ?_ rfl ?_
    · omega
    · omega
    refine mo_goto (pc := 16) (tgt := 31) X dL_plan_16 (by decide) ?_
    refine mo_iconst (pc := 31) X dL_plan_31 ?_
    refine mo_iret (pc := 32) X Y rfl dL_plan_32 ?_
    exact ⟨_, rfl, Or.inl ⟨rfl, M1, hpp, rfl⟩⟩
  · rintro E G1 M1 t1 hpp
    rcases hX _ _ _ _ hpp with rfl | rfl | rfl
    · refine mo_catch (pc := 11) X Z [] ⟨0, 16, 19, 21⟩ [⟨0, 16, 23, 13⟩, ⟨0, 16, 27, 15⟩] rfl (fun z hz => nomatch hz) (by decide) (by decide) mo_wq_L_21 mo_bad_m.1 (fun q => ?_)
      show mo_V κ 1 6 19 _ _ _ _ _
      refine mo_as7 (pc := 19) X dL_plan_19 rfl (by decide) ?_
      refine mo_iconst (pc := 21) X dL_plan_21 ?_
      refine mo_iret (pc := 22) X Y rfl dL_plan_22 ?_
      exact ⟨_, rfl, Or.inr ⟨_, hpp, Or.inl ⟨rfl, rfl⟩⟩⟩
    · refine mo_catch (pc := 11) X Z [⟨0, 16, 19, 21⟩] ⟨0, 16, 23, 13⟩ [⟨0, 16, 27, 15⟩] rfl (fun z hz => by
        simp only [List.mem_cons, List.not_mem_nil, or_false] at hz
        subst hz
        exact ⟨by decide, mo_IOE, mo_wq_L_21, fun U h => h.1⟩) (by decide) (by decide) mo_wq_L_13 mo_bad_m.2.1 (fun q => ?_)
      show mo_V κ 1 6 23 _ _ _ _ _
      refine mo_as7 (pc := 23) X dL_plan_23 rfl (by decide) ?_
      refine mo_iconst (pc := 25) X dL_plan_25 ?_
      refine mo_iret (pc := 26) X Y rfl dL_plan_26 ?_
      exact ⟨_, rfl, Or.inr ⟨_, hpp, Or.inr (Or.inl ⟨rfl, rfl⟩)⟩⟩
    · refine mo_catch (pc := 11) X Z [⟨0, 16, 19, 21⟩, ⟨0, 16, 23, 13⟩] ⟨0, 16, 27, 15⟩ [] rfl (fun z hz => by
        simp only [List.mem_cons, List.not_mem_nil, or_false] at hz
        rcases hz with rfl | rfl
        · exact ⟨by decide, mo_IOE, mo_wq_L_21, fun U h => h.2.1⟩
        · exact ⟨by decide, mo_IAE, mo_wq_L_13, fun U h => h.2.2⟩) (by decide) (by decide) mo_wq_L_15 mo_bad_m.2.2 (fun q => ?_)
      show mo_V κ 1 6 27 _ _ _ _ _
      refine mo_as7 (pc := 27) X dL_plan_27 rfl (by decide) ?_
      refine mo_iconst (pc := 29) X dL_plan_29 ?_
      refine mo_iret (pc := 30) X Y rfl dL_plan_30 ?_
      exact ⟨_, rfl, Or.inr ⟨_, hpp, Or.inr (Or.inr (⟨rfl, rfl⟩))⟩⟩
set_option maxHeartbeats 4000000 in
set_option maxRecDepth 100000 in
theorem ctL_planWeek {lf : Launch} {ρf : mo_E} {G : mo_G} {M : mo_M} {t : Nat} {x out : Nat} {a0 : Int} {val : Int} {post : Option Value → mo_G → mo_M → Nat → Prop} {postX : String → mo_G → mo_M → Nat → Prop} (hx0 : G.1 x = some (.inl 4)) (hC : mo_Cv lf ρf yX4_planWeek cX4_planWeek 2 (some .int) 6 1 6 [.ref x, mo_iv a0] G M t post postX) (hp : ∀ v G' M' t', post v G' M' t' → v = some (mo_iv val) ∧ G'.1 out = some (.inr (1, 1))) (hX : ∀ E G' M' t', postX E G' M' t' → E = mo_IAE ∨ E = mo_ISE) : mo_CtH lf ρf yL_planWeek cL_planWeek 4 (some .int) [(0, 9, 12, 13), (0, 9, 15, 15)] 7 1 6 [.ref x, mo_iv a0, .ref out] G M t (fun w G' M' t' => ∃ k : Int, w = some (mo_iv k) ∧ ((k = 0 ∧ ∃ M1, post (some (mo_iv val)) G' M1 t' ∧ M' = mo_ur M1 out (va_up (M1 out) 0 (val.bmod (2 ^ 32)))) ∨ ∃ E, postX E G' M' t' ∧ ((E = mo_IAE ∧ k = 1) ∨ (E = mo_ISE ∧ k = 2)))) := by
  refine mo_ofWH (ls0 := [some (.ref x), some (mo_iv a0), some (.ref out), none]) (by decide) rfl (Nat.le_of_ble_eq_true rfl) ?_
  intro κ X Y Z hRm
  have X : mo_Cx κ lf ρf cL_planWeek 4 RL (some .int) 7 := X
  have hrm : mo_Rm κ (0 + 1) (0 + 6) := ⟨by rw [hRm]; exact Nat.le_refl _, by rw [hRm]; exact Nat.le_refl _⟩
  refine mo_al2 (pc := 0) X dL_planWeek_0 ?_
  refine mo_iconst (pc := 1) X dL_planWeek_1 ?_
  refine mo_al0 (pc := 2) X dL_planWeek_2 ?_
  refine mo_il1 (pc := 3) X dL_planWeek_3 ?_
  refine mo_callVx (pc := 4) (As := [_]) X Z mo_k_L_40 mo_y_yX4_planWeek rfl dL_planWeek_4 hC hx0 rfl (by decide) (by decide) (Nat.le_of_ble_eq_true rfl) hrm ?_ ?_
  · rintro v G1 M1 t1 hpp
    obtain ⟨rfl, hgo⟩ := hp _ _ _ _ hpp
    show mo_V κ 1 6 7 _ (mo_iv val :: _) _ _ _
    refine mo_i2lB (pc := 7) X dL_planWeek_7 ?_
    refine mo_last (pc := 8) (j := 0) X dL_planWeek_8 hgo (by omega) ?_ ?_ rfl ?_
    · omega
    · omega
    refine mo_goto (pc := 9) (tgt := 18) X dL_planWeek_9 (by decide) ?_
    refine mo_iconst (pc := 18) X dL_planWeek_18 ?_
    refine mo_iret (pc := 19) X Y rfl dL_planWeek_19 ?_
    exact ⟨_, rfl, Or.inl ⟨rfl, M1, hpp, rfl⟩⟩
  · rintro E G1 M1 t1 hpp
    rcases hX _ _ _ _ hpp with rfl | rfl
    · refine mo_catch (pc := 4) X Z [] ⟨0, 9, 12, 13⟩ [⟨0, 9, 15, 15⟩] rfl (fun z hz => nomatch hz) (by decide) (by decide) mo_wq_L_13 mo_bad_m.2.1 (fun q => ?_)
      show mo_V κ 1 6 12 _ _ _ _ _
      refine mo_as3 (pc := 12) X dL_planWeek_12 rfl (by decide) ?_
      refine mo_iconst (pc := 13) X dL_planWeek_13 ?_
      refine mo_iret (pc := 14) X Y rfl dL_planWeek_14 ?_
      exact ⟨_, rfl, Or.inr ⟨_, hpp, Or.inl ⟨rfl, rfl⟩⟩⟩
    · refine mo_catch (pc := 4) X Z [⟨0, 9, 12, 13⟩] ⟨0, 9, 15, 15⟩ [] rfl (fun z hz => by
        simp only [List.mem_cons, List.not_mem_nil, or_false] at hz
        subst hz
        exact ⟨by decide, mo_IAE, mo_wq_L_13, fun U h => h.2.2⟩) (by decide) (by decide) mo_wq_L_15 mo_bad_m.2.2 (fun q => ?_)
      show mo_V κ 1 6 15 _ _ _ _ _
      refine mo_as3 (pc := 15) X dL_planWeek_15 rfl (by decide) ?_
      refine mo_iconst (pc := 16) X dL_planWeek_16 ?_
      refine mo_iret (pc := 17) X Y rfl dL_planWeek_17 ?_
      exact ⟨_, rfl, Or.inr ⟨_, hpp, Or.inr (⟨rfl, rfl⟩)⟩⟩
set_option maxHeartbeats 4000000 in
set_option maxRecDepth 100000 in
theorem ctL_cancel {lf : Launch} {ρf : mo_E} {G : mo_G} {M : mo_M} {t : Nat} {x out : Nat} {a0 : Int} {val : Int} {post : Option Value → mo_G → mo_M → Nat → Prop} {postX : String → mo_G → mo_M → Nat → Prop} (hx0 : G.1 x = some (.inl 4)) (hC : mo_Cv lf ρf yX4_cancel cX4_cancel 4 (some .int) 6 1 6 [.ref x, mo_iv a0] G M t post postX) (hp : ∀ v G' M' t', post v G' M' t' → v = some (mo_iv val) ∧ G'.1 out = some (.inr (1, 1))) (hX : ∀ E G' M' t', postX E G' M' t' → E = mo_IOE ∨ E = mo_ISE) : mo_CtH lf ρf yL_cancel cL_cancel 4 (some .int) [(0, 9, 12, 21), (0, 9, 15, 15)] 7 1 6 [.ref x, mo_iv a0, .ref out] G M t (fun w G' M' t' => ∃ k : Int, w = some (mo_iv k) ∧ ((k = 0 ∧ ∃ M1, post (some (mo_iv val)) G' M1 t' ∧ M' = mo_ur M1 out (va_up (M1 out) 0 (val.bmod (2 ^ 32)))) ∨ ∃ E, postX E G' M' t' ∧ ((E = mo_IOE ∧ k = 1) ∨ (E = mo_ISE ∧ k = 2)))) := by
  refine mo_ofWH (ls0 := [some (.ref x), some (mo_iv a0), some (.ref out), none]) (by decide) rfl (Nat.le_of_ble_eq_true rfl) ?_
  intro κ X Y Z hRm
  have X : mo_Cx κ lf ρf cL_cancel 4 RL (some .int) 7 := X
  have hrm : mo_Rm κ (0 + 1) (0 + 6) := ⟨by rw [hRm]; exact Nat.le_refl _, by rw [hRm]; exact Nat.le_refl _⟩
  refine mo_al2 (pc := 0) X dL_cancel_0 ?_
  refine mo_iconst (pc := 1) X dL_cancel_1 ?_
  refine mo_al0 (pc := 2) X dL_cancel_2 ?_
  refine mo_il1 (pc := 3) X dL_cancel_3 ?_
  refine mo_callVx (pc := 4) (As := [_]) X Z mo_k_L_43 mo_y_yX4_cancel rfl dL_cancel_4 hC hx0 rfl (by decide) (by decide) (Nat.le_of_ble_eq_true rfl) hrm ?_ ?_
  · rintro v G1 M1 t1 hpp
    obtain ⟨rfl, hgo⟩ := hp _ _ _ _ hpp
    show mo_V κ 1 6 7 _ (mo_iv val :: _) _ _ _
    refine mo_i2lB (pc := 7) X dL_cancel_7 ?_
    refine mo_last (pc := 8) (j := 0) X dL_cancel_8 hgo (by omega) ?_ ?_ rfl ?_
    · omega
    · omega
    refine mo_goto (pc := 9) (tgt := 18) X dL_cancel_9 (by decide) ?_
    refine mo_iconst (pc := 18) X dL_cancel_18 ?_
    refine mo_iret (pc := 19) X Y rfl dL_cancel_19 ?_
    exact ⟨_, rfl, Or.inl ⟨rfl, M1, hpp, rfl⟩⟩
  · rintro E G1 M1 t1 hpp
    rcases hX _ _ _ _ hpp with rfl | rfl
    · refine mo_catch (pc := 4) X Z [] ⟨0, 9, 12, 21⟩ [⟨0, 9, 15, 15⟩] rfl (fun z hz => nomatch hz) (by decide) (by decide) mo_wq_L_21 mo_bad_m.1 (fun q => ?_)
      show mo_V κ 1 6 12 _ _ _ _ _
      refine mo_as3 (pc := 12) X dL_cancel_12 rfl (by decide) ?_
      refine mo_iconst (pc := 13) X dL_cancel_13 ?_
      refine mo_iret (pc := 14) X Y rfl dL_cancel_14 ?_
      exact ⟨_, rfl, Or.inr ⟨_, hpp, Or.inl ⟨rfl, rfl⟩⟩⟩
    · refine mo_catch (pc := 4) X Z [⟨0, 9, 12, 21⟩] ⟨0, 9, 15, 15⟩ [] rfl (fun z hz => by
        simp only [List.mem_cons, List.not_mem_nil, or_false] at hz
        subst hz
        exact ⟨by decide, mo_IOE, mo_wq_L_21, fun U h => h.2.1⟩) (by decide) (by decide) mo_wq_L_15 mo_bad_m.2.2 (fun q => ?_)
      show mo_V κ 1 6 15 _ _ _ _ _
      refine mo_as3 (pc := 15) X dL_cancel_15 rfl (by decide) ?_
      refine mo_iconst (pc := 16) X dL_cancel_16 ?_
      refine mo_iret (pc := 17) X Y rfl dL_cancel_17 ?_
      exact ⟨_, rfl, Or.inr ⟨_, hpp, Or.inr (⟨rfl, rfl⟩)⟩⟩
set_option maxHeartbeats 4000000 in
set_option maxRecDepth 100000 in
theorem ctL_tell {lf : Launch} {ρf : mo_E} {G : mo_G} {M : mo_M} {t : Nat} {x out : Nat} {a0 a1 : Int} {val : Int} {post : Option Value → mo_G → mo_M → Nat → Prop} {postX : String → mo_G → mo_M → Nat → Prop} (hx0 : G.1 x = some (.inl 4)) (hC : mo_Cv lf ρf yX4_tell cX4_tell 4 (some .int) 6 1 6 [.ref x, mo_iv a0, mo_iv a1] G M t post postX) (hp : ∀ v G' M' t', post v G' M' t' → v = some (mo_iv val) ∧ G'.1 out = some (.inr (1, 1))) (hX : ∀ E G' M' t', postX E G' M' t' → E = mo_IOE ∨ E = mo_ISE) : mo_CtH lf ρf yL_tell cL_tell 5 (some .int) [(0, 10, 13, 21), (0, 10, 17, 15)] 7 1 6 [.ref x, mo_iv a0, mo_iv a1, .ref out] G M t (fun w G' M' t' => ∃ k : Int, w = some (mo_iv k) ∧ ((k = 0 ∧ ∃ M1, post (some (mo_iv val)) G' M1 t' ∧ M' = mo_ur M1 out (va_up (M1 out) 0 (val.bmod (2 ^ 32)))) ∨ ∃ E, postX E G' M' t' ∧ ((E = mo_IOE ∧ k = 1) ∨ (E = mo_ISE ∧ k = 2)))) := by
  refine mo_ofWH (ls0 := [some (.ref x), some (mo_iv a0), some (mo_iv a1), some (.ref out), none]) (by decide) rfl (Nat.le_of_ble_eq_true rfl) ?_
  intro κ X Y Z hRm
  have X : mo_Cx κ lf ρf cL_tell 5 RL (some .int) 7 := X
  have hrm : mo_Rm κ (0 + 1) (0 + 6) := ⟨by rw [hRm]; exact Nat.le_refl _, by rw [hRm]; exact Nat.le_refl _⟩
  refine mo_al3 (pc := 0) X dL_tell_0 ?_
  refine mo_iconst (pc := 1) X dL_tell_1 ?_
  refine mo_al0 (pc := 2) X dL_tell_2 ?_
  refine mo_il1 (pc := 3) X dL_tell_3 ?_
  refine mo_il2 (pc := 4) X dL_tell_4 ?_
  refine mo_callVx (pc := 5) (As := [_, _]) X Z mo_k_L_46 mo_y_yX4_tell rfl dL_tell_5 hC hx0 rfl (by decide) (by decide) (Nat.le_of_ble_eq_true rfl) hrm ?_ ?_
  · rintro v G1 M1 t1 hpp
    obtain ⟨rfl, hgo⟩ := hp _ _ _ _ hpp
    show mo_V κ 1 6 8 _ (mo_iv val :: _) _ _ _
    refine mo_i2lB (pc := 8) X dL_tell_8 ?_
    refine mo_last (pc := 9) (j := 0) X dL_tell_9 hgo (by omega) ?_ ?_ rfl ?_
    · omega
    · omega
    refine mo_goto (pc := 10) (tgt := 21) X dL_tell_10 (by decide) ?_
    refine mo_iconst (pc := 21) X dL_tell_21 ?_
    refine mo_iret (pc := 22) X Y rfl dL_tell_22 ?_
    exact ⟨_, rfl, Or.inl ⟨rfl, M1, hpp, rfl⟩⟩
  · rintro E G1 M1 t1 hpp
    rcases hX _ _ _ _ hpp with rfl | rfl
    · refine mo_catch (pc := 5) X Z [] ⟨0, 10, 13, 21⟩ [⟨0, 10, 17, 15⟩] rfl (fun z hz => nomatch hz) (by decide) (by decide) mo_wq_L_21 mo_bad_m.1 (fun q => ?_)
      show mo_V κ 1 6 13 _ _ _ _ _
      refine mo_as4 (pc := 13) X dL_tell_13 rfl (by decide) ?_
      refine mo_iconst (pc := 15) X dL_tell_15 ?_
      refine mo_iret (pc := 16) X Y rfl dL_tell_16 ?_
      exact ⟨_, rfl, Or.inr ⟨_, hpp, Or.inl ⟨rfl, rfl⟩⟩⟩
    · refine mo_catch (pc := 5) X Z [⟨0, 10, 13, 21⟩] ⟨0, 10, 17, 15⟩ [] rfl (fun z hz => by
        simp only [List.mem_cons, List.not_mem_nil, or_false] at hz
        subst hz
        exact ⟨by decide, mo_IOE, mo_wq_L_21, fun U h => h.2.1⟩) (by decide) (by decide) mo_wq_L_15 mo_bad_m.2.2 (fun q => ?_)
      show mo_V κ 1 6 17 _ _ _ _ _
      refine mo_as4 (pc := 17) X dL_tell_17 rfl (by decide) ?_
      refine mo_iconst (pc := 19) X dL_tell_19 ?_
      refine mo_iret (pc := 20) X Y rfl dL_tell_20 ?_
      exact ⟨_, rfl, Or.inr ⟨_, hpp, Or.inr (⟨rfl, rfl⟩)⟩⟩
set_option maxHeartbeats 4000000 in
set_option maxRecDepth 100000 in
theorem ctL_endWeek {lf : Launch} {ρf : mo_E} {G : mo_G} {M : mo_M} {t : Nat} {x out : Nat} {val : Int} {post : Option Value → mo_G → mo_M → Nat → Prop} {postX : String → mo_G → mo_M → Nat → Prop} (hx0 : G.1 x = some (.inl 4)) (hC : mo_Cv lf ρf yX4_endWeek cX4_endWeek 2 (some .int) 6 1 6 [.ref x] G M t post postX) (hp : ∀ v G' M' t', post v G' M' t' → v = some (mo_iv val) ∧ G'.1 out = some (.inr (1, 1))) (hX : ∀ E G' M' t', postX E G' M' t' → E = mo_ISE) : mo_CtH lf ρf yL_endWeek cL_endWeek 3 (some .int) [(0, 8, 11, 15)] 7 1 6 [.ref x, .ref out] G M t (fun w G' M' t' => ∃ k : Int, w = some (mo_iv k) ∧ ((k = 0 ∧ ∃ M1, post (some (mo_iv val)) G' M1 t' ∧ M' = mo_ur M1 out (va_up (M1 out) 0 (val.bmod (2 ^ 32)))) ∨ ∃ E, postX E G' M' t' ∧ ((E = mo_ISE ∧ k = 1)))) := by
  refine mo_ofWH (ls0 := [some (.ref x), some (.ref out), none]) (by decide) rfl (Nat.le_of_ble_eq_true rfl) ?_
  intro κ X Y Z hRm
  have X : mo_Cx κ lf ρf cL_endWeek 3 RL (some .int) 7 := X
  have hrm : mo_Rm κ (0 + 1) (0 + 6) := ⟨by rw [hRm]; exact Nat.le_refl _, by rw [hRm]; exact Nat.le_refl _⟩
  refine mo_al1 (pc := 0) X dL_endWeek_0 ?_
  refine mo_iconst (pc := 1) X dL_endWeek_1 ?_
  refine mo_al0 (pc := 2) X dL_endWeek_2 ?_
  refine mo_callVx (pc := 3) (As := []) X Z mo_k_L_50 mo_y_yX4_endWeek rfl dL_endWeek_3 hC hx0 rfl (by decide) (by decide) (Nat.le_of_ble_eq_true rfl) hrm ?_ ?_
  · rintro v G1 M1 t1 hpp
    obtain ⟨rfl, hgo⟩ := hp _ _ _ _ hpp
    show mo_V κ 1 6 6 _ (mo_iv val :: _) _ _ _
    refine mo_i2lB (pc := 6) X dL_endWeek_6 ?_
    refine mo_last (pc := 7) (j := 0) X dL_endWeek_7 hgo (by omega) ?_ ?_ rfl ?_
    · omega
    · omega
    refine mo_goto (pc := 8) (tgt := 14) X dL_endWeek_8 (by decide) ?_
    refine mo_iconst (pc := 14) X dL_endWeek_14 ?_
    refine mo_iret (pc := 15) X Y rfl dL_endWeek_15 ?_
    exact ⟨_, rfl, Or.inl ⟨rfl, M1, hpp, rfl⟩⟩
  · rintro E G1 M1 t1 hpp
    rcases hX _ _ _ _ hpp with rfl
    · refine mo_catch (pc := 3) X Z [] ⟨0, 8, 11, 15⟩ [] rfl (fun z hz => nomatch hz) (by decide) (by decide) mo_wq_L_15 mo_bad_m.2.2 (fun q => ?_)
      show mo_V κ 1 6 11 _ _ _ _ _
      refine mo_as2 (pc := 11) X dL_endWeek_11 rfl (by decide) ?_
      refine mo_iconst (pc := 12) X dL_endWeek_12 ?_
      refine mo_iret (pc := 13) X Y rfl dL_endWeek_13 ?_
      exact ⟨_, rfl, Or.inr ⟨_, hpp, ⟨rfl, rfl⟩⟩⟩
set_option maxHeartbeats 4000000 in
set_option maxRecDepth 100000 in
theorem ctL_order {lf : Launch} {ρf : mo_E} {G : mo_G} {M : mo_M} {t : Nat} {x out : Nat} {a0 a1 : Int} {val : Int} {post : Option Value → mo_G → mo_M → Nat → Prop} {postX : String → mo_G → mo_M → Nat → Prop} (hx0 : G.1 x = some (.inl 4)) (hC : mo_Cv lf ρf yX4_order cX4_order 3 (some .int) 6 1 6 [.ref x, mo_iv a0, mo_iv a1] G M t post postX) (hp : ∀ v G' M' t', post v G' M' t' → v = some (mo_iv val) ∧ G'.1 out = some (.inr (1, 1))) (hX : ∀ E G' M' t', postX E G' M' t' → E = mo_IOE ∨ E = mo_IAE) : mo_CtH lf ρf yL_order cL_order 5 (some .int) [(0, 10, 13, 21), (0, 10, 17, 13)] 7 1 6 [.ref x, mo_iv a0, mo_iv a1, .ref out] G M t (fun w G' M' t' => ∃ k : Int, w = some (mo_iv k) ∧ ((k = 0 ∧ ∃ M1, post (some (mo_iv val)) G' M1 t' ∧ M' = mo_ur M1 out (va_up (M1 out) 0 (val.bmod (2 ^ 32)))) ∨ ∃ E, postX E G' M' t' ∧ ((E = mo_IOE ∧ k = 1) ∨ (E = mo_IAE ∧ k = 2)))) := by
  refine mo_ofWH (ls0 := [some (.ref x), some (mo_iv a0), some (mo_iv a1), some (.ref out), none]) (by decide) rfl (Nat.le_of_ble_eq_true rfl) ?_
  intro κ X Y Z hRm
  have X : mo_Cx κ lf ρf cL_order 5 RL (some .int) 7 := X
  have hrm : mo_Rm κ (0 + 1) (0 + 6) := ⟨by rw [hRm]; exact Nat.le_refl _, by rw [hRm]; exact Nat.le_refl _⟩
  refine mo_al3 (pc := 0) X dL_order_0 ?_
  refine mo_iconst (pc := 1) X dL_order_1 ?_
  refine mo_al0 (pc := 2) X dL_order_2 ?_
  refine mo_il1 (pc := 3) X dL_order_3 ?_
  refine mo_il2 (pc := 4) X dL_order_4 ?_
  refine mo_callVx (pc := 5) (As := [_, _]) X Z mo_k_L_54 mo_y_yX4_order rfl dL_order_5 hC hx0 rfl (by decide) (by decide) (Nat.le_of_ble_eq_true rfl) hrm ?_ ?_
  · rintro v G1 M1 t1 hpp
    obtain ⟨rfl, hgo⟩ := hp _ _ _ _ hpp
    show mo_V κ 1 6 8 _ (mo_iv val :: _) _ _ _
    refine mo_i2lB (pc := 8) X dL_order_8 ?_
    refine mo_last (pc := 9) (j := 0) X dL_order_9 hgo (by omega) ?_ ?_ rfl ?_
    · omega
    · omega
    refine mo_goto (pc := 10) (tgt := 21) X dL_order_10 (by decide) ?_
    refine mo_iconst (pc := 21) X dL_order_21 ?_
    refine mo_iret (pc := 22) X Y rfl dL_order_22 ?_
    exact ⟨_, rfl, Or.inl ⟨rfl, M1, hpp, rfl⟩⟩
  · rintro E G1 M1 t1 hpp
    rcases hX _ _ _ _ hpp with rfl | rfl
    · refine mo_catch (pc := 5) X Z [] ⟨0, 10, 13, 21⟩ [⟨0, 10, 17, 13⟩] rfl (fun z hz => nomatch hz) (by decide) (by decide) mo_wq_L_21 mo_bad_m.1 (fun q => ?_)
      show mo_V κ 1 6 13 _ _ _ _ _
      refine mo_as4 (pc := 13) X dL_order_13 rfl (by decide) ?_
      refine mo_iconst (pc := 15) X dL_order_15 ?_
      refine mo_iret (pc := 16) X Y rfl dL_order_16 ?_
      exact ⟨_, rfl, Or.inr ⟨_, hpp, Or.inl ⟨rfl, rfl⟩⟩⟩
    · refine mo_catch (pc := 5) X Z [⟨0, 10, 13, 21⟩] ⟨0, 10, 17, 13⟩ [] rfl (fun z hz => by
        simp only [List.mem_cons, List.not_mem_nil, or_false] at hz
        subst hz
        exact ⟨by decide, mo_IOE, mo_wq_L_21, fun U h => h.1⟩) (by decide) (by decide) mo_wq_L_13 mo_bad_m.2.1 (fun q => ?_)
      show mo_V κ 1 6 17 _ _ _ _ _
      refine mo_as4 (pc := 17) X dL_order_17 rfl (by decide) ?_
      refine mo_iconst (pc := 19) X dL_order_19 ?_
      refine mo_iret (pc := 20) X Y rfl dL_order_20 ?_
      exact ⟨_, rfl, Or.inr ⟨_, hpp, Or.inr (⟨rfl, rfl⟩)⟩⟩
set_option maxHeartbeats 4000000 in
set_option maxRecDepth 100000 in
theorem ctL_hours {lf : Launch} {ρf : mo_E} {G : mo_G} {M : mo_M} {t : Nat} {x out : Nat} {a0 a1 : Int} {val : Int} {post : Option Value → mo_G → mo_M → Nat → Prop} {postX : String → mo_G → mo_M → Nat → Prop} (hx0 : G.1 x = some (.inl 4)) (hC : mo_Cv lf ρf yX4_hours cX4_hours 3 (some .int) 6 1 6 [.ref x, mo_iv a0, mo_iv a1] G M t post postX) (hp : ∀ v G' M' t', post v G' M' t' → v = some (mo_iv val) ∧ G'.1 out = some (.inr (1, 1))) (hX : ∀ E G' M' t', postX E G' M' t' → E = mo_IOE ∨ E = mo_IAE) : mo_CtH lf ρf yL_hours cL_hours 5 (some .int) [(0, 10, 13, 21), (0, 10, 17, 13)] 7 1 6 [.ref x, mo_iv a0, mo_iv a1, .ref out] G M t (fun w G' M' t' => ∃ k : Int, w = some (mo_iv k) ∧ ((k = 0 ∧ ∃ M1, post (some (mo_iv val)) G' M1 t' ∧ M' = mo_ur M1 out (va_up (M1 out) 0 (val.bmod (2 ^ 32)))) ∨ ∃ E, postX E G' M' t' ∧ ((E = mo_IOE ∧ k = 1) ∨ (E = mo_IAE ∧ k = 2)))) := by
  refine mo_ofWH (ls0 := [some (.ref x), some (mo_iv a0), some (mo_iv a1), some (.ref out), none]) (by decide) rfl (Nat.le_of_ble_eq_true rfl) ?_
  intro κ X Y Z hRm
  have X : mo_Cx κ lf ρf cL_hours 5 RL (some .int) 7 := X
  have hrm : mo_Rm κ (0 + 1) (0 + 6) := ⟨by rw [hRm]; exact Nat.le_refl _, by rw [hRm]; exact Nat.le_refl _⟩
  refine mo_al3 (pc := 0) X dL_hours_0 ?_
  refine mo_iconst (pc := 1) X dL_hours_1 ?_
  refine mo_al0 (pc := 2) X dL_hours_2 ?_
  refine mo_il1 (pc := 3) X dL_hours_3 ?_
  refine mo_il2 (pc := 4) X dL_hours_4 ?_
  refine mo_callVx (pc := 5) (As := [_, _]) X Z mo_k_L_57 mo_y_yX4_hours rfl dL_hours_5 hC hx0 rfl (by decide) (by decide) (Nat.le_of_ble_eq_true rfl) hrm ?_ ?_
  · rintro v G1 M1 t1 hpp
    obtain ⟨rfl, hgo⟩ := hp _ _ _ _ hpp
    show mo_V κ 1 6 8 _ (mo_iv val :: _) _ _ _
    refine mo_i2lB (pc := 8) X dL_hours_8 ?_
    refine mo_last (pc := 9) (j := 0) X dL_hours_9 hgo (by omega) ?_ ?_ rfl ?_
    · omega
    · omega
    refine mo_goto (pc := 10) (tgt := 21) X dL_hours_10 (by decide) ?_
    refine mo_iconst (pc := 21) X dL_hours_21 ?_
    refine mo_iret (pc := 22) X Y rfl dL_hours_22 ?_
    exact ⟨_, rfl, Or.inl ⟨rfl, M1, hpp, rfl⟩⟩
  · rintro E G1 M1 t1 hpp
    rcases hX _ _ _ _ hpp with rfl | rfl
    · refine mo_catch (pc := 5) X Z [] ⟨0, 10, 13, 21⟩ [⟨0, 10, 17, 13⟩] rfl (fun z hz => nomatch hz) (by decide) (by decide) mo_wq_L_21 mo_bad_m.1 (fun q => ?_)
      show mo_V κ 1 6 13 _ _ _ _ _
      refine mo_as4 (pc := 13) X dL_hours_13 rfl (by decide) ?_
      refine mo_iconst (pc := 15) X dL_hours_15 ?_
      refine mo_iret (pc := 16) X Y rfl dL_hours_16 ?_
      exact ⟨_, rfl, Or.inr ⟨_, hpp, Or.inl ⟨rfl, rfl⟩⟩⟩
    · refine mo_catch (pc := 5) X Z [⟨0, 10, 13, 21⟩] ⟨0, 10, 17, 13⟩ [] rfl (fun z hz => by
        simp only [List.mem_cons, List.not_mem_nil, or_false] at hz
        subst hz
        exact ⟨by decide, mo_IOE, mo_wq_L_21, fun U h => h.1⟩) (by decide) (by decide) mo_wq_L_13 mo_bad_m.2.1 (fun q => ?_)
      show mo_V κ 1 6 17 _ _ _ _ _
      refine mo_as4 (pc := 17) X dL_hours_17 rfl (by decide) ?_
      refine mo_iconst (pc := 19) X dL_hours_19 ?_
      refine mo_iret (pc := 20) X Y rfl dL_hours_20 ?_
      exact ⟨_, rfl, Or.inr ⟨_, hpp, Or.inr (⟨rfl, rfl⟩)⟩⟩
set_option maxHeartbeats 4000000 in
set_option maxRecDepth 100000 in
theorem ctL_owed {lf : Launch} {ρf : mo_E} {G : mo_G} {M : mo_M} {t : Nat} {x out : Nat} {a0 a1 : Int} {val : Int} {post : Option Value → mo_G → mo_M → Nat → Prop} {postX : String → mo_G → mo_M → Nat → Prop} (hx0 : G.1 x = some (.inl 4)) (hC : mo_Cv lf ρf yX4_owed cX4_owed 3 (some .int) 6 1 6 [.ref x, mo_iv a0, mo_iv a1] G M t post postX) (hp : ∀ v G' M' t', post v G' M' t' → v = some (mo_iv val) ∧ G'.1 out = some (.inr (1, 1))) (hX : ∀ E G' M' t', postX E G' M' t' → E = mo_IOE ∨ E = mo_IAE) : mo_CtH lf ρf yL_owed cL_owed 5 (some .int) [(0, 10, 13, 21), (0, 10, 17, 13)] 7 1 6 [.ref x, mo_iv a0, mo_iv a1, .ref out] G M t (fun w G' M' t' => ∃ k : Int, w = some (mo_iv k) ∧ ((k = 0 ∧ ∃ M1, post (some (mo_iv val)) G' M1 t' ∧ M' = mo_ur M1 out (va_up (M1 out) 0 (val.bmod (2 ^ 32)))) ∨ ∃ E, postX E G' M' t' ∧ ((E = mo_IOE ∧ k = 1) ∨ (E = mo_IAE ∧ k = 2)))) := by
  refine mo_ofWH (ls0 := [some (.ref x), some (mo_iv a0), some (mo_iv a1), some (.ref out), none]) (by decide) rfl (Nat.le_of_ble_eq_true rfl) ?_
  intro κ X Y Z hRm
  have X : mo_Cx κ lf ρf cL_owed 5 RL (some .int) 7 := X
  have hrm : mo_Rm κ (0 + 1) (0 + 6) := ⟨by rw [hRm]; exact Nat.le_refl _, by rw [hRm]; exact Nat.le_refl _⟩
  refine mo_al3 (pc := 0) X dL_owed_0 ?_
  refine mo_iconst (pc := 1) X dL_owed_1 ?_
  refine mo_al0 (pc := 2) X dL_owed_2 ?_
  refine mo_il1 (pc := 3) X dL_owed_3 ?_
  refine mo_il2 (pc := 4) X dL_owed_4 ?_
  refine mo_callVx (pc := 5) (As := [_, _]) X Z mo_k_L_60 mo_y_yX4_owed rfl dL_owed_5 hC hx0 rfl (by decide) (by decide) (Nat.le_of_ble_eq_true rfl) hrm ?_ ?_
  · rintro v G1 M1 t1 hpp
    obtain ⟨rfl, hgo⟩ := hp _ _ _ _ hpp
    show mo_V κ 1 6 8 _ (mo_iv val :: _) _ _ _
    refine mo_i2lB (pc := 8) X dL_owed_8 ?_
    refine mo_last (pc := 9) (j := 0) X dL_owed_9 hgo (by omega) ?_ ?_ rfl ?_
    · omega
    · omega
    refine mo_goto (pc := 10) (tgt := 21) X dL_owed_10 (by decide) ?_
    refine mo_iconst (pc := 21) X dL_owed_21 ?_
    refine mo_iret (pc := 22) X Y rfl dL_owed_22 ?_
    exact ⟨_, rfl, Or.inl ⟨rfl, M1, hpp, rfl⟩⟩
  · rintro E G1 M1 t1 hpp
    rcases hX _ _ _ _ hpp with rfl | rfl
    · refine mo_catch (pc := 5) X Z [] ⟨0, 10, 13, 21⟩ [⟨0, 10, 17, 13⟩] rfl (fun z hz => nomatch hz) (by decide) (by decide) mo_wq_L_21 mo_bad_m.1 (fun q => ?_)
      show mo_V κ 1 6 13 _ _ _ _ _
      refine mo_as4 (pc := 13) X dL_owed_13 rfl (by decide) ?_
      refine mo_iconst (pc := 15) X dL_owed_15 ?_
      refine mo_iret (pc := 16) X Y rfl dL_owed_16 ?_
      exact ⟨_, rfl, Or.inr ⟨_, hpp, Or.inl ⟨rfl, rfl⟩⟩⟩
    · refine mo_catch (pc := 5) X Z [⟨0, 10, 13, 21⟩] ⟨0, 10, 17, 13⟩ [] rfl (fun z hz => by
        simp only [List.mem_cons, List.not_mem_nil, or_false] at hz
        subst hz
        exact ⟨by decide, mo_IOE, mo_wq_L_21, fun U h => h.1⟩) (by decide) (by decide) mo_wq_L_13 mo_bad_m.2.1 (fun q => ?_)
      show mo_V κ 1 6 17 _ _ _ _ _
      refine mo_as4 (pc := 17) X dL_owed_17 rfl (by decide) ?_
      refine mo_iconst (pc := 19) X dL_owed_19 ?_
      refine mo_iret (pc := 20) X Y rfl dL_owed_20 ?_
      exact ⟨_, rfl, Or.inr ⟨_, hpp, Or.inr (⟨rfl, rfl⟩)⟩⟩
set_option maxHeartbeats 4000000 in
set_option maxRecDepth 100000 in
theorem ctL_meeting {lf : Launch} {ρf : mo_E} {G : mo_G} {M : mo_M} {t : Nat} {x out : Nat} {a0 a1 : Int} {val : Int} {post : Option Value → mo_G → mo_M → Nat → Prop} {postX : String → mo_G → mo_M → Nat → Prop} (hx0 : G.1 x = some (.inl 4)) (hC : mo_Cv lf ρf yX4_meeting cX4_meeting 4 (some .int) 6 1 6 [.ref x, mo_iv a0, mo_iv a1] G M t post postX) (hp : ∀ v G' M' t', post v G' M' t' → v = some (mo_iv val) ∧ G'.1 out = some (.inr (1, 1))) (hX : ∀ E G' M' t', postX E G' M' t' → E = mo_IOE ∨ E = mo_IAE) : mo_CtH lf ρf yL_meeting cL_meeting 5 (some .int) [(0, 10, 13, 21), (0, 10, 17, 13)] 7 1 6 [.ref x, mo_iv a0, mo_iv a1, .ref out] G M t (fun w G' M' t' => ∃ k : Int, w = some (mo_iv k) ∧ ((k = 0 ∧ ∃ M1, post (some (mo_iv val)) G' M1 t' ∧ M' = mo_ur M1 out (va_up (M1 out) 0 (val.bmod (2 ^ 32)))) ∨ ∃ E, postX E G' M' t' ∧ ((E = mo_IOE ∧ k = 1) ∨ (E = mo_IAE ∧ k = 2)))) := by
  refine mo_ofWH (ls0 := [some (.ref x), some (mo_iv a0), some (mo_iv a1), some (.ref out), none]) (by decide) rfl (Nat.le_of_ble_eq_true rfl) ?_
  intro κ X Y Z hRm
  have X : mo_Cx κ lf ρf cL_meeting 5 RL (some .int) 7 := X
  have hrm : mo_Rm κ (0 + 1) (0 + 6) := ⟨by rw [hRm]; exact Nat.le_refl _, by rw [hRm]; exact Nat.le_refl _⟩
  refine mo_al3 (pc := 0) X dL_meeting_0 ?_
  refine mo_iconst (pc := 1) X dL_meeting_1 ?_
  refine mo_al0 (pc := 2) X dL_meeting_2 ?_
  refine mo_il1 (pc := 3) X dL_meeting_3 ?_
  refine mo_il2 (pc := 4) X dL_meeting_4 ?_
  refine mo_callVx (pc := 5) (As := [_, _]) X Z mo_k_L_63 mo_y_yX4_meeting rfl dL_meeting_5 hC hx0 rfl (by decide) (by decide) (Nat.le_of_ble_eq_true rfl) hrm ?_ ?_
  · rintro v G1 M1 t1 hpp
    obtain ⟨rfl, hgo⟩ := hp _ _ _ _ hpp
    show mo_V κ 1 6 8 _ (mo_iv val :: _) _ _ _
    refine mo_i2lB (pc := 8) X dL_meeting_8 ?_
    refine mo_last (pc := 9) (j := 0) X dL_meeting_9 hgo (by omega) ?_ ?_ rfl ?_
    · omega
    · omega
    refine mo_goto (pc := 10) (tgt := 21) X dL_meeting_10 (by decide) ?_
    refine mo_iconst (pc := 21) X dL_meeting_21 ?_
    refine mo_iret (pc := 22) X Y rfl dL_meeting_22 ?_
    exact ⟨_, rfl, Or.inl ⟨rfl, M1, hpp, rfl⟩⟩
  · rintro E G1 M1 t1 hpp
    rcases hX _ _ _ _ hpp with rfl | rfl
    · refine mo_catch (pc := 5) X Z [] ⟨0, 10, 13, 21⟩ [⟨0, 10, 17, 13⟩] rfl (fun z hz => nomatch hz) (by decide) (by decide) mo_wq_L_21 mo_bad_m.1 (fun q => ?_)
      show mo_V κ 1 6 13 _ _ _ _ _
      refine mo_as4 (pc := 13) X dL_meeting_13 rfl (by decide) ?_
      refine mo_iconst (pc := 15) X dL_meeting_15 ?_
      refine mo_iret (pc := 16) X Y rfl dL_meeting_16 ?_
      exact ⟨_, rfl, Or.inr ⟨_, hpp, Or.inl ⟨rfl, rfl⟩⟩⟩
    · refine mo_catch (pc := 5) X Z [⟨0, 10, 13, 21⟩] ⟨0, 10, 17, 13⟩ [] rfl (fun z hz => by
        simp only [List.mem_cons, List.not_mem_nil, or_false] at hz
        subst hz
        exact ⟨by decide, mo_IOE, mo_wq_L_21, fun U h => h.1⟩) (by decide) (by decide) mo_wq_L_13 mo_bad_m.2.1 (fun q => ?_)
      show mo_V κ 1 6 17 _ _ _ _ _
      refine mo_as4 (pc := 17) X dL_meeting_17 rfl (by decide) ?_
      refine mo_iconst (pc := 19) X dL_meeting_19 ?_
      refine mo_iret (pc := 20) X Y rfl dL_meeting_20 ?_
      exact ⟨_, rfl, Or.inr ⟨_, hpp, Or.inr (⟨rfl, rfl⟩)⟩⟩
set_option maxHeartbeats 4000000 in
set_option maxRecDepth 100000 in
theorem ctL_escort {lf : Launch} {ρf : mo_E} {G : mo_G} {M : mo_M} {t : Nat} {x out : Nat} {a0 a1 : Int} {val : Int} {post : Option Value → mo_G → mo_M → Nat → Prop} {postX : String → mo_G → mo_M → Nat → Prop} (hx0 : G.1 x = some (.inl 4)) (hC : mo_Cv lf ρf yX4_escort cX4_escort 3 (some .int) 6 1 6 [.ref x, mo_iv a0, mo_iv a1] G M t post postX) (hp : ∀ v G' M' t', post v G' M' t' → v = some (mo_iv val) ∧ G'.1 out = some (.inr (1, 1))) (hX : ∀ E G' M' t', postX E G' M' t' → E = mo_IOE ∨ E = mo_IAE) : mo_CtH lf ρf yL_escort cL_escort 5 (some .int) [(0, 10, 13, 21), (0, 10, 17, 13)] 7 1 6 [.ref x, mo_iv a0, mo_iv a1, .ref out] G M t (fun w G' M' t' => ∃ k : Int, w = some (mo_iv k) ∧ ((k = 0 ∧ ∃ M1, post (some (mo_iv val)) G' M1 t' ∧ M' = mo_ur M1 out (va_up (M1 out) 0 (val.bmod (2 ^ 32)))) ∨ ∃ E, postX E G' M' t' ∧ ((E = mo_IOE ∧ k = 1) ∨ (E = mo_IAE ∧ k = 2)))) := by
  refine mo_ofWH (ls0 := [some (.ref x), some (mo_iv a0), some (mo_iv a1), some (.ref out), none]) (by decide) rfl (Nat.le_of_ble_eq_true rfl) ?_
  intro κ X Y Z hRm
  have X : mo_Cx κ lf ρf cL_escort 5 RL (some .int) 7 := X
  have hrm : mo_Rm κ (0 + 1) (0 + 6) := ⟨by rw [hRm]; exact Nat.le_refl _, by rw [hRm]; exact Nat.le_refl _⟩
  refine mo_al3 (pc := 0) X dL_escort_0 ?_
  refine mo_iconst (pc := 1) X dL_escort_1 ?_
  refine mo_al0 (pc := 2) X dL_escort_2 ?_
  refine mo_il1 (pc := 3) X dL_escort_3 ?_
  refine mo_il2 (pc := 4) X dL_escort_4 ?_
  refine mo_callVx (pc := 5) (As := [_, _]) X Z mo_k_L_66 mo_y_yX4_escort rfl dL_escort_5 hC hx0 rfl (by decide) (by decide) (Nat.le_of_ble_eq_true rfl) hrm ?_ ?_
  · rintro v G1 M1 t1 hpp
    obtain ⟨rfl, hgo⟩ := hp _ _ _ _ hpp
    show mo_V κ 1 6 8 _ (mo_iv val :: _) _ _ _
    refine mo_i2lB (pc := 8) X dL_escort_8 ?_
    refine mo_last (pc := 9) (j := 0) X dL_escort_9 hgo (by omega) ?_ ?_ rfl ?_
    · omega
    · omega
    refine mo_goto (pc := 10) (tgt := 21) X dL_escort_10 (by decide) ?_
    refine mo_iconst (pc := 21) X dL_escort_21 ?_
    refine mo_iret (pc := 22) X Y rfl dL_escort_22 ?_
    exact ⟨_, rfl, Or.inl ⟨rfl, M1, hpp, rfl⟩⟩
  · rintro E G1 M1 t1 hpp
    rcases hX _ _ _ _ hpp with rfl | rfl
    · refine mo_catch (pc := 5) X Z [] ⟨0, 10, 13, 21⟩ [⟨0, 10, 17, 13⟩] rfl (fun z hz => nomatch hz) (by decide) (by decide) mo_wq_L_21 mo_bad_m.1 (fun q => ?_)
      show mo_V κ 1 6 13 _ _ _ _ _
      refine mo_as4 (pc := 13) X dL_escort_13 rfl (by decide) ?_
      refine mo_iconst (pc := 15) X dL_escort_15 ?_
      refine mo_iret (pc := 16) X Y rfl dL_escort_16 ?_
      exact ⟨_, rfl, Or.inr ⟨_, hpp, Or.inl ⟨rfl, rfl⟩⟩⟩
    · refine mo_catch (pc := 5) X Z [⟨0, 10, 13, 21⟩] ⟨0, 10, 17, 13⟩ [] rfl (fun z hz => by
        simp only [List.mem_cons, List.not_mem_nil, or_false] at hz
        subst hz
        exact ⟨by decide, mo_IOE, mo_wq_L_21, fun U h => h.1⟩) (by decide) (by decide) mo_wq_L_13 mo_bad_m.2.1 (fun q => ?_)
      show mo_V κ 1 6 17 _ _ _ _ _
      refine mo_as4 (pc := 17) X dL_escort_17 rfl (by decide) ?_
      refine mo_iconst (pc := 19) X dL_escort_19 ?_
      refine mo_iret (pc := 20) X Y rfl dL_escort_20 ?_
      exact ⟨_, rfl, Or.inr ⟨_, hpp, Or.inr (⟨rfl, rfl⟩)⟩⟩
set_option maxHeartbeats 4000000 in
set_option maxRecDepth 100000 in
theorem ctL_freeRooms {lf : Launch} {ρf : mo_E} {G : mo_G} {M : mo_M} {t : Nat} {x out : Nat} {a0 a1 a2 : Int} {val : Int} {post : Option Value → mo_G → mo_M → Nat → Prop} {postX : String → mo_G → mo_M → Nat → Prop} (hx0 : G.1 x = some (.inl 4)) (hC : mo_Cv lf ρf yX4_freeRooms cX4_freeRooms 4 (some .int) 6 1 6 [.ref x, mo_iv a0, mo_iv a1, mo_iv a2] G M t post postX) (hp : ∀ v G' M' t', post v G' M' t' → v = some (mo_iv val) ∧ G'.1 out = some (.inr (1, 1))) (hX : ∀ E G' M' t', postX E G' M' t' → E = mo_IOE ∨ E = mo_IAE) : mo_CtH lf ρf yL_freeRooms cL_freeRooms 6 (some .int) [(0, 12, 15, 21), (0, 12, 19, 13)] 7 1 6 [.ref x, mo_iv a0, mo_iv a1, mo_iv a2, .ref out] G M t (fun w G' M' t' => ∃ k : Int, w = some (mo_iv k) ∧ ((k = 0 ∧ ∃ M1, post (some (mo_iv val)) G' M1 t' ∧ M' = mo_ur M1 out (va_up (M1 out) 0 (val.bmod (2 ^ 32)))) ∨ ∃ E, postX E G' M' t' ∧ ((E = mo_IOE ∧ k = 1) ∨ (E = mo_IAE ∧ k = 2)))) := by
  refine mo_ofWH (ls0 := [some (.ref x), some (mo_iv a0), some (mo_iv a1), some (mo_iv a2), some (.ref out), none]) (by decide) rfl (Nat.le_of_ble_eq_true rfl) ?_
  intro κ X Y Z hRm
  have X : mo_Cx κ lf ρf cL_freeRooms 6 RL (some .int) 7 := X
  have hrm : mo_Rm κ (0 + 1) (0 + 6) := ⟨by rw [hRm]; exact Nat.le_refl _, by rw [hRm]; exact Nat.le_refl _⟩
  refine mo_al4 (pc := 0) X dL_freeRooms_0 ?_
  refine mo_iconst (pc := 2) X dL_freeRooms_2 ?_
  refine mo_al0 (pc := 3) X dL_freeRooms_3 ?_
  refine mo_il1 (pc := 4) X dL_freeRooms_4 ?_
  refine mo_il2 (pc := 5) X dL_freeRooms_5 ?_
  refine mo_il3 (pc := 6) X dL_freeRooms_6 ?_
  refine mo_callVx (pc := 7) (As := [_, _, _]) X Z mo_k_L_69 mo_y_yX4_freeRooms rfl dL_freeRooms_7 hC hx0 rfl (by decide) (by decide) (Nat.le_of_ble_eq_true rfl) hrm ?_ ?_
  · rintro v G1 M1 t1 hpp
    obtain ⟨rfl, hgo⟩ := hp _ _ _ _ hpp
    show mo_V κ 1 6 10 _ (mo_iv val :: _) _ _ _
    refine mo_i2lB (pc := 10) X dL_freeRooms_10 ?_
    refine mo_last (pc := 11) (j := 0) X dL_freeRooms_11 hgo (by omega) ?_ ?_ rfl ?_
    · omega
    · omega
    refine mo_goto (pc := 12) (tgt := 23) X dL_freeRooms_12 (by decide) ?_
    refine mo_iconst (pc := 23) X dL_freeRooms_23 ?_
    refine mo_iret (pc := 24) X Y rfl dL_freeRooms_24 ?_
    exact ⟨_, rfl, Or.inl ⟨rfl, M1, hpp, rfl⟩⟩
  · rintro E G1 M1 t1 hpp
    rcases hX _ _ _ _ hpp with rfl | rfl
    · refine mo_catch (pc := 7) X Z [] ⟨0, 12, 15, 21⟩ [⟨0, 12, 19, 13⟩] rfl (fun z hz => nomatch hz) (by decide) (by decide) mo_wq_L_21 mo_bad_m.1 (fun q => ?_)
      show mo_V κ 1 6 15 _ _ _ _ _
      refine mo_as5 (pc := 15) X dL_freeRooms_15 rfl (by decide) ?_
      refine mo_iconst (pc := 17) X dL_freeRooms_17 ?_
      refine mo_iret (pc := 18) X Y rfl dL_freeRooms_18 ?_
      exact ⟨_, rfl, Or.inr ⟨_, hpp, Or.inl ⟨rfl, rfl⟩⟩⟩
    · refine mo_catch (pc := 7) X Z [⟨0, 12, 15, 21⟩] ⟨0, 12, 19, 13⟩ [] rfl (fun z hz => by
        simp only [List.mem_cons, List.not_mem_nil, or_false] at hz
        subst hz
        exact ⟨by decide, mo_IOE, mo_wq_L_21, fun U h => h.1⟩) (by decide) (by decide) mo_wq_L_13 mo_bad_m.2.1 (fun q => ?_)
      show mo_V κ 1 6 19 _ _ _ _ _
      refine mo_as5 (pc := 19) X dL_freeRooms_19 rfl (by decide) ?_
      refine mo_iconst (pc := 21) X dL_freeRooms_21 ?_
      refine mo_iret (pc := 22) X Y rfl dL_freeRooms_22 ?_
      exact ⟨_, rfl, Or.inr ⟨_, hpp, Or.inr (⟨rfl, rfl⟩)⟩⟩
set_option maxHeartbeats 4000000 in
set_option maxRecDepth 100000 in
theorem ctL_value {lf : Launch} {ρf : mo_E} {G : mo_G} {M : mo_M} {t : Nat} {x out : Nat} {a0 : Int} {val : Int} {post : Option Value → mo_G → mo_M → Nat → Prop} {postX : String → mo_G → mo_M → Nat → Prop} (hx0 : G.1 x = some (.inl 4)) (hC : mo_Cv lf ρf yX4_value cX4_value 2 (some .int) 6 1 6 [.ref x, mo_iv a0] G M t post postX) (hp : ∀ v G' M' t', post v G' M' t' → v = some (mo_iv val) ∧ G'.1 out = some (.inr (1, 1))) (hX : ∀ E G' M' t', postX E G' M' t' → E = mo_IAE) : mo_CtH lf ρf yL_value cL_value 4 (some .int) [(0, 9, 12, 13)] 7 1 6 [.ref x, mo_iv a0, .ref out] G M t (fun w G' M' t' => ∃ k : Int, w = some (mo_iv k) ∧ ((k = 0 ∧ ∃ M1, post (some (mo_iv val)) G' M1 t' ∧ M' = mo_ur M1 out (va_up (M1 out) 0 (val.bmod (2 ^ 32)))) ∨ ∃ E, postX E G' M' t' ∧ ((E = mo_IAE ∧ k = 1)))) := by
  refine mo_ofWH (ls0 := [some (.ref x), some (mo_iv a0), some (.ref out), none]) (by decide) rfl (Nat.le_of_ble_eq_true rfl) ?_
  intro κ X Y Z hRm
  have X : mo_Cx κ lf ρf cL_value 4 RL (some .int) 7 := X
  have hrm : mo_Rm κ (0 + 1) (0 + 6) := ⟨by rw [hRm]; exact Nat.le_refl _, by rw [hRm]; exact Nat.le_refl _⟩
  refine mo_al2 (pc := 0) X dL_value_0 ?_
  refine mo_iconst (pc := 1) X dL_value_1 ?_
  refine mo_al0 (pc := 2) X dL_value_2 ?_
  refine mo_il1 (pc := 3) X dL_value_3 ?_
  refine mo_callVx (pc := 4) (As := [_]) X Z mo_k_L_72 mo_y_yX4_value rfl dL_value_4 hC hx0 rfl (by decide) (by decide) (Nat.le_of_ble_eq_true rfl) hrm ?_ ?_
  · rintro v G1 M1 t1 hpp
    obtain ⟨rfl, hgo⟩ := hp _ _ _ _ hpp
    show mo_V κ 1 6 7 _ (mo_iv val :: _) _ _ _
    refine mo_i2lB (pc := 7) X dL_value_7 ?_
    refine mo_last (pc := 8) (j := 0) X dL_value_8 hgo (by omega) ?_ ?_ rfl ?_
    · omega
    · omega
    refine mo_goto (pc := 9) (tgt := 15) X dL_value_9 (by decide) ?_
    refine mo_iconst (pc := 15) X dL_value_15 ?_
    refine mo_iret (pc := 16) X Y rfl dL_value_16 ?_
    exact ⟨_, rfl, Or.inl ⟨rfl, M1, hpp, rfl⟩⟩
  · rintro E G1 M1 t1 hpp
    rcases hX _ _ _ _ hpp with rfl
    · refine mo_catch (pc := 4) X Z [] ⟨0, 9, 12, 13⟩ [] rfl (fun z hz => nomatch hz) (by decide) (by decide) mo_wq_L_13 mo_bad_m.2.1 (fun q => ?_)
      show mo_V κ 1 6 12 _ _ _ _ _
      refine mo_as3 (pc := 12) X dL_value_12 rfl (by decide) ?_
      refine mo_iconst (pc := 13) X dL_value_13 ?_
      refine mo_iret (pc := 14) X Y rfl dL_value_14 ?_
      exact ⟨_, rfl, Or.inr ⟨_, hpp, ⟨rfl, rfl⟩⟩⟩
set_option maxHeartbeats 4000000 in
set_option maxRecDepth 100000 in
theorem ctL_why {lf : Launch} {ρf : mo_E} {G : mo_G} {M : mo_M} {t : Nat} {x out : Nat} {a0 a1 a2 a3 a4 : Int} {val : Int} {post : Option Value → mo_G → mo_M → Nat → Prop} {postX : String → mo_G → mo_M → Nat → Prop} (hx0 : G.1 x = some (.inl 4)) (hC : mo_Cv lf ρf yX4_why cX4_why 6 (some .int) 6 1 6 [.ref x, mo_iv a0, mo_iv a1, mo_iv a2, mo_iv a3, mo_iv a4] G M t post postX) (hp : ∀ v G' M' t', post v G' M' t' → v = some (mo_iv val) ∧ G'.1 out = some (.inr (1, 1))) (hX : ∀ E G' M' t', postX E G' M' t' → E = mo_IOE ∨ E = mo_IAE) : mo_CtH lf ρf yL_why cL_why 8 (some .int) [(0, 16, 19, 21), (0, 16, 23, 13)] 7 1 6 [.ref x, mo_iv a0, mo_iv a1, mo_iv a2, mo_iv a3, mo_iv a4, .ref out] G M t (fun w G' M' t' => ∃ k : Int, w = some (mo_iv k) ∧ ((k = 0 ∧ ∃ M1, post (some (mo_iv val)) G' M1 t' ∧ M' = mo_ur M1 out (va_up (M1 out) 0 (val.bmod (2 ^ 32)))) ∨ ∃ E, postX E G' M' t' ∧ ((E = mo_IOE ∧ k = 1) ∨ (E = mo_IAE ∧ k = 2)))) := by
  refine mo_ofWH (ls0 := [some (.ref x), some (mo_iv a0), some (mo_iv a1), some (mo_iv a2), some (mo_iv a3), some (mo_iv a4), some (.ref out), none]) (by decide) rfl (Nat.le_of_ble_eq_true rfl) ?_
  intro κ X Y Z hRm
  have X : mo_Cx κ lf ρf cL_why 8 RL (some .int) 7 := X
  have hrm : mo_Rm κ (0 + 1) (0 + 6) := ⟨by rw [hRm]; exact Nat.le_refl _, by rw [hRm]; exact Nat.le_refl _⟩
  refine mo_al6 (pc := 0) X dL_why_0 ?_
  refine mo_iconst (pc := 2) X dL_why_2 ?_
  refine mo_al0 (pc := 3) X dL_why_3 ?_
  refine mo_il1 (pc := 4) X dL_why_4 ?_
  refine mo_il2 (pc := 5) X dL_why_5 ?_
  refine mo_il3 (pc := 6) X dL_why_6 ?_
  refine mo_il4 (pc := 7) X dL_why_7 ?_
  refine mo_il5 (pc := 9) X dL_why_9 ?_
  refine mo_callVx (pc := 11) (As := [_, _, _, _, _]) X Z mo_k_L_75 mo_y_yX4_why rfl dL_why_11 hC hx0 rfl (by decide) (by decide) (Nat.le_of_ble_eq_true rfl) hrm ?_ ?_
  · rintro v G1 M1 t1 hpp
    obtain ⟨rfl, hgo⟩ := hp _ _ _ _ hpp
    show mo_V κ 1 6 14 _ (mo_iv val :: _) _ _ _
    refine mo_i2lB (pc := 14) X dL_why_14 ?_
    refine mo_last (pc := 15) (j := 0) X dL_why_15 hgo (by omega) ?_ ?_ rfl ?_
    · omega
    · omega
    refine mo_goto (pc := 16) (tgt := 27) X dL_why_16 (by decide) ?_
    refine mo_iconst (pc := 27) X dL_why_27 ?_
    refine mo_iret (pc := 28) X Y rfl dL_why_28 ?_
    exact ⟨_, rfl, Or.inl ⟨rfl, M1, hpp, rfl⟩⟩
  · rintro E G1 M1 t1 hpp
    rcases hX _ _ _ _ hpp with rfl | rfl
    · refine mo_catch (pc := 11) X Z [] ⟨0, 16, 19, 21⟩ [⟨0, 16, 23, 13⟩] rfl (fun z hz => nomatch hz) (by decide) (by decide) mo_wq_L_21 mo_bad_m.1 (fun q => ?_)
      show mo_V κ 1 6 19 _ _ _ _ _
      refine mo_as7 (pc := 19) X dL_why_19 rfl (by decide) ?_
      refine mo_iconst (pc := 21) X dL_why_21 ?_
      refine mo_iret (pc := 22) X Y rfl dL_why_22 ?_
      exact ⟨_, rfl, Or.inr ⟨_, hpp, Or.inl ⟨rfl, rfl⟩⟩⟩
    · refine mo_catch (pc := 11) X Z [⟨0, 16, 19, 21⟩] ⟨0, 16, 23, 13⟩ [] rfl (fun z hz => by
        simp only [List.mem_cons, List.not_mem_nil, or_false] at hz
        subst hz
        exact ⟨by decide, mo_IOE, mo_wq_L_21, fun U h => h.1⟩) (by decide) (by decide) mo_wq_L_13 mo_bad_m.2.1 (fun q => ?_)
      show mo_V κ 1 6 23 _ _ _ _ _
      refine mo_as7 (pc := 23) X dL_why_23 rfl (by decide) ?_
      refine mo_iconst (pc := 25) X dL_why_25 ?_
      refine mo_iret (pc := 26) X Y rfl dL_why_26 ?_
      exact ⟨_, rfl, Or.inr ⟨_, hpp, Or.inr (⟨rfl, rfl⟩)⟩⟩
set_option maxHeartbeats 4000000 in
set_option maxRecDepth 100000 in
theorem ctL_firstSlot {lf : Launch} {ρf : mo_E} {G : mo_G} {M : mo_M} {t : Nat} {x out : Nat} {a0 a1 : Int} {val : Int} {post : Option Value → mo_G → mo_M → Nat → Prop} {postX : String → mo_G → mo_M → Nat → Prop} (hx0 : G.1 x = some (.inl 4)) (hC : mo_Cv lf ρf yX4_firstSlot cX4_firstSlot 3 (some .int) 6 1 6 [.ref x, mo_iv a0, mo_iv a1] G M t post postX) (hp : ∀ v G' M' t', post v G' M' t' → v = some (mo_iv val) ∧ G'.1 out = some (.inr (1, 1))) (hX : ∀ E G' M' t', postX E G' M' t' → E = mo_IOE ∨ E = mo_IAE) : mo_CtH lf ρf yL_firstSlot cL_firstSlot 5 (some .int) [(0, 10, 13, 21), (0, 10, 17, 13)] 7 1 6 [.ref x, mo_iv a0, mo_iv a1, .ref out] G M t (fun w G' M' t' => ∃ k : Int, w = some (mo_iv k) ∧ ((k = 0 ∧ ∃ M1, post (some (mo_iv val)) G' M1 t' ∧ M' = mo_ur M1 out (va_up (M1 out) 0 (val.bmod (2 ^ 32)))) ∨ ∃ E, postX E G' M' t' ∧ ((E = mo_IOE ∧ k = 1) ∨ (E = mo_IAE ∧ k = 2)))) := by
  refine mo_ofWH (ls0 := [some (.ref x), some (mo_iv a0), some (mo_iv a1), some (.ref out), none]) (by decide) rfl (Nat.le_of_ble_eq_true rfl) ?_
  intro κ X Y Z hRm
  have X : mo_Cx κ lf ρf cL_firstSlot 5 RL (some .int) 7 := X
  have hrm : mo_Rm κ (0 + 1) (0 + 6) := ⟨by rw [hRm]; exact Nat.le_refl _, by rw [hRm]; exact Nat.le_refl _⟩
  refine mo_al3 (pc := 0) X dL_firstSlot_0 ?_
  refine mo_iconst (pc := 1) X dL_firstSlot_1 ?_
  refine mo_al0 (pc := 2) X dL_firstSlot_2 ?_
  refine mo_il1 (pc := 3) X dL_firstSlot_3 ?_
  refine mo_il2 (pc := 4) X dL_firstSlot_4 ?_
  refine mo_callVx (pc := 5) (As := [_, _]) X Z mo_k_L_78 mo_y_yX4_firstSlot rfl dL_firstSlot_5 hC hx0 rfl (by decide) (by decide) (Nat.le_of_ble_eq_true rfl) hrm ?_ ?_
  · rintro v G1 M1 t1 hpp
    obtain ⟨rfl, hgo⟩ := hp _ _ _ _ hpp
    show mo_V κ 1 6 8 _ (mo_iv val :: _) _ _ _
    refine mo_i2lB (pc := 8) X dL_firstSlot_8 ?_
    refine mo_last (pc := 9) (j := 0) X dL_firstSlot_9 hgo (by omega) ?_ ?_ rfl ?_
    · omega
    · omega
    refine mo_goto (pc := 10) (tgt := 21) X dL_firstSlot_10 (by decide) ?_
    refine mo_iconst (pc := 21) X dL_firstSlot_21 ?_
    refine mo_iret (pc := 22) X Y rfl dL_firstSlot_22 ?_
    exact ⟨_, rfl, Or.inl ⟨rfl, M1, hpp, rfl⟩⟩
  · rintro E G1 M1 t1 hpp
    rcases hX _ _ _ _ hpp with rfl | rfl
    · refine mo_catch (pc := 5) X Z [] ⟨0, 10, 13, 21⟩ [⟨0, 10, 17, 13⟩] rfl (fun z hz => nomatch hz) (by decide) (by decide) mo_wq_L_21 mo_bad_m.1 (fun q => ?_)
      show mo_V κ 1 6 13 _ _ _ _ _
      refine mo_as4 (pc := 13) X dL_firstSlot_13 rfl (by decide) ?_
      refine mo_iconst (pc := 15) X dL_firstSlot_15 ?_
      refine mo_iret (pc := 16) X Y rfl dL_firstSlot_16 ?_
      exact ⟨_, rfl, Or.inr ⟨_, hpp, Or.inl ⟨rfl, rfl⟩⟩⟩
    · refine mo_catch (pc := 5) X Z [⟨0, 10, 13, 21⟩] ⟨0, 10, 17, 13⟩ [] rfl (fun z hz => by
        simp only [List.mem_cons, List.not_mem_nil, or_false] at hz
        subst hz
        exact ⟨by decide, mo_IOE, mo_wq_L_21, fun U h => h.1⟩) (by decide) (by decide) mo_wq_L_13 mo_bad_m.2.1 (fun q => ?_)
      show mo_V κ 1 6 17 _ _ _ _ _
      refine mo_as4 (pc := 17) X dL_firstSlot_17 rfl (by decide) ?_
      refine mo_iconst (pc := 19) X dL_firstSlot_19 ?_
      refine mo_iret (pc := 20) X Y rfl dL_firstSlot_20 ?_
      exact ⟨_, rfl, Or.inr ⟨_, hpp, Or.inr (⟨rfl, rfl⟩)⟩⟩
set_option maxHeartbeats 4000000 in
set_option maxRecDepth 100000 in
theorem ctL_owedBehind {lf : Launch} {ρf : mo_E} {G : mo_G} {M : mo_M} {t : Nat} {x out : Nat} {a0 : Int} {val : Int} {post : Option Value → mo_G → mo_M → Nat → Prop} {postX : String → mo_G → mo_M → Nat → Prop} (hx0 : G.1 x = some (.inl 4)) (hC : mo_Cv lf ρf yX4_owedBehind cX4_owedBehind 2 (some .int) 6 1 6 [.ref x, mo_iv a0] G M t post postX) (hp : ∀ v G' M' t', post v G' M' t' → v = some (mo_iv val) ∧ G'.1 out = some (.inr (1, 1))) (hX : ∀ E G' M' t', postX E G' M' t' → E = mo_IAE ∨ E = mo_ISE) : mo_CtH lf ρf yL_owedBehind cL_owedBehind 4 (some .int) [(0, 9, 12, 13), (0, 9, 15, 15)] 7 1 6 [.ref x, mo_iv a0, .ref out] G M t (fun w G' M' t' => ∃ k : Int, w = some (mo_iv k) ∧ ((k = 0 ∧ ∃ M1, post (some (mo_iv val)) G' M1 t' ∧ M' = mo_ur M1 out (va_up (M1 out) 0 (val.bmod (2 ^ 32)))) ∨ ∃ E, postX E G' M' t' ∧ ((E = mo_IAE ∧ k = 1) ∨ (E = mo_ISE ∧ k = 2)))) := by
  refine mo_ofWH (ls0 := [some (.ref x), some (mo_iv a0), some (.ref out), none]) (by decide) rfl (Nat.le_of_ble_eq_true rfl) ?_
  intro κ X Y Z hRm
  have X : mo_Cx κ lf ρf cL_owedBehind 4 RL (some .int) 7 := X
  have hrm : mo_Rm κ (0 + 1) (0 + 6) := ⟨by rw [hRm]; exact Nat.le_refl _, by rw [hRm]; exact Nat.le_refl _⟩
  refine mo_al2 (pc := 0) X dL_owedBehind_0 ?_
  refine mo_iconst (pc := 1) X dL_owedBehind_1 ?_
  refine mo_al0 (pc := 2) X dL_owedBehind_2 ?_
  refine mo_il1 (pc := 3) X dL_owedBehind_3 ?_
  refine mo_callVx (pc := 4) (As := [_]) X Z mo_k_L_81 mo_y_yX4_owedBehind rfl dL_owedBehind_4 hC hx0 rfl (by decide) (by decide) (Nat.le_of_ble_eq_true rfl) hrm ?_ ?_
  · rintro v G1 M1 t1 hpp
    obtain ⟨rfl, hgo⟩ := hp _ _ _ _ hpp
    show mo_V κ 1 6 7 _ (mo_iv val :: _) _ _ _
    refine mo_i2lB (pc := 7) X dL_owedBehind_7 ?_
    refine mo_last (pc := 8) (j := 0) X dL_owedBehind_8 hgo (by omega) ?_ ?_ rfl ?_
    · omega
    · omega
    refine mo_goto (pc := 9) (tgt := 18) X dL_owedBehind_9 (by decide) ?_
    refine mo_iconst (pc := 18) X dL_owedBehind_18 ?_
    refine mo_iret (pc := 19) X Y rfl dL_owedBehind_19 ?_
    exact ⟨_, rfl, Or.inl ⟨rfl, M1, hpp, rfl⟩⟩
  · rintro E G1 M1 t1 hpp
    rcases hX _ _ _ _ hpp with rfl | rfl
    · refine mo_catch (pc := 4) X Z [] ⟨0, 9, 12, 13⟩ [⟨0, 9, 15, 15⟩] rfl (fun z hz => nomatch hz) (by decide) (by decide) mo_wq_L_13 mo_bad_m.2.1 (fun q => ?_)
      show mo_V κ 1 6 12 _ _ _ _ _
      refine mo_as3 (pc := 12) X dL_owedBehind_12 rfl (by decide) ?_
      refine mo_iconst (pc := 13) X dL_owedBehind_13 ?_
      refine mo_iret (pc := 14) X Y rfl dL_owedBehind_14 ?_
      exact ⟨_, rfl, Or.inr ⟨_, hpp, Or.inl ⟨rfl, rfl⟩⟩⟩
    · refine mo_catch (pc := 4) X Z [⟨0, 9, 12, 13⟩] ⟨0, 9, 15, 15⟩ [] rfl (fun z hz => by
        simp only [List.mem_cons, List.not_mem_nil, or_false] at hz
        subst hz
        exact ⟨by decide, mo_IAE, mo_wq_L_13, fun U h => h.2.2⟩) (by decide) (by decide) mo_wq_L_15 mo_bad_m.2.2 (fun q => ?_)
      show mo_V κ 1 6 15 _ _ _ _ _
      refine mo_as3 (pc := 15) X dL_owedBehind_15 rfl (by decide) ?_
      refine mo_iconst (pc := 16) X dL_owedBehind_16 ?_
      refine mo_iret (pc := 17) X Y rfl dL_owedBehind_17 ?_
      exact ⟨_, rfl, Or.inr ⟨_, hpp, Or.inr (⟨rfl, rfl⟩)⟩⟩
set_option maxHeartbeats 4000000 in
set_option maxRecDepth 100000 in
theorem ctL_gainBy {lf : Launch} {ρf : mo_E} {G : mo_G} {M : mo_M} {t : Nat} {x out : Nat} {a0 a1 : Int} {val : Int} {post : Option Value → mo_G → mo_M → Nat → Prop} {postX : String → mo_G → mo_M → Nat → Prop} (hx0 : G.1 x = some (.inl 4)) (hC : mo_Cv lf ρf yX4_gainBy cX4_gainBy 4 (some .int) 6 1 6 [.ref x, mo_iv a0, mo_iv a1] G M t post postX) (hp : ∀ v G' M' t', post v G' M' t' → v = some (mo_iv val) ∧ G'.1 out = some (.inr (1, 1))) (hX : ∀ E G' M' t', postX E G' M' t' → E = mo_IOE ∨ E = mo_IAE ∨ E = mo_ISE) : mo_CtH lf ρf yL_gainBy cL_gainBy 5 (some .int) [(0, 10, 13, 21), (0, 10, 17, 13), (0, 10, 21, 15)] 7 1 6 [.ref x, mo_iv a0, mo_iv a1, .ref out] G M t (fun w G' M' t' => ∃ k : Int, w = some (mo_iv k) ∧ ((k = 0 ∧ ∃ M1, post (some (mo_iv val)) G' M1 t' ∧ M' = mo_ur M1 out (va_up (M1 out) 0 (val.bmod (2 ^ 32)))) ∨ ∃ E, postX E G' M' t' ∧ ((E = mo_IOE ∧ k = 1) ∨ (E = mo_IAE ∧ k = 2) ∨ (E = mo_ISE ∧ k = 3)))) := by
  refine mo_ofWH (ls0 := [some (.ref x), some (mo_iv a0), some (mo_iv a1), some (.ref out), none]) (by decide) rfl (Nat.le_of_ble_eq_true rfl) ?_
  intro κ X Y Z hRm
  have X : mo_Cx κ lf ρf cL_gainBy 5 RL (some .int) 7 := X
  have hrm : mo_Rm κ (0 + 1) (0 + 6) := ⟨by rw [hRm]; exact Nat.le_refl _, by rw [hRm]; exact Nat.le_refl _⟩
  refine mo_al3 (pc := 0) X dL_gainBy_0 ?_
  refine mo_iconst (pc := 1) X dL_gainBy_1 ?_
  refine mo_al0 (pc := 2) X dL_gainBy_2 ?_
  refine mo_il1 (pc := 3) X dL_gainBy_3 ?_
  refine mo_il2 (pc := 4) X dL_gainBy_4 ?_
  refine mo_callVx (pc := 5) (As := [_, _]) X Z mo_k_L_84 mo_y_yX4_gainBy rfl dL_gainBy_5 hC hx0 rfl (by decide) (by decide) (Nat.le_of_ble_eq_true rfl) hrm ?_ ?_
  · rintro v G1 M1 t1 hpp
    obtain ⟨rfl, hgo⟩ := hp _ _ _ _ hpp
    show mo_V κ 1 6 8 _ (mo_iv val :: _) _ _ _
    refine mo_i2lB (pc := 8) X dL_gainBy_8 ?_
    refine mo_last (pc := 9) (j := 0) X dL_gainBy_9 hgo (by omega) ?_ ?_ rfl ?_
    · omega
    · omega
    refine mo_goto (pc := 10) (tgt := 25) X dL_gainBy_10 (by decide) ?_
    refine mo_iconst (pc := 25) X dL_gainBy_25 ?_
    refine mo_iret (pc := 26) X Y rfl dL_gainBy_26 ?_
    exact ⟨_, rfl, Or.inl ⟨rfl, M1, hpp, rfl⟩⟩
  · rintro E G1 M1 t1 hpp
    rcases hX _ _ _ _ hpp with rfl | rfl | rfl
    · refine mo_catch (pc := 5) X Z [] ⟨0, 10, 13, 21⟩ [⟨0, 10, 17, 13⟩, ⟨0, 10, 21, 15⟩] rfl (fun z hz => nomatch hz) (by decide) (by decide) mo_wq_L_21 mo_bad_m.1 (fun q => ?_)
      show mo_V κ 1 6 13 _ _ _ _ _
      refine mo_as4 (pc := 13) X dL_gainBy_13 rfl (by decide) ?_
      refine mo_iconst (pc := 15) X dL_gainBy_15 ?_
      refine mo_iret (pc := 16) X Y rfl dL_gainBy_16 ?_
      exact ⟨_, rfl, Or.inr ⟨_, hpp, Or.inl ⟨rfl, rfl⟩⟩⟩
    · refine mo_catch (pc := 5) X Z [⟨0, 10, 13, 21⟩] ⟨0, 10, 17, 13⟩ [⟨0, 10, 21, 15⟩] rfl (fun z hz => by
        simp only [List.mem_cons, List.not_mem_nil, or_false] at hz
        subst hz
        exact ⟨by decide, mo_IOE, mo_wq_L_21, fun U h => h.1⟩) (by decide) (by decide) mo_wq_L_13 mo_bad_m.2.1 (fun q => ?_)
      show mo_V κ 1 6 17 _ _ _ _ _
      refine mo_as4 (pc := 17) X dL_gainBy_17 rfl (by decide) ?_
      refine mo_iconst (pc := 19) X dL_gainBy_19 ?_
      refine mo_iret (pc := 20) X Y rfl dL_gainBy_20 ?_
      exact ⟨_, rfl, Or.inr ⟨_, hpp, Or.inr (Or.inl ⟨rfl, rfl⟩)⟩⟩
    · refine mo_catch (pc := 5) X Z [⟨0, 10, 13, 21⟩, ⟨0, 10, 17, 13⟩] ⟨0, 10, 21, 15⟩ [] rfl (fun z hz => by
        simp only [List.mem_cons, List.not_mem_nil, or_false] at hz
        rcases hz with rfl | rfl
        · exact ⟨by decide, mo_IOE, mo_wq_L_21, fun U h => h.2.1⟩
        · exact ⟨by decide, mo_IAE, mo_wq_L_13, fun U h => h.2.2⟩) (by decide) (by decide) mo_wq_L_15 mo_bad_m.2.2 (fun q => ?_)
      show mo_V κ 1 6 21 _ _ _ _ _
      refine mo_as4 (pc := 21) X dL_gainBy_21 rfl (by decide) ?_
      refine mo_iconst (pc := 23) X dL_gainBy_23 ?_
      refine mo_iret (pc := 24) X Y rfl dL_gainBy_24 ?_
      exact ⟨_, rfl, Or.inr ⟨_, hpp, Or.inr (Or.inr (⟨rfl, rfl⟩))⟩⟩
set_option maxHeartbeats 4000000 in
set_option maxRecDepth 100000 in
theorem ctL_append {lf : Launch} {ρf : mo_E} {G : mo_G} {M : mo_M} {t : Nat} {x out : Nat} {a0 : Int} {val : Int} {post : Option Value → mo_G → mo_M → Nat → Prop} {postX : String → mo_G → mo_M → Nat → Prop} (hx0 : G.1 x = some (.inl 4)) (hC : mo_Cv lf ρf yX4_append cX4_append 2 (some .int) 6 1 6 [.ref x, mo_iv a0] G M t post postX) (hp : ∀ v G' M' t', post v G' M' t' → v = some (mo_iv val) ∧ G'.1 out = some (.inr (1, 1))) (hX : ∀ E G' M' t', postX E G' M' t' → E = mo_IAE ∨ E = mo_ISE) : mo_CtH lf ρf yL_append cL_append 4 (some .int) [(0, 9, 12, 13), (0, 9, 15, 15)] 7 1 6 [.ref x, mo_iv a0, .ref out] G M t (fun w G' M' t' => ∃ k : Int, w = some (mo_iv k) ∧ ((k = 0 ∧ ∃ M1, post (some (mo_iv val)) G' M1 t' ∧ M' = mo_ur M1 out (va_up (M1 out) 0 (val.bmod (2 ^ 32)))) ∨ ∃ E, postX E G' M' t' ∧ ((E = mo_IAE ∧ k = 1) ∨ (E = mo_ISE ∧ k = 2)))) := by
  refine mo_ofWH (ls0 := [some (.ref x), some (mo_iv a0), some (.ref out), none]) (by decide) rfl (Nat.le_of_ble_eq_true rfl) ?_
  intro κ X Y Z hRm
  have X : mo_Cx κ lf ρf cL_append 4 RL (some .int) 7 := X
  have hrm : mo_Rm κ (0 + 1) (0 + 6) := ⟨by rw [hRm]; exact Nat.le_refl _, by rw [hRm]; exact Nat.le_refl _⟩
  refine mo_al2 (pc := 0) X dL_append_0 ?_
  refine mo_iconst (pc := 1) X dL_append_1 ?_
  refine mo_al0 (pc := 2) X dL_append_2 ?_
  refine mo_il1 (pc := 3) X dL_append_3 ?_
  refine mo_callVx (pc := 4) (As := [_]) X Z mo_k_L_87 mo_y_yX4_append rfl dL_append_4 hC hx0 rfl (by decide) (by decide) (Nat.le_of_ble_eq_true rfl) hrm ?_ ?_
  · rintro v G1 M1 t1 hpp
    obtain ⟨rfl, hgo⟩ := hp _ _ _ _ hpp
    show mo_V κ 1 6 7 _ (mo_iv val :: _) _ _ _
    refine mo_i2lB (pc := 7) X dL_append_7 ?_
    refine mo_last (pc := 8) (j := 0) X dL_append_8 hgo (by omega) ?_ ?_ rfl ?_
    · omega
    · omega
    refine mo_goto (pc := 9) (tgt := 18) X dL_append_9 (by decide) ?_
    refine mo_iconst (pc := 18) X dL_append_18 ?_
    refine mo_iret (pc := 19) X Y rfl dL_append_19 ?_
    exact ⟨_, rfl, Or.inl ⟨rfl, M1, hpp, rfl⟩⟩
  · rintro E G1 M1 t1 hpp
    rcases hX _ _ _ _ hpp with rfl | rfl
    · refine mo_catch (pc := 4) X Z [] ⟨0, 9, 12, 13⟩ [⟨0, 9, 15, 15⟩] rfl (fun z hz => nomatch hz) (by decide) (by decide) mo_wq_L_13 mo_bad_m.2.1 (fun q => ?_)
      show mo_V κ 1 6 12 _ _ _ _ _
      refine mo_as3 (pc := 12) X dL_append_12 rfl (by decide) ?_
      refine mo_iconst (pc := 13) X dL_append_13 ?_
      refine mo_iret (pc := 14) X Y rfl dL_append_14 ?_
      exact ⟨_, rfl, Or.inr ⟨_, hpp, Or.inl ⟨rfl, rfl⟩⟩⟩
    · refine mo_catch (pc := 4) X Z [⟨0, 9, 12, 13⟩] ⟨0, 9, 15, 15⟩ [] rfl (fun z hz => by
        simp only [List.mem_cons, List.not_mem_nil, or_false] at hz
        subst hz
        exact ⟨by decide, mo_IAE, mo_wq_L_13, fun U h => h.2.2⟩) (by decide) (by decide) mo_wq_L_15 mo_bad_m.2.2 (fun q => ?_)
      show mo_V κ 1 6 15 _ _ _ _ _
      refine mo_as3 (pc := 15) X dL_append_15 rfl (by decide) ?_
      refine mo_iconst (pc := 16) X dL_append_16 ?_
      refine mo_iret (pc := 17) X Y rfl dL_append_17 ?_
      exact ⟨_, rfl, Or.inr ⟨_, hpp, Or.inr (⟨rfl, rfl⟩)⟩⟩
set_option maxHeartbeats 4000000 in
set_option maxRecDepth 100000 in
theorem ctL_undo {lf : Launch} {ρf : mo_E} {G : mo_G} {M : mo_M} {t : Nat} {x out : Nat} {val : Int} {post : Option Value → mo_G → mo_M → Nat → Prop} {postX : String → mo_G → mo_M → Nat → Prop} (hx0 : G.1 x = some (.inl 4)) (hC : mo_Cv lf ρf yX4_undo cX4_undo 1 (some .int) 6 1 6 [.ref x] G M t post postX) (hp : ∀ v G' M' t', post v G' M' t' → v = some (mo_iv val) ∧ G'.1 out = some (.inr (1, 1))) (hX : ∀ E G' M' t', postX E G' M' t' → E = mo_ISE) : mo_CtH lf ρf yL_undo cL_undo 3 (some .int) [(0, 8, 11, 15)] 7 1 6 [.ref x, .ref out] G M t (fun w G' M' t' => ∃ k : Int, w = some (mo_iv k) ∧ ((k = 0 ∧ ∃ M1, post (some (mo_iv val)) G' M1 t' ∧ M' = mo_ur M1 out (va_up (M1 out) 0 (val.bmod (2 ^ 32)))) ∨ ∃ E, postX E G' M' t' ∧ ((E = mo_ISE ∧ k = 1)))) := by
  refine mo_ofWH (ls0 := [some (.ref x), some (.ref out), none]) (by decide) rfl (Nat.le_of_ble_eq_true rfl) ?_
  intro κ X Y Z hRm
  have X : mo_Cx κ lf ρf cL_undo 3 RL (some .int) 7 := X
  have hrm : mo_Rm κ (0 + 1) (0 + 6) := ⟨by rw [hRm]; exact Nat.le_refl _, by rw [hRm]; exact Nat.le_refl _⟩
  refine mo_al1 (pc := 0) X dL_undo_0 ?_
  refine mo_iconst (pc := 1) X dL_undo_1 ?_
  refine mo_al0 (pc := 2) X dL_undo_2 ?_
  refine mo_callVx (pc := 3) (As := []) X Z mo_k_L_90 mo_y_yX4_undo rfl dL_undo_3 hC hx0 rfl (by decide) (by decide) (Nat.le_of_ble_eq_true rfl) hrm ?_ ?_
  · rintro v G1 M1 t1 hpp
    obtain ⟨rfl, hgo⟩ := hp _ _ _ _ hpp
    show mo_V κ 1 6 6 _ (mo_iv val :: _) _ _ _
    refine mo_i2lB (pc := 6) X dL_undo_6 ?_
    refine mo_last (pc := 7) (j := 0) X dL_undo_7 hgo (by omega) ?_ ?_ rfl ?_
    · omega
    · omega
    refine mo_goto (pc := 8) (tgt := 14) X dL_undo_8 (by decide) ?_
    refine mo_iconst (pc := 14) X dL_undo_14 ?_
    refine mo_iret (pc := 15) X Y rfl dL_undo_15 ?_
    exact ⟨_, rfl, Or.inl ⟨rfl, M1, hpp, rfl⟩⟩
  · rintro E G1 M1 t1 hpp
    rcases hX _ _ _ _ hpp with rfl
    · refine mo_catch (pc := 3) X Z [] ⟨0, 8, 11, 15⟩ [] rfl (fun z hz => nomatch hz) (by decide) (by decide) mo_wq_L_15 mo_bad_m.2.2 (fun q => ?_)
      show mo_V κ 1 6 11 _ _ _ _ _
      refine mo_as2 (pc := 11) X dL_undo_11 rfl (by decide) ?_
      refine mo_iconst (pc := 12) X dL_undo_12 ?_
      refine mo_iret (pc := 13) X Y rfl dL_undo_13 ?_
      exact ⟨_, rfl, Or.inr ⟨_, hpp, ⟨rfl, rfl⟩⟩⟩
