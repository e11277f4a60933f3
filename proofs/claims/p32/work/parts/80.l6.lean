/-! the step whole; the law's loops -/
set_option maxHeartbeats 4000000 in
set_option maxRecDepth 100000 in
theorem ctL_isStep {lf : Launch} {ρf : mo_E} {G : mo_G} {M : mo_M} {t : Nat} {x h h2 : Nat} {g : Nat → Int} {B : Int} (hW : mo_Wd G M x g B) (hB : B ≤ 500000000) (hJ : mo_J g) (hA : G.1 h = some (.inr (0, 64))) (hV : G.1 h2 = some (.inr (0, 64))) (hz1 : mo_oz x h) (hz2 : mo_oz x h2) (hne : h ≠ h2) (hN : mo_NA M h g) (hV2 : ∀ k, k < mo_nk g → M h2 k = mo_fld g k 2) {v : Int} : mo_Ct lf ρf yL_isStep cL_isStep 12 (some .boolean) 7 0 0 [.ref x, .ref h, .ref h2, mo_iv v] G M t (ls_post G t x h (B + 1000)) := by
  refine mo_ofW (ls0 := [some (.ref x), some (.ref h), some (.ref h2), some (mo_iv v), none, none, none, none, none, none, none, none]) (by decide) rfl (Nat.le_of_ble_eq_true rfl) ?_
  intro κ X Y
  have X : mo_Cx κ lf ρf cL_isStep 12 RL (some .boolean) 7 := X
  have hx0 := mo_Wd_x hW
  have hI := mo_Wd_Iv hW
  have hI0 := hI.1
  have J39 : ∀ w : Int, g 0 ≤ w ∧ w ≤ 19 → mo_V κ 0 0 39 [some (.ref x), some (.ref h), some (.ref h2), some (mo_iv v), some (mo_iv (mo_shr v 4)), none, none, none, none, none, none, none] [mo_iv w] G M t := by
    intro w hw
    refine mo_is5 (pc := 39) X dL_isStep_39 rfl (by decide) ?_
    refine mo_il3 (pc := 41) X dL_isStep_41 ?_
    refine mo_bipush (pc := 42) X dL_isStep_42 (by decide) ?_
    refine mo_cSI (pc := 44) (As := [_, _]) X mo_k_L_34 mo_y_yL_up dL_isStep_44 (ctL_up (n := 9) (by omega)) rfl (by decide) (by decide) (Nat.le_of_ble_eq_true rfl) ?_
    rintro r_44 _ ⟨h_44, rfl⟩
    have b_44 := mo_up2_b (v) (n := 9) (by omega)
    rw [← h_44] at b_44
    rcases (show r_44 = 0 ∨ r_44 = 1 ∨ r_44 = 2 ∨ r_44 = 3 ∨ r_44 = 4 ∨ r_44 = 5 ∨ r_44 = 6 ∨ 7 ≤ r_44 by omega) with c | c | c | c | c | c | c | c
    · rw [c]
      refine mo_swIn (pc := 47) (tgt := 88) (off := 41) X dL_isStep_47 (by decide) (by decide) (by decide) rfl (by decide) ?_
      exact ls_0 X Y hW hB hJ hA hV hz1 hz2 hne hN hV2 hw
    · rw [c]
      refine mo_swIn (pc := 47) (tgt := 148) (off := 101) X dL_isStep_47 (by decide) (by decide) (by decide) rfl (by decide) ?_
      exact ls_1 X Y hW hB hJ hA hV hz1 hz2 hne hN hV2 hw
    · rw [c]
      refine mo_swIn (pc := 47) (tgt := 148) (off := 101) X dL_isStep_47 (by decide) (by decide) (by decide) rfl (by decide) ?_
      exact ls_1 X Y hW hB hJ hA hV hz1 hz2 hne hN hV2 hw
    · rw [c]
      refine mo_swIn (pc := 47) (tgt := 267) (off := 220) X dL_isStep_47 (by decide) (by decide) (by decide) rfl (by decide) ?_
      exact ls_3 X Y hW hB hJ hA hV hz1 hz2 hne hN hV2 hw
    · rw [c]
      refine mo_swIn (pc := 47) (tgt := 297) (off := 250) X dL_isStep_47 (by decide) (by decide) (by decide) rfl (by decide) ?_
      exact ls_4 X Y hW hB hJ hA hV hz1 hz2 hne hN hV2 hw
    · rw [c]
      refine mo_swIn (pc := 47) (tgt := 325) (off := 278) X dL_isStep_47 (by decide) (by decide) (by decide) rfl (by decide) ?_
      exact ls_5 X Y hW hB hJ hA hV hz1 hz2 hne hN hV2 hw
    · rw [c]
      refine mo_swIn (pc := 47) (tgt := 325) (off := 278) X dL_isStep_47 (by decide) (by decide) (by decide) rfl (by decide) ?_
      exact ls_5 X Y hW hB hJ hA hV hz1 hz2 hne hN hV2 hw
    · refine mo_swOut (pc := 47) (tgt := 469) X dL_isStep_47 (by omega) (by omega) (by decide) ?_
      exact ls_7 X Y hW hB hJ hA hV hz1 hz2 hne hN hV2 hw
  refine mo_il3 (pc := 0) X dL_isStep_0 ?_
  refine mo_iconst (pc := 1) X dL_isStep_1 ?_
  refine mo_ishr (pc := 2) X dL_isStep_2 ?_
  refine mo_is4 (pc := 3) X dL_isStep_3 rfl (by decide) ?_
  refine mo_al0 (pc := 5) X dL_isStep_5 ?_
  refine mo_iconst (pc := 6) X dL_isStep_6 ?_
  refine mo_cVI (pc := 7) (As := [_]) X mo_k_L_9 mo_y_yX4_value rfl dL_isStep_7 (lt_value hW (by omega) (w := 4) (by decide)) hx0 rfl (by decide) (by decide) (Nat.le_of_ble_eq_true rfl) ?_
  rintro r_7 _ ⟨h_7, rfl⟩
  rw [mo_nv_4] at h_7
  refine mo_il4 (pc := 10) X dL_isStep_10 ?_
  refine mo_iconst (pc := 12) X dL_isStep_12 ?_
  refine mo_cSI (pc := 13) (As := [_, _]) X mo_k_L_34 mo_y_yL_up dL_isStep_13 (ctL_up (n := 3) (by omega)) rfl (by decide) (by decide) (Nat.le_of_ble_eq_true rfl) ?_
  rintro r_13 _ ⟨h_13, rfl⟩
  have b_13 := mo_up2_b (mo_shr v 4) (n := 3) (by omega)
  rw [← h_13] at b_13
  refine mo_iadd (pc := 16) X dL_isStep_16 ?_
  refine mo_bipush (pc := 17) X dL_isStep_17 (by decide) ?_
  refine mo_ic_le (pc := 19) (tgt := 27) X dL_isStep_19 (by decide) ?_ ?_ (fun c_19 => ?_) (fun c_19 => ?_)
  · omega
  · omega
  · skip
    refine mo_al0 (pc := 27) X dL_isStep_27 ?_
    refine mo_iconst (pc := 28) X dL_isStep_28 ?_
    refine mo_cVI (pc := 29) (As := [_]) X mo_k_L_9 mo_y_yX4_value rfl dL_isStep_29 (lt_value hW (by omega) (w := 4) (by decide)) hx0 rfl (by decide) (by decide) (Nat.le_of_ble_eq_true rfl) ?_
    rintro r_29 _ ⟨h_29, rfl⟩
    rw [mo_nv_4] at h_29
    refine mo_il4 (pc := 32) X dL_isStep_32 ?_
    refine mo_iconst (pc := 34) X dL_isStep_34 ?_
    refine mo_cSI (pc := 35) (As := [_, _]) X mo_k_L_34 mo_y_yL_up dL_isStep_35 (ctL_up (n := 3) (by omega)) rfl (by decide) (by decide) (Nat.le_of_ble_eq_true rfl) ?_
    rintro r_35 _ ⟨h_35, rfl⟩
    have b_35 := mo_up2_b (mo_shr v 4) (n := 3) (by omega)
    rw [← h_35] at b_35
    refine mo_iadd (pc := 38) X dL_isStep_38 ?_
    exact J39 _ (by omega)
  · skip
    refine mo_bipush (pc := 22) X dL_isStep_22 (by decide) ?_
    refine mo_goto (pc := 24) (tgt := 39) X dL_isStep_24 (by decide) ?_
    exact J39 _ (by omega)
/-- the calendar while it is set up: o orders, e escorts, two venues, no meeting -/
def mo_S0 (g : Nat → Int) (o e v : Int) : Prop := g 0 = 0 ∧ g 1 = 0 ∧ g 4 = o ∧ g 5 = e ∧ g 6 = v ∧ g 7 = 0
theorem mo_S0_AV {g : Nat → Int} {v r : Int} (h : mo_S0 g 0 0 v) (hv : 0 ≤ v ∧ v < 5) : mo_S0 (mo_gAV g r) 0 0 (v + 1) := by
  obtain ⟨h0, h1, h4, h5, h6, h7⟩ := h
  have e : ∀ j, j < 210 → j ≠ 6 → mo_gAV g r j = g j := fun j a b => by
    unfold mo_gAV
    rw [mo_up_n b, mo_up_n (by omega)]
  refine ⟨by rw [e 0 (by omega) (by omega)]; exact h0, by rw [e 1 (by omega) (by omega)]; exact h1, by rw [e 4 (by omega) (by omega)]; exact h4, by rw [e 5 (by omega) (by omega)]; exact h5, ?_, by rw [e 7 (by omega) (by omega)]; exact h7⟩
  unfold mo_gAV
  rw [mo_up_s, h6]
theorem mo_S0_AO {g : Nat → Int} {o p r : Int} (h : mo_S0 g o 0 2) : mo_S0 (mo_gAO g p r) (o + 1) 0 2 := by
  obtain ⟨h0, h1, h4, h5, h6, h7⟩ := h
  have e : ∀ j, j < 8 → j ≠ 4 → mo_gAO g p r j = g j := fun j a b => by
    unfold mo_gAO
    rw [if_neg b, if_neg (by omega), if_neg (by omega)]
  refine ⟨by rw [e 0 (by omega) (by omega)]; exact h0, by rw [e 1 (by omega) (by omega)]; exact h1, ?_, by rw [e 5 (by omega) (by omega)]; exact h5, by rw [e 6 (by omega) (by omega)]; exact h6, by rw [e 7 (by omega) (by omega)]; exact h7⟩
  unfold mo_gAO
  rw [if_pos rfl, h4]
theorem mo_S0_AE {g : Nat → Int} {c p r : Int} (h : mo_S0 g 3 c 2) : mo_S0 (mo_gAE g p r) 3 (c + 1) 2 := by
  obtain ⟨h0, h1, h4, h5, h6, h7⟩ := h
  have e : ∀ j, j < 8 → j ≠ 5 → mo_gAE g p r j = g j := fun j a b => by
    unfold mo_gAE
    rw [mo_up_n b, mo_up_n (by omega), mo_up_n (by omega)]
  refine ⟨by rw [e 0 (by omega) (by omega)]; exact h0, by rw [e 1 (by omega) (by omega)]; exact h1, by rw [e 4 (by omega) (by omega)]; exact h4, ?_, by rw [e 6 (by omega) (by omega)]; exact h6, by rw [e 7 (by omega) (by omega)]; exact h7⟩
  unfold mo_gAE
  rw [mo_up_s, h5]
theorem mo_S0_J {g : Nat → Int} (h : mo_S0 g 3 2 2) (hI : mo_Iv g 0) : mo_J g := by
  obtain ⟨h0, h1, h4, h5, h6, h7⟩ := h
  obtain ⟨hI0, hI1, hI2, hI3, hI4, hI5, hI6, hI7, hIh, hIa, hIe, hIm, hIs, hIl, hIw, hIr, -⟩ := id hI
  have hn : mo_nk g = 0 := by unfold mo_nk; rw [h7]; rfl
  have e0 := hIe 0 (by omega)
  have e1 := hIe 1 (by omega)
  have e2 := hIe 2 (by omega)
  have m0 := hIm 0 (by omega)
  have m1 := hIm 1 (by omega)
  have m2 := hIm 2 (by omega)
  have w0 := hIw 0 (by omega)
  have w1 := hIw 1 (by omega)
  simp only [Nat.add_zero, Nat.reduceAdd] at e0 e1 e2 m0 m1 m2 w0 w1
  unfold mo_J mo_Ja mo_Jw mo_Jk
  rw [hn]
  refine ⟨⟨⟨h4, h5, h6⟩, fun k hk => absurd hk (Nat.not_lt_zero _), fun j k _ hk => absurd hk (Nat.not_lt_zero _), fun j k _ hk => absurd hk (Nat.not_lt_zero _), ⟨by omega, by omega, by omega⟩, fun w e he => ?_, ?_⟩, fun k hk => absurd hk (Nat.not_lt_zero _), fun k hk => absurd hk (Nat.not_lt_zero _)⟩
  · show (0 : Int) ≤ _
    exact (hIl e (by omega)).1
  · show (0 : Int) ≤ _
    omega
set_option maxHeartbeats 4000000 in
set_option maxRecDepth 100000 in
theorem ll_steps {κ : mo_T} {lf : Launch} {ρf : mo_E} {ret2 : Option FieldType} {K N : Nat} {b L x h h2 : Nat} {xs : Nat → Int32} (hL : L ≤ 260) (X : mo_Cx κ lf ρf cL_law 6 RL ret2 10) (hXs : mo_Xs κ b L xs) (hRm : mo_Rm κ K N) (hz1 : mo_oz x h) (hz2 : mo_oz x h2) (hne : h ≠ h2) (fin : ∀ (ls : List (Option Value)) (G : mo_G) (M : mo_M) (t : Nat), mo_V κ K N 271 ls [mo_iv 1] G M t) : ∀ (z k : Nat) (q : Int) (g : Nat → Int) (B : Int) (G : mo_G) (M : mo_M) (t : Nat), k + z = 43 → q = k → B ≤ 100000000 - 2000 * z → mo_Wd G M x g B → mo_J g → G.1 h = some (.inr (0, 64)) → G.1 h2 = some (.inr (0, 64)) → mo_NA M h g → (∀ k, k < mo_nk g → M h2 k = mo_fld g k 2) → mo_V κ K N 195 [some (.ref b), some (.ref x), some (.ref h), some (.ref h2), some (mo_iv 1), some (mo_iv q)] [] G M t := by
  intro z
  induction z with
  | zero =>
    intro k q g B G M t e1 e2 e3 hW hJ hA hV hN hV2
    have hx0 := mo_Wd_x hW
    refine mo_il5 (pc := 195) X dL_law_195 ?_
    refine mo_bipush (pc := 197) X dL_law_197 (by decide) ?_
    refine mo_ic_ge (pc := 199) (tgt := 252) X dL_law_199 (by decide) ?_ ?_ (fun c_199 => ?_) (fun c_199 => ?_)
    · omega
    · omega
    · skip
      refine mo_il4 (pc := 252) X dL_law_252 ?_
      refine mo_if_eq (pc := 254) (tgt := 270) X dL_law_254 (by decide) ?_ (fun c_254 => ?_) (fun c_254 => ?_)
      · omega
      · exfalso; omega
      · skip
        refine mo_al1 (pc := 257) X dL_law_257 ?_
        refine mo_callVr (pc := 258) (As := []) X mo_k_L_111 mo_y_yX4_settledIn rfl dL_law_258 (lt_settledIn hW (by omega)) hx0 rfl (by decide) (by decide) (Nat.le_of_ble_eq_true rfl) hRm ?_
        rintro u_258 G_258 M_258 t_258 ⟨rfl, rfl, r_258, rfl, h_258, s_258, w_258⟩
        show mo_V κ K N _ _ (mo_iv _ :: _) _ _ _
        refine mo_bipush (pc := 261) X dL_law_261 (by decide) ?_
        refine mo_ic_ge (pc := 263) (tgt := 270) X dL_law_263 (by decide) ?_ ?_ (fun c_263 => ?_) (fun c_263 => ?_)
        · omega
        · omega
        · exfalso
          omega
        · skip
          refine mo_iconst (pc := 266) X dL_law_266 ?_
          refine mo_goto (pc := 267) (tgt := 271) X dL_law_267 (by decide) ?_
          exact fin _ _ _ _
    · exfalso
      omega
  | succ z ih =>
    intro k q g B G M t e1 e2 e3 hW hJ hA hV hN hV2
    have hx0 := mo_Wd_x hW
    refine mo_il5 (pc := 195) X dL_law_195 ?_
    refine mo_bipush (pc := 197) X dL_law_197 (by decide) ?_
    refine mo_ic_ge (pc := 199) (tgt := 252) X dL_law_199 (by decide) ?_ ?_ (fun c_199 => ?_) (fun c_199 => ?_)
    · omega
    · omega
    · exfalso
      omega
    · skip
      refine mo_il4 (pc := 202) X dL_law_202 ?_
      refine mo_if_eq (pc := 204) (tgt := 252) X dL_law_204 (by decide) ?_ (fun c_204 => ?_) (fun c_204 => ?_)
      · omega
      · exfalso; omega
      · skip
        refine mo_al1 (pc := 207) X dL_law_207 ?_
        refine mo_al2 (pc := 208) X dL_law_208 ?_
        refine mo_al3 (pc := 209) X dL_law_209 ?_
        refine mo_al0 (pc := 210) X dL_law_210 ?_
        refine mo_il5 (pc := 211) X dL_law_211 ?_
        refine mo_callSS (pc := 213) (As := [_, _]) X hXs mo_k_L_86 mo_y_yL_cell dL_law_213 (ctL_cell hL (k := k) (e2) (by omega)) rfl (by decide) (by decide) (Nat.le_of_ble_eq_true rfl) hRm ?_
        rintro u_213 G_213 M_213 t_213 ⟨rfl, rfl, rfl, rfl⟩
        show mo_V κ K N _ _ (mo_iv _ :: _) _ _ _
        refine mo_callSB (pc := 216) (As := [_, _, _, _]) X mo_k_L_99 mo_y_yL_isStep dL_law_216 (ctL_isStep hW (by omega) hJ hA hV hz1 hz2 hne hN hV2) rfl (by decide) (by decide) (Nat.le_of_ble_eq_true rfl) hRm ?_
        rintro u_216 G1 M1 t1 ⟨rfl, rfl, hG1, g1, hW1, hJ1, hN1⟩
        show mo_V κ K N _ _ (mo_iv _ :: _) _ _ _
        have hA1 : G1.1 h = some (.inr (0, 64)) := by rw [hG1]; exact hA
        have hV1 : G1.1 h2 = some (.inr (0, 64)) := by rw [hG1]; exact hV
        refine mo_if_eq (pc := 219) (tgt := 243) X dL_law_219 (by decide) ?_ (fun c_219 => ?_) (fun c_219 => ?_)
        · omega
        · exfalso; omega
        · skip
          refine mo_al1 (pc := 222) X dL_law_222 ?_
          refine mo_al2 (pc := 223) X dL_law_223 ?_
          refine mo_al3 (pc := 224) X dL_law_224 ?_
          refine mo_callSB (pc := 225) (As := [_, _, _]) X mo_k_L_103 mo_y_yL_areMeetings dL_law_225 (ctL_areMeetings hW1 (by omega) hJ1 hA1 hV1 hz2 hne hN1) rfl (by decide) (by decide) (Nat.le_of_ble_eq_true rfl) hRm ?_
          rintro u_225 G_225 M2 t_225 ⟨rfl, rfl, r_225, rfl, h_225, v_225, f_225⟩
          show mo_V κ K N _ _ (mo_iv _ :: _) _ _ _
          subst h_225
          have hW2 := mo_Wd_oz hW1 (M' := M2) fun a a1 a2 => f_225 a (by omega)
          have hN2 : mo_NA M2 h g1 := mo_NA_cg hN1 (f_225 h hne) rfl rfl (fun _ => rfl)
          refine mo_if_eq (pc := 228) (tgt := 243) X dL_law_228 (by decide) ?_ (fun c_228 => ?_) (fun c_228 => ?_)
          · omega
          · exfalso; omega
          · skip
            refine mo_al1 (pc := 231) X dL_law_231 ?_
            refine mo_al2 (pc := 232) X dL_law_232 ?_
            refine mo_callSr (pc := 233) (As := [_, _]) X mo_k_L_107 mo_y_yL_areCounts dL_law_233 (ctL_areCounts hW2 (by omega) hJ1 hA1 hN2) rfl (by decide) (by decide) (Nat.le_of_ble_eq_true rfl) hRm ?_
            rintro u_233 G_233 M3 t_233 ⟨rfl, rfl, r_233, rfl, h_233, s_233, hW3⟩
            show mo_V κ K N _ _ (mo_iv _ :: _) _ _ _
            subst h_233
            refine mo_if_eq (pc := 236) (tgt := 243) X dL_law_236 (by decide) ?_ (fun c_236 => ?_) (fun c_236 => ?_)
            · omega
            · exfalso; omega
            · skip
              refine mo_iconst (pc := 239) X dL_law_239 ?_
              refine mo_goto (pc := 240) (tgt := 244) X dL_law_240 (by decide) ?_
              refine mo_is4 (pc := 244) X dL_law_244 rfl (by decide) ?_
              refine mo_ii5 (pc := 246) X dL_law_246 rfl (by decide) ?_
              refine mo_goto (pc := 249) (tgt := 195) X dL_law_249 (by decide) ?_
              exact ih (k + 1) _ g1 (B + 1000) _ _ _ (by omega) (by omega) (by omega) hW3 hJ1 hA1 hV1 (mo_NA_cg hN2 (s_233 h hz1) rfl rfl (fun _ => rfl)) (fun k hk => by rw [s_233 h2 hz2]; exact v_225 k hk)
set_option maxHeartbeats 4000000 in
set_option maxRecDepth 100000 in
theorem ll_escorts {κ : mo_T} {lf : Launch} {ρf : mo_E} {ret2 : Option FieldType} {K N : Nat} {b L x h h2 : Nat} {xs : Nat → Int32} (hL : L ≤ 260) (X : mo_Cx κ lf ρf cL_law 6 RL ret2 10) (hXs : mo_Xs κ b L xs) (hRm : mo_Rm κ K N) (hz1 : mo_oz x h) (hz2 : mo_oz x h2) (hne : h ≠ h2) (fin : ∀ (ls : List (Option Value)) (G : mo_G) (M : mo_M) (t : Nat), mo_V κ K N 271 ls [mo_iv 1] G M t) : ∀ (z c : Nat) (q : Int) (g : Nat → Int) (G : mo_G) (M : mo_M) (t : Nat), c + z = 2 → q = c → mo_Wd G M x g 0 → mo_S0 g 3 c 2 → G.1 h = some (.inr (0, 64)) → G.1 h2 = some (.inr (0, 64)) → (∀ j, M h j = 0) → mo_V κ K N 129 [some (.ref b), some (.ref x), some (.ref h), some (.ref h2), some (mo_iv 1), some (mo_iv q)] [] G M t := by
  intro z
  induction z with
  | zero =>
    intro k q g G M t e1 e2 hW hS hA hV hN
    obtain rfl : k = 2 := by omega
    refine mo_il5 (pc := 129) X dL_law_129 ?_
    refine mo_iconst (pc := 131) X dL_law_131 ?_
    refine mo_ic_ge (pc := 132) (tgt := 191) X dL_law_132 (by decide) ?_ ?_ (fun c_132 => ?_) (fun c_132 => ?_)
    · omega
    · omega
    · skip
      refine mo_bipush (pc := 191) X dL_law_191 (by decide) ?_
      refine mo_is5 (pc := 193) X dL_law_193 rfl (by decide) ?_
      have hnk : mo_nk g = 0 := by unfold mo_nk; rw [hS.2.2.2.2.2]; rfl
      exact ll_steps hL X hXs hRm hz1 hz2 hne fin 34 9 9 g 0 _ _ _ (by omega) rfl (by omega) hW (mo_S0_J hS (mo_Wd_Iv hW)) hA hV ⟨fun k hk => by omega, by rw [hN, hS.2.2.2.2.2], by rw [hN, hS.2.1]⟩ (fun k hk => by omega)
    · exfalso
      omega
  | succ z ih =>
    intro c q g G M t e1 e2 hW hS hA hV hN
    have hx0 := mo_Wd_x hW
    have h5 := hS.2.2.2.1
    refine mo_il5 (pc := 129) X dL_law_129 ?_
    refine mo_iconst (pc := 131) X dL_law_131 ?_
    refine mo_ic_ge (pc := 132) (tgt := 191) X dL_law_132 (by decide) ?_ ?_ (fun c_132 => ?_) (fun c_132 => ?_)
    · omega
    · omega
    · exfalso
      omega
    · skip
      refine mo_il4 (pc := 135) X dL_law_135 ?_
      refine mo_if_eq (pc := 137) (tgt := 182) X dL_law_137 (by decide) ?_ (fun c_137 => ?_) (fun c_137 => ?_)
      · omega
      · exfalso; omega
      · skip
        refine mo_al1 (pc := 140) X dL_law_140 ?_
        refine mo_al0 (pc := 141) X dL_law_141 ?_
        refine mo_iconst (pc := 142) X dL_law_142 ?_
        refine mo_il5 (pc := 143) X dL_law_143 ?_
        refine mo_iadd (pc := 145) X dL_law_145 ?_
        refine mo_callSS (pc := 146) (As := [_, _]) X hXs mo_k_L_86 mo_y_yL_cell dL_law_146 (ctL_cell hL (k := 5 + c) (by omega) (by omega)) rfl (by decide) (by decide) (Nat.le_of_ble_eq_true rfl) hRm ?_
        rintro u_146 G_146 M_146 t_146 ⟨rfl, rfl, rfl, rfl⟩
        show mo_V κ K N _ _ (mo_iv _ :: _) _ _ _
        refine mo_ldc (pc := 149) (v := 268435456) X dL_law_149 mo_wk_L_64 ?_
        refine mo_callSr (pc := 151) (As := [_, _]) X mo_k_L_34 mo_y_yL_up dL_law_151 (ctL_up (n := 268435456) (by omega)) rfl (by decide) (by decide) (Nat.le_of_ble_eq_true rfl) hRm ?_
        rintro u_151 G_151 M_151 t_151 ⟨rfl, rfl, r_151, rfl, h_151, rfl⟩
        show mo_V κ K N _ _ (mo_iv _ :: _) _ _ _
        have b_151 : 0 ≤ r_151 ∧ r_151 < 268435456 := by
          rw [h_151]
          exact mo_up2_b _ (by omega)
        clear h_151
        refine mo_iconst (pc := 154) X dL_law_154 ?_
        refine mo_al0 (pc := 155) X dL_law_155 ?_
        refine mo_bipush (pc := 156) X dL_law_156 (by decide) ?_
        refine mo_il5 (pc := 158) X dL_law_158 ?_
        refine mo_iadd (pc := 160) X dL_law_160 ?_
        refine mo_callSS (pc := 161) (As := [_, _]) X hXs mo_k_L_86 mo_y_yL_cell dL_law_161 (ctL_cell hL (k := 7 + c) (by omega) (by omega)) rfl (by decide) (by decide) (Nat.le_of_ble_eq_true rfl) hRm ?_
        rintro u_161 G_161 M_161 t_161 ⟨rfl, rfl, rfl, rfl⟩
        show mo_V κ K N _ _ (mo_iv _ :: _) _ _ _
        refine mo_bipush (pc := 164) X dL_law_164 (by decide) ?_
        refine mo_callSr (pc := 166) (As := [_, _]) X mo_k_L_34 mo_y_yL_up dL_law_166 (ctL_up (n := 6) (by omega)) rfl (by decide) (by decide) (Nat.le_of_ble_eq_true rfl) hRm ?_
        rintro u_166 G_166 M_166 t_166 ⟨rfl, rfl, r_166, rfl, h_166, rfl⟩
        show mo_V κ K N _ _ (mo_iv _ :: _) _ _ _
        have b_166 : 0 ≤ r_166 ∧ r_166 < 6 := by
          rw [h_166]
          exact mo_up2_b _ (by omega)
        clear h_166
        refine mo_iadd (pc := 169) X dL_law_169 ?_
        refine mo_callVr (pc := 170) (As := [_, _]) X mo_k_L_96 mo_y_yX4_addEscort rfl dL_law_170 (lt_addEscort hW (by omega) (p := r_151) (v := 1 + r_166) (by omega) (by omega) (by omega)) hx0 rfl (by decide) (by decide) (Nat.le_of_ble_eq_true rfl) hRm ?_
        rintro u_170 G_170 M_170 t_170 ⟨hG_170, rfl, rfl, s_170, w_170⟩
        show mo_V κ K N _ _ (mo_iv _ :: _) _ _ _
        have W_170 := mo_Wd_mono (C := 0) (mo_Wd_21 w_170) (by omega)
        have hx0 : G_170.1 x = some (.inl 4) := mo_Wd_x W_170
        refine mo_il5 (pc := 173) X dL_law_173 ?_
        refine mo_ic_ne (pc := 175) (tgt := 182) X dL_law_175 (by decide) ?_ ?_ (fun c_175 => ?_) (fun c_175 => ?_)
        · omega
        · omega
        · exfalso
          omega
        · skip
          refine mo_iconst (pc := 178) X dL_law_178 ?_
          refine mo_goto (pc := 179) (tgt := 183) X dL_law_179 (by decide) ?_
          refine mo_is4 (pc := 183) X dL_law_183 rfl (by decide) ?_
          refine mo_ii5 (pc := 185) X dL_law_185 rfl (by decide) ?_
          refine mo_goto (pc := 188) (tgt := 129) X dL_law_188 (by decide) ?_
          exact ih (c + 1) _ _ _ _ _ (by omega) (by omega) W_170 (mo_S0_AE hS) (by rw [hG_170.1]; exact hA) (by rw [hG_170.1]; exact hV) (fun j => by rw [s_170 h hz1]; exact hN j)
set_option maxHeartbeats 4000000 in
set_option maxRecDepth 100000 in
theorem ll_orders {κ : mo_T} {lf : Launch} {ρf : mo_E} {ret2 : Option FieldType} {K N : Nat} {b L x h h2 : Nat} {xs : Nat → Int32} (hL : L ≤ 260) (X : mo_Cx κ lf ρf cL_law 6 RL ret2 10) (hXs : mo_Xs κ b L xs) (hRm : mo_Rm κ K N) (hz1 : mo_oz x h) (hz2 : mo_oz x h2) (hne : h ≠ h2) (fin : ∀ (ls : List (Option Value)) (G : mo_G) (M : mo_M) (t : Nat), mo_V κ K N 271 ls [mo_iv 1] G M t) : ∀ (z k : Nat) (q : Int) (g : Nat → Int) (G : mo_G) (M : mo_M) (t : Nat), k + z = 3 → q = k → mo_Wd G M x g 0 → mo_S0 g k 0 2 → G.1 h = some (.inr (0, 64)) → G.1 h2 = some (.inr (0, 64)) → (∀ j, M h j = 0) → mo_V κ K N 65 [some (.ref b), some (.ref x), some (.ref h), some (.ref h2), some (mo_iv 1), some (mo_iv q)] [] G M t := by
  intro z
  induction z with
  | zero =>
    intro k q g G M t e1 e2 hW hS hA hV hN
    obtain rfl : k = 3 := by omega
    refine mo_il5 (pc := 65) X dL_law_65 ?_
    refine mo_iconst (pc := 67) X dL_law_67 ?_
    refine mo_ic_ge (pc := 68) (tgt := 126) X dL_law_68 (by decide) ?_ ?_ (fun c_68 => ?_) (fun c_68 => ?_)
    · omega
    · omega
    · skip
      refine mo_iconst (pc := 126) X dL_law_126 ?_
      refine mo_is5 (pc := 127) X dL_law_127 rfl (by decide) ?_
      exact ll_escorts hL X hXs hRm hz1 hz2 hne fin 2 0 0 g _ _ _ (by omega) rfl hW hS hA hV hN
    · exfalso
      omega
  | succ z ih =>
    intro k q g G M t e1 e2 hW hS hA hV hN
    have hx0 := mo_Wd_x hW
    have h4 := hS.2.2.1
    have h6 : (g 6).toNat = 2 := by rw [hS.2.2.2.2.1]; rfl
    refine mo_il5 (pc := 65) X dL_law_65 ?_
    refine mo_iconst (pc := 67) X dL_law_67 ?_
    refine mo_ic_ge (pc := 68) (tgt := 126) X dL_law_68 (by decide) ?_ ?_ (fun c_68 => ?_) (fun c_68 => ?_)
    · omega
    · omega
    · exfalso
      omega
    · skip
      refine mo_il4 (pc := 71) X dL_law_71 ?_
      refine mo_if_eq (pc := 73) (tgt := 117) X dL_law_73 (by decide) ?_ (fun c_73 => ?_) (fun c_73 => ?_)
      · omega
      · exfalso; omega
      · skip
        refine mo_al1 (pc := 76) X dL_law_76 ?_
        refine mo_al0 (pc := 77) X dL_law_77 ?_
        refine mo_iconst (pc := 78) X dL_law_78 ?_
        refine mo_il5 (pc := 79) X dL_law_79 ?_
        refine mo_iadd (pc := 81) X dL_law_81 ?_
        refine mo_callSS (pc := 82) (As := [_, _]) X hXs mo_k_L_86 mo_y_yL_cell dL_law_82 (ctL_cell hL (k := 2 + k) (by omega) (by omega)) rfl (by decide) (by decide) (Nat.le_of_ble_eq_true rfl) hRm ?_
        rintro u_82 G_82 M_82 t_82 ⟨rfl, rfl, rfl, rfl⟩
        show mo_V κ K N _ _ (mo_iv _ :: _) _ _ _
        refine mo_iconst (pc := 85) X dL_law_85 ?_
        refine mo_callSr (pc := 86) (As := [_, _]) X mo_k_L_34 mo_y_yL_up dL_law_86 (ctL_up (n := 4) (by omega)) rfl (by decide) (by decide) (Nat.le_of_ble_eq_true rfl) hRm ?_
        rintro u_86 G_86 M_86 t_86 ⟨rfl, rfl, r_86, rfl, h_86, rfl⟩
        show mo_V κ K N _ _ (mo_iv _ :: _) _ _ _
        have b_86 : 0 ≤ r_86 ∧ r_86 < 4 := by
          rw [h_86]
          exact mo_up2_b _ (by omega)
        clear h_86
        refine mo_iconst (pc := 89) X dL_law_89 ?_
        refine mo_al0 (pc := 90) X dL_law_90 ?_
        refine mo_iconst (pc := 91) X dL_law_91 ?_
        refine mo_il5 (pc := 92) X dL_law_92 ?_
        refine mo_iadd (pc := 94) X dL_law_94 ?_
        refine mo_callSS (pc := 95) (As := [_, _]) X hXs mo_k_L_86 mo_y_yL_cell dL_law_95 (ctL_cell hL (k := 2 + k) (by omega) (by omega)) rfl (by decide) (by decide) (Nat.le_of_ble_eq_true rfl) hRm ?_
        rintro u_95 G_95 M_95 t_95 ⟨rfl, rfl, rfl, rfl⟩
        show mo_V κ K N _ _ (mo_iv _ :: _) _ _ _
        refine mo_iconst (pc := 98) X dL_law_98 ?_
        refine mo_ishr (pc := 99) X dL_law_99 ?_
        refine mo_iconst (pc := 100) X dL_law_100 ?_
        refine mo_callSr (pc := 101) (As := [_, _]) X mo_k_L_34 mo_y_yL_up dL_law_101 (ctL_up (n := 3) (by omega)) rfl (by decide) (by decide) (Nat.le_of_ble_eq_true rfl) hRm ?_
        rintro u_101 G_101 M_101 t_101 ⟨rfl, rfl, r_101, rfl, h_101, rfl⟩
        show mo_V κ K N _ _ (mo_iv _ :: _) _ _ _
        have b_101 : 0 ≤ r_101 ∧ r_101 < 3 := by
          rw [h_101]
          exact mo_up2_b _ (by omega)
        clear h_101
        refine mo_iadd (pc := 104) X dL_law_104 ?_
        refine mo_callVr (pc := 105) (As := [_, _]) X mo_k_L_93 mo_y_yX4_addOrder rfl dL_law_105 (lt_addOrder hW (by omega) (p := r_86) (v := 1 + r_101) (by omega) (by rw [h6]; exact ⟨by omega, show 1 + r_101 < 4 by omega⟩) (by omega) (by omega)) hx0 rfl (by decide) (by decide) (Nat.le_of_ble_eq_true rfl) hRm ?_
        rintro u_105 G_105 M_105 t_105 ⟨hG_105, rfl, rfl, s_105, w_105⟩
        show mo_V κ K N _ _ (mo_iv _ :: _) _ _ _
        have W_105 := mo_Wd_mono (C := 0) (mo_Wd_21 w_105) (by omega)
        have hx0 : G_105.1 x = some (.inl 4) := mo_Wd_x W_105
        refine mo_il5 (pc := 108) X dL_law_108 ?_
        refine mo_ic_ne (pc := 110) (tgt := 117) X dL_law_110 (by decide) ?_ ?_ (fun c_110 => ?_) (fun c_110 => ?_)
        · omega
        · omega
        · exfalso
          omega
        · skip
          refine mo_iconst (pc := 113) X dL_law_113 ?_
          refine mo_goto (pc := 114) (tgt := 118) X dL_law_114 (by decide) ?_
          refine mo_is4 (pc := 118) X dL_law_118 rfl (by decide) ?_
          refine mo_ii5 (pc := 120) X dL_law_120 rfl (by decide) ?_
          refine mo_goto (pc := 123) (tgt := 65) X dL_law_123 (by decide) ?_
          exact ih (k + 1) _ _ _ _ _ (by omega) (by omega) W_105 (mo_S0_AO hS) (by rw [hG_105.1]; exact hA) (by rw [hG_105.1]; exact hV) (fun j => by rw [s_105 h hz1]; exact hN j)
set_option maxHeartbeats 4000000 in
set_option maxRecDepth 100000 in
theorem ll_start {κ : mo_T} {lf : Launch} {ρf : mo_E} {ret2 : Option FieldType} {K N : Nat} {b L x h h2 : Nat} {xs : Nat → Int32} (hL : L ≤ 260) (X : mo_Cx κ lf ρf cL_law 6 RL ret2 10) (hXs : mo_Xs κ b L xs) (hRm : mo_Rm κ K N) (hz1 : mo_oz x h) (hz2 : mo_oz x h2) (hne : h ≠ h2) (fin : ∀ (ls : List (Option Value)) (G : mo_G) (M : mo_M) (t : Nat), mo_V κ K N 271 ls [mo_iv 1] G M t) {G : mo_G} {M : mo_M} {t : Nat} (hW : mo_Wd G M x (fun _ => 0) 0) (hA : G.1 h = some (.inr (0, 64))) (hV : G.1 h2 = some (.inr (0, 64))) (hN : (∀ j, M h j = 0)) : mo_V κ K N 18 [some (.ref b), some (.ref x), some (.ref h), some (.ref h2), none, none] [] G M t := by
  have hx0 := mo_Wd_x hW
  have hS : mo_S0 (fun _ => 0) 0 0 0 := ⟨rfl, rfl, rfl, rfl, rfl, rfl⟩
  refine mo_al1 (pc := 18) X dL_law_18 ?_
  refine mo_iconst (pc := 19) X dL_law_19 ?_
  refine mo_al0 (pc := 20) X dL_law_20 ?_
  refine mo_iconst (pc := 21) X dL_law_21 ?_
  refine mo_callSS (pc := 22) (As := [_, _]) X hXs mo_k_L_86 mo_y_yL_cell dL_law_22 (ctL_cell hL (k := 0) (rfl) (by omega)) rfl (by decide) (by decide) (Nat.le_of_ble_eq_true rfl) hRm ?_
  rintro u_22 G_22 M_22 t_22 ⟨rfl, rfl, rfl, rfl⟩
  show mo_V κ K N _ _ (mo_iv _ :: _) _ _ _
  refine mo_iconst (pc := 25) X dL_law_25 ?_
  refine mo_callSr (pc := 26) (As := [_, _]) X mo_k_L_34 mo_y_yL_up dL_law_26 (ctL_up (n := 3) (by omega)) rfl (by decide) (by decide) (Nat.le_of_ble_eq_true rfl) hRm ?_
  rintro u_26 G_26 M_26 t_26 ⟨rfl, rfl, r_26, rfl, h_26, rfl⟩
  show mo_V κ K N _ _ (mo_iv _ :: _) _ _ _
  have b_26 : 0 ≤ r_26 ∧ r_26 < 3 := by
    rw [h_26]
    exact mo_up2_b _ (by omega)
  clear h_26
  refine mo_iadd (pc := 29) X dL_law_29 ?_
  refine mo_callVr (pc := 30) (As := [_]) X mo_k_L_90 mo_y_yX4_addVenue rfl dL_law_30 (lt_addVenue hW (by omega) (v := 1 + r_26) (by omega) (by omega)) hx0 rfl (by decide) (by decide) (Nat.le_of_ble_eq_true rfl) hRm ?_
  rintro u_30 G_30 M_30 t_30 ⟨hG_30, rfl, rfl, s_30, w_30⟩
  show mo_V κ K N _ _ (mo_iv _ :: _) _ _ _
  have W_30 := mo_Wd_mono (C := 0) (mo_Wd_21 w_30) (by omega)
  have hx0 : G_30.1 x = some (.inl 4) := mo_Wd_x W_30
  have hS1 := mo_S0_AV (r := 1 + r_26) hS (by omega)
  have h6 := hS1.2.2.2.2.1
  refine mo_if_ne (pc := 33) (tgt := 59) X dL_law_33 (by decide) ?_ (fun c_33 => ?_) (fun c_33 => ?_)
  · omega
  · exfalso
    omega
  · skip
    refine mo_al1 (pc := 36) X dL_law_36 ?_
    refine mo_iconst (pc := 37) X dL_law_37 ?_
    refine mo_al0 (pc := 38) X dL_law_38 ?_
    refine mo_iconst (pc := 39) X dL_law_39 ?_
    refine mo_callSS (pc := 40) (As := [_, _]) X hXs mo_k_L_86 mo_y_yL_cell dL_law_40 (ctL_cell hL (k := 1) (rfl) (by omega)) rfl (by decide) (by decide) (Nat.le_of_ble_eq_true rfl) hRm ?_
    rintro u_40 G_40 M_40 t_40 ⟨rfl, rfl, rfl, rfl⟩
    show mo_V κ K N _ _ (mo_iv _ :: _) _ _ _
    refine mo_iconst (pc := 43) X dL_law_43 ?_
    refine mo_callSr (pc := 44) (As := [_, _]) X mo_k_L_34 mo_y_yL_up dL_law_44 (ctL_up (n := 2) (by omega)) rfl (by decide) (by decide) (Nat.le_of_ble_eq_true rfl) hRm ?_
    rintro u_44 G_44 M_44 t_44 ⟨rfl, rfl, r_44, rfl, h_44, rfl⟩
    show mo_V κ K N _ _ (mo_iv _ :: _) _ _ _
    have b_44 : 0 ≤ r_44 ∧ r_44 < 2 := by
      rw [h_44]
      exact mo_up2_b _ (by omega)
    clear h_44
    refine mo_iadd (pc := 47) X dL_law_47 ?_
    refine mo_callVr (pc := 48) (As := [_]) X mo_k_L_90 mo_y_yX4_addVenue rfl dL_law_48 (lt_addVenue W_30 (by omega) (v := 1 + r_44) (by omega) (by omega)) hx0 rfl (by decide) (by decide) (Nat.le_of_ble_eq_true rfl) hRm ?_
    rintro u_48 G_48 M_48 t_48 ⟨hG_48, rfl, rfl, s_48, w_48⟩
    show mo_V κ K N _ _ (mo_iv _ :: _) _ _ _
    have W_48 := mo_Wd_mono (C := 0) (mo_Wd_21 w_48) (by omega)
    have hx0 : G_48.1 x = some (.inl 4) := mo_Wd_x W_48
    have hS2 := mo_S0_AV (r := 1 + r_44) hS1 (by omega)
    rw [h6]
    refine mo_iconst (pc := 51) X dL_law_51 ?_
    refine mo_ic_ne (pc := 52) (tgt := 59) X dL_law_52 (by decide) ?_ ?_ (fun c_52 => ?_) (fun c_52 => ?_)
    · omega
    · omega
    · exfalso
      omega
    · skip
      refine mo_iconst (pc := 55) X dL_law_55 ?_
      refine mo_goto (pc := 56) (tgt := 60) X dL_law_56 (by decide) ?_
      refine mo_is4 (pc := 60) X dL_law_60 rfl (by decide) ?_
      refine mo_iconst (pc := 62) X dL_law_62 ?_
      refine mo_is5 (pc := 63) X dL_law_63 rfl (by decide) ?_
      exact ll_orders hL X hXs hRm hz1 hz2 hne fin 3 0 0 _ _ _ _ (by omega) rfl W_48 hS2 (by rw [hG_48.1, hG_30.1]; exact hA) (by rw [hG_48.1, hG_30.1]; exact hV) (fun j => by rw [s_48 h hz1, s_30 h hz1]; exact hN j)
