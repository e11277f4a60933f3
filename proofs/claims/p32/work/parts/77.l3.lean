/-! the law's look at the counts -/
theorem mo_ov_2 (g : Nat → Int) (o : Nat) : mo_ov g o 2 = g (176 + o) := rfl
theorem mo_ov_3 (g : Nat → Int) (o : Nat) : mo_ov g o 3 = g (184 + o) := rfl
theorem mo_ov_4 (g : Nat → Int) (o : Nat) : mo_ov g o 4 = mo_cnt (mo_plb g o 19) (mo_nk g) := rfl
theorem mo_ov_5 (g : Nat → Int) (o : Nat) : mo_ov g o 5 = mo_ow g o (g 0).toNat := rfl
theorem mo_ev_1 (g : Nat → Int) (o : Nat) : mo_ev g o 1 = g (198 + o) := rfl
theorem mo_ev_2 (g : Nat → Int) (o : Nat) : mo_ev g o 2 = mo_mny g (g 0) (mo_nk g) o := rfl
theorem mo_ev_3 (g : Nat → Int) (o : Nat) : mo_ev g o 3 = g (204 + o) := rfl
theorem mo_hsum_c {g : Nat → Int} {B : Int} (hI : mo_Iv g B) {o n : Nat} (ho : o < 8) (hn : n ≤ 20) : 0 ≤ mo_hsum g o n ∧ mo_hsum g o n ≤ 140 := by
  have h := mo_sum_le (f := fun i => g (8 + 20 * o + i)) (c := 7) (n := n) (fun j hj => by
    have h9 := hI.2.2.2.2.2.2.2.2.1 (20 * o + j) (by omega)
    rw [show 8 + (20 * o + j) = 8 + 20 * o + j by omega] at h9
    exact h9)
  unfold mo_hsum
  omega
theorem mo_sum3 (f : Nat → Int) : mo_sum f 3 = f 0 + f 1 + f 2 := by
  show 0 + f 0 + f 1 + f 2 = _
  omega
theorem mo_sum2 (f : Nat → Int) : mo_sum f 2 = f 0 + f 1 := by
  show 0 + f 0 + f 1 = _
  omega
set_option maxHeartbeats 4000000 in
set_option maxRecDepth 100000 in
theorem ctL_areCounts {lf : Launch} {ρf : mo_E} {G : mo_G} {M : mo_M} {t : Nat} {x h : Nat} {g : Nat → Int} {B : Int} (hW : mo_Wd G M x g B) (hB : B ≤ 600000000) (hJ : mo_J g) (hA : G.1 h = some (.inr (0, 64))) (hN : mo_NA M h g) : mo_Ct lf ρf yL_areCounts cL_areCounts 11 (some .boolean) 7 0 0 [.ref x, .ref h] G M t (mo_pi G t (fun y M' => y = 1 ∧ mo_Sm x M M' ∧ mo_Wd G M' x g B)) := by
  refine mo_ofW (ls0 := [some (.ref x), some (.ref h), none, none, none, none, none, none, none, none, none]) (by decide) rfl (Nat.le_of_ble_eq_true rfl) ?_
  intro κ X Y
  have X : mo_Cx κ lf ρf cL_areCounts 11 RL (some .boolean) 7 := X
  have hx0 := mo_Wd_x hW
  have hI := mo_Wd_Iv hW
  have hn := mo_Iv_n hI
  obtain ⟨hI0, hI1, hI2, hI3, hI4, hI5, hI6, hI7, hIh, hIa, hIe, hIm, hIs, hIl, hIw, hIr, -⟩ := id hI
  obtain ⟨hN1, hN2, hN3⟩ := hN
  obtain ⟨⟨c4, c5, c6⟩, -, -, -, ⟨k1, k2, k3⟩, j6, -⟩ := id hJ.1
  obtain ⟨W, hWn⟩ : ∃ W : Nat, g 0 = W := ⟨(g 0).toNat, by omega⟩
  have hWt : (g 0).toNat = W := by omega
  have hW20 : W < 20 := by omega
  have vl : ∀ w : Int, 0 ≤ w ∧ w ≤ 9 → mo_Ct lf ρf yX4_value cX4_value 2 (some .int) 6 0 0 [.ref x, mo_iv w] G M t (mo_pi G t (fun y M' => y = mo_nv g w ∧ M = M')) := fun w hw => lt_value hW hB hw
  have od : ∀ k : Nat, (k : Int) < g 4 → ∀ w : Int, 0 ≤ w ∧ w ≤ 6 → mo_Ct lf ρf yX4_order cX4_order 3 (some .int) 6 0 0 [.ref x, mo_iv (k : Int), mo_iv w] G M t (mo_pi G t (fun y M' => y = mo_ov g k w ∧ M = M')) := fun k hk w hw => lt_order hW hB (o := (k : Int)) (by omega) hw
  have es : ∀ k : Nat, (k : Int) < g 5 → ∀ w : Int, 0 ≤ w ∧ w ≤ 3 → mo_Ct lf ρf yX4_escort cX4_escort 3 (some .int) 6 0 0 [.ref x, mo_iv (k : Int), mo_iv w] G M t (mo_pi G t (fun y M' => y = mo_ev g k w ∧ M = M')) := fun k hk w hw => lt_escort hW hB (o := (k : Int)) (by omega) hw
  have hr : ∀ k w : Nat, (k : Int) < g 4 → w ≤ 19 → mo_Ct lf ρf yX4_hours cX4_hours 3 (some .int) 6 0 0 [.ref x, mo_iv (k : Int), mo_iv (w : Int)] G M t (mo_pi G t (fun y M' => y = g (8 + 20 * k + w) ∧ M = M')) := fun k w hk hw => lt_hours hW hB (o := (k : Int)) (w := (w : Int)) (by omega) (by omega)
  have ow : ∀ (k : Nat) (w : Int), (k : Int) < g 4 → w = g 0 → mo_Ct lf ρf yX4_owed cX4_owed 3 (some .int) 6 0 0 [.ref x, mo_iv (k : Int), mo_iv w] G M t (mo_pi G t (fun y M' => y = mo_ow g k W ∧ M = M')) := fun k w hk hw => by
    rw [← hWt, ← hw]
    exact lt_owed hW hB (o := (k : Int)) (w := w) (by omega) (by omega)
  have ob : ∀ w : Int, w = g 0 → mo_Ct lf ρf yX4_owedBehind cX4_owedBehind 2 (some .int) 6 0 0 [.ref x, mo_iv w] G M t (mo_pi G t (fun y M' => y = mo_owa (mo_pl W 61 g).2 W ∧ mo_Sm x M M' ∧ mo_Wd G M' x g B)) := fun w hw => by
    rw [← hWt, ← hw]
    exact lt_owedBehind hW hB (w := w) (by omega) (by omega)
  have mt : ∀ k, k < mo_nk g → ∀ w : Int, 0 ≤ w ∧ w ≤ 5 → mo_Ct lf ρf yX4_meeting cX4_meeting 4 (some .int) 6 0 0 [.ref x, mo_iv (M h k), mo_iv w] G M t (mo_pi G t (fun y M' => y = mo_fld g k (w.toNat + 1) ∧ M = M')) := fun k hk w hw => by
    have e := hN1 k hk
    have mk := mo_Iv_m hI hk
    unfold mo_Mt at mk
    rw [e]
    exact lt_meeting hW hB (mo_pl_k hJ.1 hk) (by omega) hw
  have loopB : ∀ (z c : Nat) (sm hd ms q : Int) (o7 o8 o9 o10 : Option Value), c + z = 2 → q = c → sm = mo_owa g W → hd = g 2 - mo_sum (fun i => g (204 + i)) c → ms = g 3 → mo_V κ 0 0 273 [some (.ref x), some (.ref h), some (mo_iv sm), some (mo_iv hd), some (mo_iv ms), some (mo_iv 1), some (mo_iv q), o7, o8, o9, o10] [] G M t := by
    intro z
    induction z with
    | zero =>
      intro c sm hd ms q o7 o8 o9 o10 e1 e2 e3 e4 e5
      obtain rfl : c = 2 := by omega
      rw [mo_sum2] at e4
      simp only [Nat.add_zero, Nat.reduceAdd] at e4
      have hb1 := mo_owa_b hI hW20
      have hb2 := mo_owa_b (mo_pl_Iv hW20 61 hI).1 hW20
      have hle := mo_owa_pl hW20 hI hJ
      refine mo_il6 (pc := 273) X dL_areCounts_273 ?_
      refine mo_al0 (pc := 275) X dL_areCounts_275 ?_
      refine mo_iconst (pc := 276) X dL_areCounts_276 ?_
      refine mo_cVI (pc := 277) (As := [_]) X mo_k_L_9 mo_y_yX4_value rfl dL_areCounts_277 (vl 1 (by decide)) hx0 rfl (by decide) (by decide) (Nat.le_of_ble_eq_true rfl) ?_
      rintro r_277 _ ⟨h_277, rfl⟩
      rw [mo_nv_1] at h_277
      refine mo_ic_ge (pc := 280) (tgt := 328) X dL_areCounts_280 (by decide) ?_ ?_ (fun c_280 => ?_) (fun c_280 => ?_)
      · omega
      · omega
      · skip
        refine mo_il5 (pc := 328) X dL_areCounts_328 ?_
        refine mo_if_eq (pc := 330) (tgt := 375) X dL_areCounts_330 (by decide) ?_ (fun c_330 => ?_) (fun c_330 => ?_)
        · omega
        · exfalso; omega
        · skip
          refine mo_al0 (pc := 333) X dL_areCounts_333 ?_
          refine mo_bipush (pc := 334) X dL_areCounts_334 (by decide) ?_
          refine mo_cVI (pc := 336) (As := [_]) X mo_k_L_9 mo_y_yX4_value rfl dL_areCounts_336 (vl 8 (by decide)) hx0 rfl (by decide) (by decide) (Nat.le_of_ble_eq_true rfl) ?_
          rintro r_336 _ ⟨h_336, rfl⟩
          rw [mo_nv_8, hWt] at h_336
          refine mo_il2 (pc := 339) X dL_areCounts_339 ?_
          refine mo_ic_ne (pc := 340) (tgt := 375) X dL_areCounts_340 (by decide) ?_ ?_ (fun c_340 => ?_) (fun c_340 => ?_)
          · omega
          · omega
          · exfalso
            omega
          · skip
            refine mo_il3 (pc := 343) X dL_areCounts_343 ?_
            refine mo_if_ne (pc := 344) (tgt := 375) X dL_areCounts_344 (by decide) ?_ (fun c_344 => ?_) (fun c_344 => ?_)
            · omega
            · exfalso
              omega
            · skip
              refine mo_al0 (pc := 347) X dL_areCounts_347 ?_
              refine mo_bipush (pc := 348) X dL_areCounts_348 (by decide) ?_
              refine mo_cVI (pc := 350) (As := [_]) X mo_k_L_9 mo_y_yX4_value rfl dL_areCounts_350 (vl 7 (by decide)) hx0 rfl (by decide) (by decide) (Nat.le_of_ble_eq_true rfl) ?_
              rintro r_350 _ ⟨h_350, rfl⟩
              rw [mo_nv_7] at h_350
              refine mo_il4 (pc := 353) X dL_areCounts_353 ?_
              refine mo_ic_ne (pc := 355) (tgt := 375) X dL_areCounts_355 (by decide) ?_ ?_ (fun c_355 => ?_) (fun c_355 => ?_)
              · omega
              · omega
              · exfalso
                omega
              · skip
                refine mo_al0 (pc := 358) X dL_areCounts_358 ?_
                refine mo_al0 (pc := 359) X dL_areCounts_359 ?_
                refine mo_iconst (pc := 360) X dL_areCounts_360 ?_
                refine mo_cVI (pc := 361) (As := [_]) X mo_k_L_9 mo_y_yX4_value rfl dL_areCounts_361 (vl 4 (by decide)) hx0 rfl (by decide) (by decide) (Nat.le_of_ble_eq_true rfl) ?_
                rintro r_361 _ ⟨h_361, rfl⟩
                rw [mo_nv_4] at h_361
                refine mo_cVI (pc := 364) (As := [_]) X mo_k_L_31 mo_y_yX4_owedBehind rfl dL_areCounts_364 (ob r_361 h_361) hx0 rfl (by decide) (by decide) (Nat.le_of_ble_eq_true rfl) ?_
                rintro r_364 M9 ⟨h_364, s9, w9⟩
                refine mo_il2 (pc := 367) X dL_areCounts_367 ?_
                refine mo_ic_gt (pc := 368) (tgt := 375) X dL_areCounts_368 (by decide) ?_ ?_ (fun c_368 => ?_) (fun c_368 => ?_)
                · omega
                · omega
                · exfalso
                  omega
                · skip
                  refine mo_iconst (pc := 371) X dL_areCounts_371 ?_
                  refine mo_goto (pc := 372) (tgt := 376) X dL_areCounts_372 (by decide) ?_
                  refine mo_zret (pc := 376) X Y rfl ?_ dL_areCounts_376 ⟨rfl, rfl, _, rfl, ?_⟩
                  · omega
                  exact ⟨rfl, s9, w9⟩
      · exfalso
        omega
    | succ z ih =>
      intro c sm hd ms q o7 o8 o9 o10 e1 e2 e3 e4 e5
      subst e2
      have q6 := j6 (g 0) c (by omega)
      have ql := hIl c (by omega)
      have qb := mo_mny_le g (g 0) (mo_nk g) c
      refine mo_il6 (pc := 273) X dL_areCounts_273 ?_
      refine mo_al0 (pc := 275) X dL_areCounts_275 ?_
      refine mo_iconst (pc := 276) X dL_areCounts_276 ?_
      refine mo_cVI (pc := 277) (As := [_]) X mo_k_L_9 mo_y_yX4_value rfl dL_areCounts_277 (vl 1 (by decide)) hx0 rfl (by decide) (by decide) (Nat.le_of_ble_eq_true rfl) ?_
      rintro r_277 _ ⟨h_277, rfl⟩
      rw [mo_nv_1] at h_277
      refine mo_ic_ge (pc := 280) (tgt := 328) X dL_areCounts_280 (by decide) ?_ ?_ (fun c_280 => ?_) (fun c_280 => ?_)
      · omega
      · omega
      · exfalso
        omega
      · skip
        refine mo_il3 (pc := 283) X dL_areCounts_283 ?_
        refine mo_al0 (pc := 284) X dL_areCounts_284 ?_
        refine mo_il6 (pc := 285) X dL_areCounts_285 ?_
        refine mo_iconst (pc := 287) X dL_areCounts_287 ?_
        refine mo_cVI (pc := 288) (As := [_, _]) X mo_k_L_28 mo_y_yX4_escort rfl dL_areCounts_288 (es c (by omega) 3 (by decide)) hx0 rfl (by decide) (by decide) (Nat.le_of_ble_eq_true rfl) ?_
        rintro r_288 _ ⟨h_288, rfl⟩
        rw [mo_ev_3] at h_288
        refine mo_isub (pc := 291) X dL_areCounts_291 ?_
        refine mo_is3 (pc := 292) X dL_areCounts_292 rfl (by decide) ?_
        refine mo_il5 (pc := 293) X dL_areCounts_293 ?_
        refine mo_if_eq (pc := 295) (tgt := 319) X dL_areCounts_295 (by decide) ?_ (fun c_295 => ?_) (fun c_295 => ?_)
        · omega
        · exfalso; omega
        · skip
          refine mo_al0 (pc := 298) X dL_areCounts_298 ?_
          refine mo_il6 (pc := 299) X dL_areCounts_299 ?_
          refine mo_iconst (pc := 301) X dL_areCounts_301 ?_
          refine mo_cVI (pc := 302) (As := [_, _]) X mo_k_L_28 mo_y_yX4_escort rfl dL_areCounts_302 (es c (by omega) 2 (by decide)) hx0 rfl (by decide) (by decide) (Nat.le_of_ble_eq_true rfl) ?_
          rintro r_302 _ ⟨h_302, rfl⟩
          rw [mo_ev_2] at h_302
          refine mo_al0 (pc := 305) X dL_areCounts_305 ?_
          refine mo_il6 (pc := 306) X dL_areCounts_306 ?_
          refine mo_iconst (pc := 308) X dL_areCounts_308 ?_
          refine mo_cVI (pc := 309) (As := [_, _]) X mo_k_L_28 mo_y_yX4_escort rfl dL_areCounts_309 (es c (by omega) 1 (by decide)) hx0 rfl (by decide) (by decide) (Nat.le_of_ble_eq_true rfl) ?_
          rintro r_309 _ ⟨h_309, rfl⟩
          rw [mo_ev_1] at h_309
          refine mo_ic_gt (pc := 312) (tgt := 319) X dL_areCounts_312 (by decide) ?_ ?_ (fun c_312 => ?_) (fun c_312 => ?_)
          · omega
          · omega
          · exfalso
            omega
          · skip
            refine mo_iconst (pc := 315) X dL_areCounts_315 ?_
            refine mo_goto (pc := 316) (tgt := 320) X dL_areCounts_316 (by decide) ?_
            refine mo_is5 (pc := 320) X dL_areCounts_320 rfl (by decide) ?_
            refine mo_ii6 (pc := 322) X dL_areCounts_322 rfl (by decide) ?_
            refine mo_goto (pc := 325) (tgt := 273) X dL_areCounts_325 (by decide) ?_
            exact ih (c + 1) _ _ _ _ _ _ _ _ (by omega) (by omega) e3 (by rw [e4, h_288]; show _ = g 2 - (mo_sum (fun i => g (204 + i)) c + g (204 + c)); omega) e5
  have loopA : ∀ (z k : Nat) (sm hd ms q : Int) (o7 o8 o9 o10 : Option Value), k + z = 3 → q = k → sm = mo_sum (fun o => mo_ow g o W) k → hd = mo_sum (fun o => g (176 + o)) k → ms = mo_sum (fun o => g (184 + o)) k → mo_V κ 0 0 13 [some (.ref x), some (.ref h), some (mo_iv sm), some (mo_iv hd), some (mo_iv ms), some (mo_iv 1), some (mo_iv q), o7, o8, o9, o10] [] G M t := by
    intro z
    induction z with
    | zero =>
      intro k sm hd ms q o7 o8 o9 o10 e1 e2 e3 e4 e5
      obtain rfl : k = 3 := by omega
      refine mo_il6 (pc := 13) X dL_areCounts_13 ?_
      refine mo_al0 (pc := 15) X dL_areCounts_15 ?_
      refine mo_iconst (pc := 16) X dL_areCounts_16 ?_
      refine mo_cVI (pc := 17) (As := [_]) X mo_k_L_9 mo_y_yX4_value rfl dL_areCounts_17 (vl 0 (by decide)) hx0 rfl (by decide) (by decide) (Nat.le_of_ble_eq_true rfl) ?_
      rintro r_17 _ ⟨h_17, rfl⟩
      rw [mo_nv_0] at h_17
      refine mo_ic_ge (pc := 20) (tgt := 270) X dL_areCounts_20 (by decide) ?_ ?_ (fun c_20 => ?_) (fun c_20 => ?_)
      · omega
      · omega
      · skip
        refine mo_iconst (pc := 270) X dL_areCounts_270 ?_
        refine mo_is6 (pc := 271) X dL_areCounts_271 rfl (by decide) ?_
        refine loopB 2 0 _ _ _ _ _ _ _ _ (by omega) rfl ?_ ?_ ?_
        · rw [e3]
          unfold mo_owa
          rw [show (g 4).toNat = 3 by omega]
        · rw [e4, mo_sum3]
          show g 176 + g 177 + g 178 = g 2 - 0
          omega
        · rw [e5, mo_sum3]
          show g 184 + g 185 + g 186 = g 3
          omega
      · exfalso
        omega
    | succ z ih =>
      intro k sm hd ms q o7 o8 o9 o10 e1 e2 e3 e4 e5
      subst e2
      have hke := hIe k (by omega)
      have hkb := mo_ow_rg hI (show k < 8 by omega) hW20
      have in2 : ∀ (z2 j : Nat) (du pn q9 : Int) (o10 : Option Value), j + z2 = mo_nk g → q9 = j → du = -g (176 + k) + mo_hsum g k (W + 1) - mo_cnt (mo_plb g k W) j → pn = mo_cnt (mo_plb g k 19) j → mo_V κ 0 0 76 [some (.ref x), some (.ref h), some (mo_iv sm), some (mo_iv hd), some (mo_iv ms), some (mo_iv 1), some (mo_iv (k : Int)), some (mo_iv du), some (mo_iv pn), some (mo_iv q9), o10] [] G M t := by
        intro z2
        induction z2 with
        | zero =>
          intro j du pn q9 o10 f1 f2 f3 f4
          obtain rfl : j = mo_nk g := by omega
          have hD : mo_ow g k W = if du < 0 then 0 else du := by
            unfold mo_ow
            rw [← f3]
          have hsb := mo_hsum_c hI (show k < 8 by omega) (show W + 1 ≤ 20 by omega)
          have cb1 := mo_cnt_le (mo_plb g k W) (mo_nk g)
          have cb2 := mo_cnt_le (mo_plb g k 19) (mo_nk g)
          refine mo_il9 (pc := 76) X dL_areCounts_76 ?_
          refine mo_al1 (pc := 78) X dL_areCounts_78 ?_
          refine mo_bipush (pc := 79) X dL_areCounts_79 (by decide) ?_
          refine mo_iald (pc := 81) (j := 62) X dL_areCounts_81 hA (by omega) ?_ ?_ rfl ?_
          · omega
          · omega
          rw [hN2]
          refine mo_ic_ge (pc := 82) (tgt := 171) X dL_areCounts_82 (by decide) ?_ ?_ (fun c_82 => ?_) (fun c_82 => ?_)
          · omega
          · omega
          · skip
            refine mo_al0 (pc := 171) X dL_areCounts_171 ?_
            refine mo_il6 (pc := 172) X dL_areCounts_172 ?_
            refine mo_iconst (pc := 174) X dL_areCounts_174 ?_
            refine mo_cVI (pc := 175) (As := [_, _]) X mo_k_L_19 mo_y_yX4_order rfl dL_areCounts_175 (od k (by omega) 5 (by decide)) hx0 rfl (by decide) (by decide) (Nat.le_of_ble_eq_true rfl) ?_
            rintro r_175 _ ⟨h_175, rfl⟩
            rw [mo_ov_5, hWt] at h_175
            refine mo_il7 (pc := 178) X dL_areCounts_178 ?_
            refine mo_if_ge (pc := 180) (tgt := 187) X dL_areCounts_180 (by decide) ?_ (fun c_180 => ?_) (fun c_180 => ?_)
            · omega
            · skip
              refine mo_il7 (pc := 187) X dL_areCounts_187 ?_
              refine mo_ic_ne (pc := 189) (tgt := 229) X dL_areCounts_189 (by decide) ?_ ?_ (fun c_189 => ?_) (fun c_189 => ?_)
              · omega
              · omega
              · exfalso
                rw [hD] at h_175
                split at h_175 <;> omega
              · skip
                refine mo_al0 (pc := 192) X dL_areCounts_192 ?_
                refine mo_il6 (pc := 193) X dL_areCounts_193 ?_
                refine mo_iconst (pc := 195) X dL_areCounts_195 ?_
                refine mo_cVI (pc := 196) (As := [_, _]) X mo_k_L_19 mo_y_yX4_order rfl dL_areCounts_196 (od k (by omega) 4 (by decide)) hx0 rfl (by decide) (by decide) (Nat.le_of_ble_eq_true rfl) ?_
                rintro r_196 _ ⟨h_196, rfl⟩
                rw [mo_ov_4] at h_196
                refine mo_il8 (pc := 199) X dL_areCounts_199 ?_
                refine mo_ic_ne (pc := 201) (tgt := 229) X dL_areCounts_201 (by decide) ?_ ?_ (fun c_201 => ?_) (fun c_201 => ?_)
                · omega
                · omega
                · exfalso
                  omega
                · skip
                  refine mo_al0 (pc := 204) X dL_areCounts_204 ?_
                  refine mo_il6 (pc := 205) X dL_areCounts_205 ?_
                  refine mo_al0 (pc := 207) X dL_areCounts_207 ?_
                  refine mo_iconst (pc := 208) X dL_areCounts_208 ?_
                  refine mo_cVI (pc := 209) (As := [_]) X mo_k_L_9 mo_y_yX4_value rfl dL_areCounts_209 (vl 4 (by decide)) hx0 rfl (by decide) (by decide) (Nat.le_of_ble_eq_true rfl) ?_
                  rintro r_209 _ ⟨h_209, rfl⟩
                  rw [mo_nv_4] at h_209
                  refine mo_cVI (pc := 212) (As := [_, _]) X mo_k_L_25 mo_y_yX4_owed rfl dL_areCounts_212 (ow k r_209 (by omega) h_209) hx0 rfl (by decide) (by decide) (Nat.le_of_ble_eq_true rfl) ?_
                  rintro r_212 _ ⟨h_212, rfl⟩
                  refine mo_al0 (pc := 215) X dL_areCounts_215 ?_
                  refine mo_il6 (pc := 216) X dL_areCounts_216 ?_
                  refine mo_iconst (pc := 218) X dL_areCounts_218 ?_
                  refine mo_cVI (pc := 219) (As := [_, _]) X mo_k_L_19 mo_y_yX4_order rfl dL_areCounts_219 (od k (by omega) 5 (by decide)) hx0 rfl (by decide) (by decide) (Nat.le_of_ble_eq_true rfl) ?_
                  rintro r_219 _ ⟨h_219, rfl⟩
                  rw [mo_ov_5, hWt] at h_219
                  refine mo_ic_ne (pc := 222) (tgt := 229) X dL_areCounts_222 (by decide) ?_ ?_ (fun c_222 => ?_) (fun c_222 => ?_)
                  · omega
                  · omega
                  · exfalso
                    omega
                  · skip
                    refine mo_iconst (pc := 225) X dL_areCounts_225 ?_
                    refine mo_goto (pc := 226) (tgt := 230) X dL_areCounts_226 (by decide) ?_
                    refine mo_is5 (pc := 230) X dL_areCounts_230 rfl (by decide) ?_
                    refine mo_il2 (pc := 232) X dL_areCounts_232 ?_
                    refine mo_al0 (pc := 233) X dL_areCounts_233 ?_
                    refine mo_il6 (pc := 234) X dL_areCounts_234 ?_
                    refine mo_iconst (pc := 236) X dL_areCounts_236 ?_
                    refine mo_cVI (pc := 237) (As := [_, _]) X mo_k_L_19 mo_y_yX4_order rfl dL_areCounts_237 (od k (by omega) 5 (by decide)) hx0 rfl (by decide) (by decide) (Nat.le_of_ble_eq_true rfl) ?_
                    rintro r_237 _ ⟨h_237, rfl⟩
                    rw [mo_ov_5, hWt] at h_237
                    refine mo_iadd (pc := 240) X dL_areCounts_240 ?_
                    refine mo_is2 (pc := 241) X dL_areCounts_241 rfl (by decide) ?_
                    refine mo_il3 (pc := 242) X dL_areCounts_242 ?_
                    refine mo_al0 (pc := 243) X dL_areCounts_243 ?_
                    refine mo_il6 (pc := 244) X dL_areCounts_244 ?_
                    refine mo_iconst (pc := 246) X dL_areCounts_246 ?_
                    refine mo_cVI (pc := 247) (As := [_, _]) X mo_k_L_19 mo_y_yX4_order rfl dL_areCounts_247 (od k (by omega) 2 (by decide)) hx0 rfl (by decide) (by decide) (Nat.le_of_ble_eq_true rfl) ?_
                    rintro r_247 _ ⟨h_247, rfl⟩
                    rw [mo_ov_2] at h_247
                    refine mo_iadd (pc := 250) X dL_areCounts_250 ?_
                    refine mo_is3 (pc := 251) X dL_areCounts_251 rfl (by decide) ?_
                    refine mo_il4 (pc := 252) X dL_areCounts_252 ?_
                    refine mo_al0 (pc := 254) X dL_areCounts_254 ?_
                    refine mo_il6 (pc := 255) X dL_areCounts_255 ?_
                    refine mo_iconst (pc := 257) X dL_areCounts_257 ?_
                    refine mo_cVI (pc := 258) (As := [_, _]) X mo_k_L_19 mo_y_yX4_order rfl dL_areCounts_258 (od k (by omega) 3 (by decide)) hx0 rfl (by decide) (by decide) (Nat.le_of_ble_eq_true rfl) ?_
                    rintro r_258 _ ⟨h_258, rfl⟩
                    rw [mo_ov_3] at h_258
                    refine mo_iadd (pc := 261) X dL_areCounts_261 ?_
                    refine mo_is4 (pc := 262) X dL_areCounts_262 rfl (by decide) ?_
                    refine mo_ii6 (pc := 264) X dL_areCounts_264 rfl (by decide) ?_
                    refine mo_goto (pc := 267) (tgt := 13) X dL_areCounts_267 (by decide) ?_
                    exact ih (k + 1) _ _ _ _ _ _ _ _ (by omega) (by omega) (by rw [e3, h_237]; rfl) (by rw [e4, h_247]; rfl) (by rw [e5, h_258]; rfl)
            · skip
              refine mo_iconst (pc := 183) X dL_areCounts_183 ?_
              refine mo_goto (pc := 184) (tgt := 189) X dL_areCounts_184 (by decide) ?_
              refine mo_ic_ne (pc := 189) (tgt := 229) X dL_areCounts_189 (by decide) ?_ ?_ (fun c_189 => ?_) (fun c_189 => ?_)
              · omega
              · omega
              · exfalso
                rw [hD] at h_175
                split at h_175 <;> omega
              · skip
                refine mo_al0 (pc := 192) X dL_areCounts_192 ?_
                refine mo_il6 (pc := 193) X dL_areCounts_193 ?_
                refine mo_iconst (pc := 195) X dL_areCounts_195 ?_
                refine mo_cVI (pc := 196) (As := [_, _]) X mo_k_L_19 mo_y_yX4_order rfl dL_areCounts_196 (od k (by omega) 4 (by decide)) hx0 rfl (by decide) (by decide) (Nat.le_of_ble_eq_true rfl) ?_
                rintro r_196 _ ⟨h_196, rfl⟩
                rw [mo_ov_4] at h_196
                refine mo_il8 (pc := 199) X dL_areCounts_199 ?_
                refine mo_ic_ne (pc := 201) (tgt := 229) X dL_areCounts_201 (by decide) ?_ ?_ (fun c_201 => ?_) (fun c_201 => ?_)
                · omega
                · omega
                · exfalso
                  omega
                · skip
                  refine mo_al0 (pc := 204) X dL_areCounts_204 ?_
                  refine mo_il6 (pc := 205) X dL_areCounts_205 ?_
                  refine mo_al0 (pc := 207) X dL_areCounts_207 ?_
                  refine mo_iconst (pc := 208) X dL_areCounts_208 ?_
                  refine mo_cVI (pc := 209) (As := [_]) X mo_k_L_9 mo_y_yX4_value rfl dL_areCounts_209 (vl 4 (by decide)) hx0 rfl (by decide) (by decide) (Nat.le_of_ble_eq_true rfl) ?_
                  rintro r_209 _ ⟨h_209, rfl⟩
                  rw [mo_nv_4] at h_209
                  refine mo_cVI (pc := 212) (As := [_, _]) X mo_k_L_25 mo_y_yX4_owed rfl dL_areCounts_212 (ow k r_209 (by omega) h_209) hx0 rfl (by decide) (by decide) (Nat.le_of_ble_eq_true rfl) ?_
                  rintro r_212 _ ⟨h_212, rfl⟩
                  refine mo_al0 (pc := 215) X dL_areCounts_215 ?_
                  refine mo_il6 (pc := 216) X dL_areCounts_216 ?_
                  refine mo_iconst (pc := 218) X dL_areCounts_218 ?_
                  refine mo_cVI (pc := 219) (As := [_, _]) X mo_k_L_19 mo_y_yX4_order rfl dL_areCounts_219 (od k (by omega) 5 (by decide)) hx0 rfl (by decide) (by decide) (Nat.le_of_ble_eq_true rfl) ?_
                  rintro r_219 _ ⟨h_219, rfl⟩
                  rw [mo_ov_5, hWt] at h_219
                  refine mo_ic_ne (pc := 222) (tgt := 229) X dL_areCounts_222 (by decide) ?_ ?_ (fun c_222 => ?_) (fun c_222 => ?_)
                  · omega
                  · omega
                  · exfalso
                    omega
                  · skip
                    refine mo_iconst (pc := 225) X dL_areCounts_225 ?_
                    refine mo_goto (pc := 226) (tgt := 230) X dL_areCounts_226 (by decide) ?_
                    refine mo_is5 (pc := 230) X dL_areCounts_230 rfl (by decide) ?_
                    refine mo_il2 (pc := 232) X dL_areCounts_232 ?_
                    refine mo_al0 (pc := 233) X dL_areCounts_233 ?_
                    refine mo_il6 (pc := 234) X dL_areCounts_234 ?_
                    refine mo_iconst (pc := 236) X dL_areCounts_236 ?_
                    refine mo_cVI (pc := 237) (As := [_, _]) X mo_k_L_19 mo_y_yX4_order rfl dL_areCounts_237 (od k (by omega) 5 (by decide)) hx0 rfl (by decide) (by decide) (Nat.le_of_ble_eq_true rfl) ?_
                    rintro r_237 _ ⟨h_237, rfl⟩
                    rw [mo_ov_5, hWt] at h_237
                    refine mo_iadd (pc := 240) X dL_areCounts_240 ?_
                    refine mo_is2 (pc := 241) X dL_areCounts_241 rfl (by decide) ?_
                    refine mo_il3 (pc := 242) X dL_areCounts_242 ?_
                    refine mo_al0 (pc := 243) X dL_areCounts_243 ?_
                    refine mo_il6 (pc := 244) X dL_areCounts_244 ?_
                    refine mo_iconst (pc := 246) X dL_areCounts_246 ?_
                    refine mo_cVI (pc := 247) (As := [_, _]) X mo_k_L_19 mo_y_yX4_order rfl dL_areCounts_247 (od k (by omega) 2 (by decide)) hx0 rfl (by decide) (by decide) (Nat.le_of_ble_eq_true rfl) ?_
                    rintro r_247 _ ⟨h_247, rfl⟩
                    rw [mo_ov_2] at h_247
                    refine mo_iadd (pc := 250) X dL_areCounts_250 ?_
                    refine mo_is3 (pc := 251) X dL_areCounts_251 rfl (by decide) ?_
                    refine mo_il4 (pc := 252) X dL_areCounts_252 ?_
                    refine mo_al0 (pc := 254) X dL_areCounts_254 ?_
                    refine mo_il6 (pc := 255) X dL_areCounts_255 ?_
                    refine mo_iconst (pc := 257) X dL_areCounts_257 ?_
                    refine mo_cVI (pc := 258) (As := [_, _]) X mo_k_L_19 mo_y_yX4_order rfl dL_areCounts_258 (od k (by omega) 3 (by decide)) hx0 rfl (by decide) (by decide) (Nat.le_of_ble_eq_true rfl) ?_
                    rintro r_258 _ ⟨h_258, rfl⟩
                    rw [mo_ov_3] at h_258
                    refine mo_iadd (pc := 261) X dL_areCounts_261 ?_
                    refine mo_is4 (pc := 262) X dL_areCounts_262 rfl (by decide) ?_
                    refine mo_ii6 (pc := 264) X dL_areCounts_264 rfl (by decide) ?_
                    refine mo_goto (pc := 267) (tgt := 13) X dL_areCounts_267 (by decide) ?_
                    exact ih (k + 1) _ _ _ _ _ _ _ _ (by omega) (by omega) (by rw [e3, h_237]; rfl) (by rw [e4, h_247]; rfl) (by rw [e5, h_258]; rfl)
          · exfalso
            omega
        | succ z2 ih2 =>
          intro j du pn q9 o10 f1 f2 f3 f4
          subst f2
          have hj : j < mo_nk g := by omega
          have mj := mo_Iv_m hI hj
          unfold mo_Mt at mj
          have P1 : mo_cnt (mo_plb g k W) (j + 1) = mo_cnt (mo_plb g k W) j + (if mo_fld g j 1 = (k : Int) ∧ mo_fld g j 6 = 0 ∧ mo_fld g j 2 ≤ (W : Int) then 1 else 0) := by
            rw [mo_cnt_s]
            unfold mo_plb
            simp only [decide_eq_true_eq]
          have P2 : mo_cnt (mo_plb g k 19) (j + 1) = mo_cnt (mo_plb g k 19) j + (if mo_fld g j 1 = (k : Int) ∧ mo_fld g j 6 = 0 ∧ mo_fld g j 2 ≤ 19 then 1 else 0) := by
            rw [mo_cnt_s]
            unfold mo_plb
            simp only [decide_eq_true_eq]
          refine mo_il9 (pc := 76) X dL_areCounts_76 ?_
          refine mo_al1 (pc := 78) X dL_areCounts_78 ?_
          refine mo_bipush (pc := 79) X dL_areCounts_79 (by decide) ?_
          refine mo_iald (pc := 81) (j := 62) X dL_areCounts_81 hA (by omega) ?_ ?_ rfl ?_
          · omega
          · omega
          rw [hN2]
          refine mo_ic_ge (pc := 82) (tgt := 171) X dL_areCounts_82 (by decide) ?_ ?_ (fun c_82 => ?_) (fun c_82 => ?_)
          · omega
          · omega
          · exfalso
            omega
          · skip
            refine mo_al0 (pc := 85) X dL_areCounts_85 ?_
            refine mo_al1 (pc := 86) X dL_areCounts_86 ?_
            refine mo_il9 (pc := 87) X dL_areCounts_87 ?_
            refine mo_iald (pc := 89) (j := j) X dL_areCounts_89 hA (by omega) ?_ ?_ (by omega) ?_
            · omega
            · omega
            refine mo_iconst (pc := 90) X dL_areCounts_90 ?_
            refine mo_cVI (pc := 91) (As := [_, _]) X mo_k_L_15 mo_y_yX4_meeting rfl dL_areCounts_91 (mt j (by omega) 0 (by decide)) hx0 rfl (by decide) (by decide) (Nat.le_of_ble_eq_true rfl) ?_
            rintro r_91 _ ⟨h_91, rfl⟩
            change r_91 = mo_fld g j 1 at h_91
            refine mo_il6 (pc := 94) X dL_areCounts_94 ?_
            refine mo_ic_ne (pc := 96) (tgt := 115) X dL_areCounts_96 (by decide) ?_ ?_ (fun c_96 => ?_) (fun c_96 => ?_)
            · omega
            · omega
            · skip
              refine mo_iconst (pc := 115) X dL_areCounts_115 ?_
              refine mo_is10 (pc := 116) X dL_areCounts_116 rfl (by decide) ?_
              refine mo_il8 (pc := 118) X dL_areCounts_118 ?_
              refine mo_il10 (pc := 120) X dL_areCounts_120 ?_
              refine mo_if_eq (pc := 122) (tgt := 129) X dL_areCounts_122 (by decide) ?_ (fun c_122 => ?_) (fun c_122 => ?_)
              · omega
              · skip
                refine mo_iconst (pc := 129) X dL_areCounts_129 ?_
                refine mo_iadd (pc := 130) X dL_areCounts_130 ?_
                refine mo_is8 (pc := 131) X dL_areCounts_131 rfl (by decide) ?_
                refine mo_il7 (pc := 133) X dL_areCounts_133 ?_
                refine mo_il10 (pc := 135) X dL_areCounts_135 ?_
                refine mo_if_eq (pc := 137) (tgt := 161) X dL_areCounts_137 (by decide) ?_ (fun c_137 => ?_) (fun c_137 => ?_)
                · omega
                · skip
                  refine mo_iconst (pc := 161) X dL_areCounts_161 ?_
                  refine mo_isub (pc := 162) X dL_areCounts_162 ?_
                  refine mo_is7 (pc := 163) X dL_areCounts_163 rfl (by decide) ?_
                  refine mo_ii9 (pc := 165) X dL_areCounts_165 rfl (by decide) ?_
                  refine mo_goto (pc := 168) (tgt := 76) X dL_areCounts_168 (by decide) ?_
                  exact ih2 (j + 1) _ _ _ _ (by omega) (by omega) (by rw [P1]; split <;> omega) (by rw [P2]; split <;> omega)
                · exfalso; omega
              · exfalso; omega
            · skip
              refine mo_al0 (pc := 99) X dL_areCounts_99 ?_
              refine mo_al1 (pc := 100) X dL_areCounts_100 ?_
              refine mo_il9 (pc := 101) X dL_areCounts_101 ?_
              refine mo_iald (pc := 103) (j := j) X dL_areCounts_103 hA (by omega) ?_ ?_ (by omega) ?_
              · omega
              · omega
              refine mo_iconst (pc := 104) X dL_areCounts_104 ?_
              refine mo_cVI (pc := 105) (As := [_, _]) X mo_k_L_15 mo_y_yX4_meeting rfl dL_areCounts_105 (mt j (by omega) 5 (by decide)) hx0 rfl (by decide) (by decide) (Nat.le_of_ble_eq_true rfl) ?_
              rintro r_105 _ ⟨h_105, rfl⟩
              change r_105 = mo_fld g j 6 at h_105
              refine mo_if_ne (pc := 108) (tgt := 115) X dL_areCounts_108 (by decide) ?_ (fun c_108 => ?_) (fun c_108 => ?_)
              · omega
              · skip
                refine mo_iconst (pc := 115) X dL_areCounts_115 ?_
                refine mo_is10 (pc := 116) X dL_areCounts_116 rfl (by decide) ?_
                refine mo_il8 (pc := 118) X dL_areCounts_118 ?_
                refine mo_il10 (pc := 120) X dL_areCounts_120 ?_
                refine mo_if_eq (pc := 122) (tgt := 129) X dL_areCounts_122 (by decide) ?_ (fun c_122 => ?_) (fun c_122 => ?_)
                · omega
                · skip
                  refine mo_iconst (pc := 129) X dL_areCounts_129 ?_
                  refine mo_iadd (pc := 130) X dL_areCounts_130 ?_
                  refine mo_is8 (pc := 131) X dL_areCounts_131 rfl (by decide) ?_
                  refine mo_il7 (pc := 133) X dL_areCounts_133 ?_
                  refine mo_il10 (pc := 135) X dL_areCounts_135 ?_
                  refine mo_if_eq (pc := 137) (tgt := 161) X dL_areCounts_137 (by decide) ?_ (fun c_137 => ?_) (fun c_137 => ?_)
                  · omega
                  · skip
                    refine mo_iconst (pc := 161) X dL_areCounts_161 ?_
                    refine mo_isub (pc := 162) X dL_areCounts_162 ?_
                    refine mo_is7 (pc := 163) X dL_areCounts_163 rfl (by decide) ?_
                    refine mo_ii9 (pc := 165) X dL_areCounts_165 rfl (by decide) ?_
                    refine mo_goto (pc := 168) (tgt := 76) X dL_areCounts_168 (by decide) ?_
                    exact ih2 (j + 1) _ _ _ _ (by omega) (by omega) (by rw [P1]; split <;> omega) (by rw [P2]; split <;> omega)
                  · exfalso; omega
                · exfalso; omega
              · skip
                refine mo_iconst (pc := 111) X dL_areCounts_111 ?_
                refine mo_goto (pc := 112) (tgt := 116) X dL_areCounts_112 (by decide) ?_
                refine mo_is10 (pc := 116) X dL_areCounts_116 rfl (by decide) ?_
                refine mo_il8 (pc := 118) X dL_areCounts_118 ?_
                refine mo_il10 (pc := 120) X dL_areCounts_120 ?_
                refine mo_if_eq (pc := 122) (tgt := 129) X dL_areCounts_122 (by decide) ?_ (fun c_122 => ?_) (fun c_122 => ?_)
                · omega
                · exfalso; omega
                · skip
                  refine mo_iconst (pc := 125) X dL_areCounts_125 ?_
                  refine mo_goto (pc := 126) (tgt := 130) X dL_areCounts_126 (by decide) ?_
                  refine mo_iadd (pc := 130) X dL_areCounts_130 ?_
                  refine mo_is8 (pc := 131) X dL_areCounts_131 rfl (by decide) ?_
                  refine mo_il7 (pc := 133) X dL_areCounts_133 ?_
                  refine mo_il10 (pc := 135) X dL_areCounts_135 ?_
                  refine mo_if_eq (pc := 137) (tgt := 161) X dL_areCounts_137 (by decide) ?_ (fun c_137 => ?_) (fun c_137 => ?_)
                  · omega
                  · exfalso; omega
                  · skip
                    refine mo_al0 (pc := 140) X dL_areCounts_140 ?_
                    refine mo_al1 (pc := 141) X dL_areCounts_141 ?_
                    refine mo_il9 (pc := 142) X dL_areCounts_142 ?_
                    refine mo_iald (pc := 144) (j := j) X dL_areCounts_144 hA (by omega) ?_ ?_ (by omega) ?_
                    · omega
                    · omega
                    refine mo_iconst (pc := 145) X dL_areCounts_145 ?_
                    refine mo_cVI (pc := 146) (As := [_, _]) X mo_k_L_15 mo_y_yX4_meeting rfl dL_areCounts_146 (mt j (by omega) 1 (by decide)) hx0 rfl (by decide) (by decide) (Nat.le_of_ble_eq_true rfl) ?_
                    rintro r_146 _ ⟨h_146, rfl⟩
                    change r_146 = mo_fld g j 2 at h_146
                    refine mo_al0 (pc := 149) X dL_areCounts_149 ?_
                    refine mo_iconst (pc := 150) X dL_areCounts_150 ?_
                    refine mo_cVI (pc := 151) (As := [_]) X mo_k_L_9 mo_y_yX4_value rfl dL_areCounts_151 (vl 4 (by decide)) hx0 rfl (by decide) (by decide) (Nat.le_of_ble_eq_true rfl) ?_
                    rintro r_151 _ ⟨h_151, rfl⟩
                    rw [mo_nv_4] at h_151
                    refine mo_ic_gt (pc := 154) (tgt := 161) X dL_areCounts_154 (by decide) ?_ ?_ (fun c_154 => ?_) (fun c_154 => ?_)
                    · omega
                    · omega
                    · skip
                      refine mo_iconst (pc := 161) X dL_areCounts_161 ?_
                      refine mo_isub (pc := 162) X dL_areCounts_162 ?_
                      refine mo_is7 (pc := 163) X dL_areCounts_163 rfl (by decide) ?_
                      refine mo_ii9 (pc := 165) X dL_areCounts_165 rfl (by decide) ?_
                      refine mo_goto (pc := 168) (tgt := 76) X dL_areCounts_168 (by decide) ?_
                      exact ih2 (j + 1) _ _ _ _ (by omega) (by omega) (by rw [P1]; split <;> omega) (by rw [P2]; split <;> omega)
                    · skip
                      refine mo_iconst (pc := 157) X dL_areCounts_157 ?_
                      refine mo_goto (pc := 158) (tgt := 162) X dL_areCounts_158 (by decide) ?_
                      refine mo_isub (pc := 162) X dL_areCounts_162 ?_
                      refine mo_is7 (pc := 163) X dL_areCounts_163 rfl (by decide) ?_
                      refine mo_ii9 (pc := 165) X dL_areCounts_165 rfl (by decide) ?_
                      refine mo_goto (pc := 168) (tgt := 76) X dL_areCounts_168 (by decide) ?_
                      exact ih2 (j + 1) _ _ _ _ (by omega) (by omega) (by rw [P1]; split <;> omega) (by rw [P2]; split <;> omega)
      have in1 : ∀ (z1 w : Nat) (du q9 : Int) (o10 : Option Value), w + z1 = W + 1 → q9 = w → du = -g (176 + k) + mo_hsum g k w → mo_V κ 0 0 44 [some (.ref x), some (.ref h), some (mo_iv sm), some (mo_iv hd), some (mo_iv ms), some (mo_iv 1), some (mo_iv (k : Int)), some (mo_iv du), some (mo_iv 0), some (mo_iv q9), o10] [] G M t := by
        intro z1
        induction z1 with
        | zero =>
          intro w du q9 o10 f1 f2 f3
          obtain rfl : w = W + 1 := by omega
          refine mo_il9 (pc := 44) X dL_areCounts_44 ?_
          refine mo_al0 (pc := 46) X dL_areCounts_46 ?_
          refine mo_iconst (pc := 47) X dL_areCounts_47 ?_
          refine mo_cVI (pc := 48) (As := [_]) X mo_k_L_9 mo_y_yX4_value rfl dL_areCounts_48 (vl 4 (by decide)) hx0 rfl (by decide) (by decide) (Nat.le_of_ble_eq_true rfl) ?_
          rintro r_48 _ ⟨h_48, rfl⟩
          rw [mo_nv_4] at h_48
          refine mo_ic_gt (pc := 51) (tgt := 73) X dL_areCounts_51 (by decide) ?_ ?_ (fun c_51 => ?_) (fun c_51 => ?_)
          · omega
          · omega
          · skip
            refine mo_iconst (pc := 73) X dL_areCounts_73 ?_
            refine mo_is9 (pc := 74) X dL_areCounts_74 rfl (by decide) ?_
            exact in2 (mo_nk g) 0 _ _ _ _ (by omega) rfl (by rw [f3]; exact (Int.sub_zero _).symm) rfl
          · exfalso
            omega
        | succ z1 ih1 =>
          intro w du q9 o10 f1 f2 f3
          subst f2
          refine mo_il9 (pc := 44) X dL_areCounts_44 ?_
          refine mo_al0 (pc := 46) X dL_areCounts_46 ?_
          refine mo_iconst (pc := 47) X dL_areCounts_47 ?_
          refine mo_cVI (pc := 48) (As := [_]) X mo_k_L_9 mo_y_yX4_value rfl dL_areCounts_48 (vl 4 (by decide)) hx0 rfl (by decide) (by decide) (Nat.le_of_ble_eq_true rfl) ?_
          rintro r_48 _ ⟨h_48, rfl⟩
          rw [mo_nv_4] at h_48
          refine mo_ic_gt (pc := 51) (tgt := 73) X dL_areCounts_51 (by decide) ?_ ?_ (fun c_51 => ?_) (fun c_51 => ?_)
          · omega
          · omega
          · exfalso
            omega
          · skip
            refine mo_il7 (pc := 54) X dL_areCounts_54 ?_
            refine mo_al0 (pc := 56) X dL_areCounts_56 ?_
            refine mo_il6 (pc := 57) X dL_areCounts_57 ?_
            refine mo_il9 (pc := 59) X dL_areCounts_59 ?_
            refine mo_cVI (pc := 61) (As := [_, _]) X mo_k_L_22 mo_y_yX4_hours rfl dL_areCounts_61 (hr k w (by omega) (by omega)) hx0 rfl (by decide) (by decide) (Nat.le_of_ble_eq_true rfl) ?_
            rintro r_61 _ ⟨h_61, rfl⟩
            refine mo_iadd (pc := 64) X dL_areCounts_64 ?_
            refine mo_is7 (pc := 65) X dL_areCounts_65 rfl (by decide) ?_
            refine mo_ii9 (pc := 67) X dL_areCounts_67 rfl (by decide) ?_
            refine mo_goto (pc := 70) (tgt := 44) X dL_areCounts_70 (by decide) ?_
            exact ih1 (w + 1) _ _ _ (by omega) (by omega) (by rw [f3, h_61]; show _ = -g (176 + k) + (mo_hsum g k w + g (8 + 20 * k + w)); omega)
      refine mo_il6 (pc := 13) X dL_areCounts_13 ?_
      refine mo_al0 (pc := 15) X dL_areCounts_15 ?_
      refine mo_iconst (pc := 16) X dL_areCounts_16 ?_
      refine mo_cVI (pc := 17) (As := [_]) X mo_k_L_9 mo_y_yX4_value rfl dL_areCounts_17 (vl 0 (by decide)) hx0 rfl (by decide) (by decide) (Nat.le_of_ble_eq_true rfl) ?_
      rintro r_17 _ ⟨h_17, rfl⟩
      rw [mo_nv_0] at h_17
      refine mo_ic_ge (pc := 20) (tgt := 270) X dL_areCounts_20 (by decide) ?_ ?_ (fun c_20 => ?_) (fun c_20 => ?_)
      · omega
      · omega
      · exfalso
        omega
      · skip
        refine mo_il5 (pc := 23) X dL_areCounts_23 ?_
        refine mo_if_eq (pc := 25) (tgt := 270) X dL_areCounts_25 (by decide) ?_ (fun c_25 => ?_) (fun c_25 => ?_)
        · omega
        · exfalso; omega
        · skip
          refine mo_al0 (pc := 28) X dL_areCounts_28 ?_
          refine mo_il6 (pc := 29) X dL_areCounts_29 ?_
          refine mo_iconst (pc := 31) X dL_areCounts_31 ?_
          refine mo_cVI (pc := 32) (As := [_, _]) X mo_k_L_19 mo_y_yX4_order rfl dL_areCounts_32 (od k (by omega) 2 (by decide)) hx0 rfl (by decide) (by decide) (Nat.le_of_ble_eq_true rfl) ?_
          rintro r_32 _ ⟨h_32, rfl⟩
          rw [mo_ov_2] at h_32
          refine mo_ineg (pc := 35) X dL_areCounts_35 ?_
          refine mo_is7 (pc := 36) X dL_areCounts_36 rfl (by decide) ?_
          refine mo_iconst (pc := 38) X dL_areCounts_38 ?_
          refine mo_is8 (pc := 39) X dL_areCounts_39 rfl (by decide) ?_
          refine mo_iconst (pc := 41) X dL_areCounts_41 ?_
          refine mo_is9 (pc := 42) X dL_areCounts_42 rfl (by decide) ?_
          exact in1 (W + 1) 0 _ _ _ (by omega) rfl (by rw [h_32]; exact (Int.add_zero _).symm)
  refine mo_iconst (pc := 0) X dL_areCounts_0 ?_
  refine mo_is2 (pc := 1) X dL_areCounts_1 rfl (by decide) ?_
  refine mo_iconst (pc := 2) X dL_areCounts_2 ?_
  refine mo_is3 (pc := 3) X dL_areCounts_3 rfl (by decide) ?_
  refine mo_iconst (pc := 4) X dL_areCounts_4 ?_
  refine mo_is4 (pc := 5) X dL_areCounts_5 rfl (by decide) ?_
  refine mo_iconst (pc := 7) X dL_areCounts_7 ?_
  refine mo_is5 (pc := 8) X dL_areCounts_8 rfl (by decide) ?_
  refine mo_iconst (pc := 10) X dL_areCounts_10 ?_
  refine mo_is6 (pc := 11) X dL_areCounts_11 rfl (by decide) ?_
  exact loopA 3 0 _ _ _ _ _ _ _ _ (by omega) rfl rfl rfl rfl
