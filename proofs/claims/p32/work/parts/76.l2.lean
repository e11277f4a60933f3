/-! the law's look at the meetings -/
theorem mo_nv_0 (g : Nat → Int) : mo_nv g 0 = g 4 := rfl
theorem mo_nv_1 (g : Nat → Int) : mo_nv g 1 = g 5 := rfl
theorem mo_nv_3 (g : Nat → Int) : mo_nv g 3 = g 7 := rfl
theorem mo_nv_4 (g : Nat → Int) : mo_nv g 4 = g 0 := rfl
theorem mo_nv_6 (g : Nat → Int) : mo_nv g 6 = g 2 := rfl
theorem mo_nv_7 (g : Nat → Int) : mo_nv g 7 = g 3 := rfl
theorem mo_nv_8 (g : Nat → Int) : mo_nv g 8 = mo_owa g (g 0).toNat := rfl
theorem mo_nv_9 (g : Nat → Int) : mo_nv g 9 = g 1 := rfl
/-- the law's numbers are the calendar's -/
def mo_NA (M : mo_M) (h : Nat) (g : Nat → Int) : Prop := (∀ k, k < mo_nk g → M h k = mo_fld g k 0) ∧ M h 62 = g 7 ∧ M h 63 = g 1
set_option maxHeartbeats 4000000 in
set_option maxRecDepth 100000 in
theorem ctL_areMeetings {lf : Launch} {ρf : mo_E} {G : mo_G} {M : mo_M} {t : Nat} {x h h2 : Nat} {g : Nat → Int} {B : Int} (hW : mo_Wd G M x g B) (hB : B ≤ 600000000) (hJ : mo_J g) (hA : G.1 h = some (.inr (0, 64))) (hV : G.1 h2 = some (.inr (0, 64))) (hz : mo_oz x h2) (hne : h ≠ h2) (hN : mo_NA M h g) : mo_Ct lf ρf yL_areMeetings cL_areMeetings 12 (some .boolean) 7 0 0 [.ref x, .ref h, .ref h2] G M t (mo_pi G t (fun y M' => y = 1 ∧ (∀ k, k < mo_nk g → M' h2 k = mo_fld g k 2) ∧ ∀ a, a ≠ h2 → M' a = M a)) := by
  refine mo_ofW (ls0 := [some (.ref x), some (.ref h), some (.ref h2), none, none, none, none, none, none, none, none, none]) (by decide) rfl (Nat.le_of_ble_eq_true rfl) ?_
  intro κ X Y
  have X : mo_Cx κ lf ρf cL_areMeetings 12 RL (some .boolean) 7 := X
  have hx0 := mo_Wd_x hW
  have hI := mo_Wd_Iv hW
  have hn := mo_Iv_n hI
  obtain ⟨hI0, hI1, hI2, hI3, hI4, hI5, hI6, hI7, -⟩ := id hI
  obtain ⟨hN1, hN2, hN3⟩ := hN
  have vl : ∀ (M2 : mo_M), (∀ a, a ≠ h2 → M2 a = M a) → ∀ w : Int, 0 ≤ w ∧ w ≤ 9 → mo_Ct lf ρf yX4_value cX4_value 2 (some .int) 6 0 0 [.ref x, mo_iv w] G M2 t (mo_pi G t (fun y M' => y = mo_nv g w ∧ M2 = M')) := fun M2 hM w hw => lt_value (mo_Wd_oz hW fun a h1 h3 => hM a (by omega)) hB hw
  have mt : ∀ (M2 : mo_M), (∀ a, a ≠ h2 → M2 a = M a) → ∀ k, k < mo_nk g → ∀ w : Int, 0 ≤ w ∧ w ≤ 5 → mo_Ct lf ρf yX4_meeting cX4_meeting 4 (some .int) 6 0 0 [.ref x, mo_iv (M2 h k), mo_iv w] G M2 t (mo_pi G t (fun y M' => y = mo_fld g k (w.toNat + 1) ∧ M2 = M')) := fun M2 hM k hk w hw => by
    have e := hN1 k hk
    have mk := mo_Iv_m hI hk
    unfold mo_Mt at mk
    rw [hM h hne, e]
    exact lt_meeting (mo_Wd_oz hW fun a h1 h3 => hM a (by omega)) hB (mo_pl_k hJ.1 hk) (by omega) hw
  have inner : ∀ (M2 : mo_M) (k : Nat) (hd q6 q7 : Int), (∀ a, a ≠ h2 → M2 a = M a) → k < mo_nk g → q6 = mo_fld g k 2 → q7 = mo_fld g k 6 → (∀ o8 o9 o10 o11 : Option Value, mo_V κ 0 0 325 [some (.ref x), some (.ref h), some (.ref h2), some (mo_iv 1), some (mo_iv hd), some (mo_iv (k : Int)), some (mo_iv q6), some (mo_iv q7), o8, o9, o10, o11] [] G M2 t) → ∀ (z j : Nat) (q : Int) (o9 o10 o11 : Option Value), j + z = k → q = j → mo_V κ 0 0 145 [some (.ref x), some (.ref h), some (.ref h2), some (mo_iv 1), some (mo_iv hd), some (mo_iv (k : Int)), some (mo_iv q6), some (mo_iv q7), some (mo_iv q), o9, o10, o11] [] G M2 t := by
    intro M2 k hd q6 q7 hM hk e6 e7 nxt z
    have mk := mo_Iv_m hI hk
    unfold mo_Mt at mk
    induction z with
    | zero =>
      intro j q o9 o10 o11 e1 e2
      subst e2
      refine mo_il8 (pc := 145) X dL_areMeetings_145 ?_
      refine mo_il5 (pc := 147) X dL_areMeetings_147 ?_
      refine mo_ic_ge (pc := 149) (tgt := 325) X dL_areMeetings_149 (by decide) ?_ ?_ (fun c_149 => ?_) (fun c_149 => ?_)
      · omega
      · omega
      · skip
        exact nxt _ _ _ _
      · exfalso
        omega
    | succ z ih =>
      intro j q o9 o10 o11 e1 e2
      subst e2
      have hjk : j < k := by omega
      have mj := mo_Iv_m hI (k := j) (by omega)
      unfold mo_Mt at mj
      have cf := hJ.1.2.2.2.1 j k hjk hk
      have J254 : ∀ (b9 b10 b11 : Int) (o11 : Option Value), (b9 = 0 ∨ (b9 = 1 ∧ mo_fld g j 6 ≠ 2 ∧ mo_fld g k 6 ≠ 2 ∧ mo_fld g j 2 = mo_fld g k 2)) → ((b10 = 1 ∧ mo_fld g j 3 = mo_fld g k 3) ∨ (b10 = 0 ∧ ¬ mo_fld g j 3 = mo_fld g k 3)) → ((b11 = 1 ∧ mo_fld g j 3 / 4 = mo_fld g k 3 / 4) ∨ (b11 = 0 ∧ ¬ mo_fld g j 3 / 4 = mo_fld g k 3 / 4)) → mo_V κ 0 0 254 [some (.ref x), some (.ref h), some (.ref h2), some (mo_iv 1), some (mo_iv hd), some (mo_iv (k : Int)), some (mo_iv q6), some (mo_iv q7), some (mo_iv (j : Int)), some (mo_iv b9), some (mo_iv b10), o11] [mo_iv b11] G M2 t := by
        intro b9 b10 b11 o11 g9 g10 g11
        refine mo_is11 (pc := 254) X dL_areMeetings_254 rfl (by decide) ?_
        refine mo_il9 (pc := 256) X dL_areMeetings_256 ?_
        refine mo_if_eq (pc := 258) (tgt := 313) X dL_areMeetings_258 (by decide) ?_ (fun c_258 => ?_) (fun c_258 => ?_)
        · omega
        · skip
          refine mo_iconst (pc := 313) X dL_areMeetings_313 ?_
          refine mo_goto (pc := 314) (tgt := 318) X dL_areMeetings_314 (by decide) ?_
          refine mo_is3 (pc := 318) X dL_areMeetings_318 rfl (by decide) ?_
          refine mo_ii8 (pc := 319) X dL_areMeetings_319 rfl (by decide) ?_
          refine mo_goto (pc := 322) (tgt := 145) X dL_areMeetings_322 (by decide) ?_
          exact ih (j + 1) _ _ _ _ (by omega) (by omega)
        · skip
          refine mo_il10 (pc := 261) X dL_areMeetings_261 ?_
          refine mo_if_eq (pc := 263) (tgt := 287) X dL_areMeetings_263 (by decide) ?_ (fun c_263 => ?_) (fun c_263 => ?_)
          · omega
          · skip
            refine mo_il11 (pc := 287) X dL_areMeetings_287 ?_
            refine mo_if_eq (pc := 289) (tgt := 313) X dL_areMeetings_289 (by decide) ?_ (fun c_289 => ?_) (fun c_289 => ?_)
            · omega
            · skip
              refine mo_iconst (pc := 313) X dL_areMeetings_313 ?_
              refine mo_goto (pc := 314) (tgt := 318) X dL_areMeetings_314 (by decide) ?_
              refine mo_is3 (pc := 318) X dL_areMeetings_318 rfl (by decide) ?_
              refine mo_ii8 (pc := 319) X dL_areMeetings_319 rfl (by decide) ?_
              refine mo_goto (pc := 322) (tgt := 145) X dL_areMeetings_322 (by decide) ?_
              exact ih (j + 1) _ _ _ _ (by omega) (by omega)
            · skip
              refine mo_al0 (pc := 292) X dL_areMeetings_292 ?_
              refine mo_al1 (pc := 293) X dL_areMeetings_293 ?_
              refine mo_il8 (pc := 294) X dL_areMeetings_294 ?_
              refine mo_iald (pc := 296) (j := j) X dL_areMeetings_296 hA (by omega) ?_ ?_ (by omega) ?_
              · omega
              · omega
              refine mo_iconst (pc := 297) X dL_areMeetings_297 ?_
              refine mo_cVI (pc := 298) (As := [_, _]) X mo_k_L_15 mo_y_yX4_meeting rfl dL_areMeetings_298 (mt M2 hM j (by omega) 0 (by decide)) hx0 rfl (by decide) (by decide) (Nat.le_of_ble_eq_true rfl) ?_
              rintro r_298 _ ⟨h_298, rfl⟩
              change r_298 = mo_fld g j 1 at h_298
              refine mo_al0 (pc := 301) X dL_areMeetings_301 ?_
              refine mo_al1 (pc := 302) X dL_areMeetings_302 ?_
              refine mo_il5 (pc := 303) X dL_areMeetings_303 ?_
              refine mo_iald (pc := 305) (j := k) X dL_areMeetings_305 hA (by omega) ?_ ?_ (by omega) ?_
              · omega
              · omega
              refine mo_iconst (pc := 306) X dL_areMeetings_306 ?_
              refine mo_cVI (pc := 307) (As := [_, _]) X mo_k_L_15 mo_y_yX4_meeting rfl dL_areMeetings_307 (mt M2 hM k (by omega) 0 (by decide)) hx0 rfl (by decide) (by decide) (Nat.le_of_ble_eq_true rfl) ?_
              rintro r_307 _ ⟨h_307, rfl⟩
              change r_307 = mo_fld g k 1 at h_307
              refine mo_ic_eq (pc := 310) (tgt := 317) X dL_areMeetings_310 (by decide) ?_ ?_ (fun c_310 => ?_) (fun c_310 => ?_)
              · omega
              · omega
              · exfalso
                rcases g9 with g9 | g9
                · omega
                · exact (cf g9.2.1 g9.2.2.1 g9.2.2.2).2 ⟨by omega, by omega⟩
              · skip
                refine mo_iconst (pc := 313) X dL_areMeetings_313 ?_
                refine mo_goto (pc := 314) (tgt := 318) X dL_areMeetings_314 (by decide) ?_
                refine mo_is3 (pc := 318) X dL_areMeetings_318 rfl (by decide) ?_
                refine mo_ii8 (pc := 319) X dL_areMeetings_319 rfl (by decide) ?_
                refine mo_goto (pc := 322) (tgt := 145) X dL_areMeetings_322 (by decide) ?_
                exact ih (j + 1) _ _ _ _ (by omega) (by omega)
          · skip
            refine mo_al0 (pc := 266) X dL_areMeetings_266 ?_
            refine mo_al1 (pc := 267) X dL_areMeetings_267 ?_
            refine mo_il8 (pc := 268) X dL_areMeetings_268 ?_
            refine mo_iald (pc := 270) (j := j) X dL_areMeetings_270 hA (by omega) ?_ ?_ (by omega) ?_
            · omega
            · omega
            refine mo_iconst (pc := 271) X dL_areMeetings_271 ?_
            refine mo_cVI (pc := 272) (As := [_, _]) X mo_k_L_15 mo_y_yX4_meeting rfl dL_areMeetings_272 (mt M2 hM j (by omega) 3 (by decide)) hx0 rfl (by decide) (by decide) (Nat.le_of_ble_eq_true rfl) ?_
            rintro r_272 _ ⟨h_272, rfl⟩
            change r_272 = mo_fld g j 4 at h_272
            refine mo_al0 (pc := 275) X dL_areMeetings_275 ?_
            refine mo_al1 (pc := 276) X dL_areMeetings_276 ?_
            refine mo_il5 (pc := 277) X dL_areMeetings_277 ?_
            refine mo_iald (pc := 279) (j := k) X dL_areMeetings_279 hA (by omega) ?_ ?_ (by omega) ?_
            · omega
            · omega
            refine mo_iconst (pc := 280) X dL_areMeetings_280 ?_
            refine mo_cVI (pc := 281) (As := [_, _]) X mo_k_L_15 mo_y_yX4_meeting rfl dL_areMeetings_281 (mt M2 hM k (by omega) 3 (by decide)) hx0 rfl (by decide) (by decide) (Nat.le_of_ble_eq_true rfl) ?_
            rintro r_281 _ ⟨h_281, rfl⟩
            change r_281 = mo_fld g k 4 at h_281
            refine mo_ic_eq (pc := 284) (tgt := 317) X dL_areMeetings_284 (by decide) ?_ ?_ (fun c_284 => ?_) (fun c_284 => ?_)
            · omega
            · omega
            · exfalso
              rcases g9 with g9 | g9
              · omega
              · exact (cf g9.2.1 g9.2.2.1 g9.2.2.2).1 ⟨by omega, by omega⟩
            · skip
              refine mo_il11 (pc := 287) X dL_areMeetings_287 ?_
              refine mo_if_eq (pc := 289) (tgt := 313) X dL_areMeetings_289 (by decide) ?_ (fun c_289 => ?_) (fun c_289 => ?_)
              · omega
              · skip
                refine mo_iconst (pc := 313) X dL_areMeetings_313 ?_
                refine mo_goto (pc := 314) (tgt := 318) X dL_areMeetings_314 (by decide) ?_
                refine mo_is3 (pc := 318) X dL_areMeetings_318 rfl (by decide) ?_
                refine mo_ii8 (pc := 319) X dL_areMeetings_319 rfl (by decide) ?_
                refine mo_goto (pc := 322) (tgt := 145) X dL_areMeetings_322 (by decide) ?_
                exact ih (j + 1) _ _ _ _ (by omega) (by omega)
              · skip
                refine mo_al0 (pc := 292) X dL_areMeetings_292 ?_
                refine mo_al1 (pc := 293) X dL_areMeetings_293 ?_
                refine mo_il8 (pc := 294) X dL_areMeetings_294 ?_
                refine mo_iald (pc := 296) (j := j) X dL_areMeetings_296 hA (by omega) ?_ ?_ (by omega) ?_
                · omega
                · omega
                refine mo_iconst (pc := 297) X dL_areMeetings_297 ?_
                refine mo_cVI (pc := 298) (As := [_, _]) X mo_k_L_15 mo_y_yX4_meeting rfl dL_areMeetings_298 (mt M2 hM j (by omega) 0 (by decide)) hx0 rfl (by decide) (by decide) (Nat.le_of_ble_eq_true rfl) ?_
                rintro r_298 _ ⟨h_298, rfl⟩
                change r_298 = mo_fld g j 1 at h_298
                refine mo_al0 (pc := 301) X dL_areMeetings_301 ?_
                refine mo_al1 (pc := 302) X dL_areMeetings_302 ?_
                refine mo_il5 (pc := 303) X dL_areMeetings_303 ?_
                refine mo_iald (pc := 305) (j := k) X dL_areMeetings_305 hA (by omega) ?_ ?_ (by omega) ?_
                · omega
                · omega
                refine mo_iconst (pc := 306) X dL_areMeetings_306 ?_
                refine mo_cVI (pc := 307) (As := [_, _]) X mo_k_L_15 mo_y_yX4_meeting rfl dL_areMeetings_307 (mt M2 hM k (by omega) 0 (by decide)) hx0 rfl (by decide) (by decide) (Nat.le_of_ble_eq_true rfl) ?_
                rintro r_307 _ ⟨h_307, rfl⟩
                change r_307 = mo_fld g k 1 at h_307
                refine mo_ic_eq (pc := 310) (tgt := 317) X dL_areMeetings_310 (by decide) ?_ ?_ (fun c_310 => ?_) (fun c_310 => ?_)
                · omega
                · omega
                · exfalso
                  rcases g9 with g9 | g9
                  · omega
                  · exact (cf g9.2.1 g9.2.2.1 g9.2.2.2).2 ⟨by omega, by omega⟩
                · skip
                  refine mo_iconst (pc := 313) X dL_areMeetings_313 ?_
                  refine mo_goto (pc := 314) (tgt := 318) X dL_areMeetings_314 (by decide) ?_
                  refine mo_is3 (pc := 318) X dL_areMeetings_318 rfl (by decide) ?_
                  refine mo_ii8 (pc := 319) X dL_areMeetings_319 rfl (by decide) ?_
                  refine mo_goto (pc := 322) (tgt := 145) X dL_areMeetings_322 (by decide) ?_
                  exact ih (j + 1) _ _ _ _ (by omega) (by omega)
      have J222 : ∀ (b9 b10 : Int) (o10 o11 : Option Value), (b9 = 0 ∨ (b9 = 1 ∧ mo_fld g j 6 ≠ 2 ∧ mo_fld g k 6 ≠ 2 ∧ mo_fld g j 2 = mo_fld g k 2)) → ((b10 = 1 ∧ mo_fld g j 3 = mo_fld g k 3) ∨ (b10 = 0 ∧ ¬ mo_fld g j 3 = mo_fld g k 3)) → mo_V κ 0 0 222 [some (.ref x), some (.ref h), some (.ref h2), some (mo_iv 1), some (mo_iv hd), some (mo_iv (k : Int)), some (mo_iv q6), some (mo_iv q7), some (mo_iv (j : Int)), some (mo_iv b9), o10, o11] [mo_iv b10] G M2 t := by
        intro b9 b10 o10 o11 g9 g10
        refine mo_is10 (pc := 222) X dL_areMeetings_222 rfl (by decide) ?_
        refine mo_al0 (pc := 224) X dL_areMeetings_224 ?_
        refine mo_al1 (pc := 225) X dL_areMeetings_225 ?_
        refine mo_il8 (pc := 226) X dL_areMeetings_226 ?_
        refine mo_iald (pc := 228) (j := j) X dL_areMeetings_228 hA (by omega) ?_ ?_ (by omega) ?_
        · omega
        · omega
        refine mo_iconst (pc := 229) X dL_areMeetings_229 ?_
        refine mo_cVI (pc := 230) (As := [_, _]) X mo_k_L_15 mo_y_yX4_meeting rfl dL_areMeetings_230 (mt M2 hM j (by omega) 2 (by decide)) hx0 rfl (by decide) (by decide) (Nat.le_of_ble_eq_true rfl) ?_
        rintro r_230 _ ⟨h_230, rfl⟩
        change r_230 = mo_fld g j 3 at h_230
        refine mo_iconst (pc := 233) X dL_areMeetings_233 ?_
        refine mo_idiv (pc := 234) X dL_areMeetings_234 ?_ ?_ ?_
        · omega
        · omega
        refine mo_al0 (pc := 235) X dL_areMeetings_235 ?_
        refine mo_al1 (pc := 236) X dL_areMeetings_236 ?_
        refine mo_il5 (pc := 237) X dL_areMeetings_237 ?_
        refine mo_iald (pc := 239) (j := k) X dL_areMeetings_239 hA (by omega) ?_ ?_ (by omega) ?_
        · omega
        · omega
        refine mo_iconst (pc := 240) X dL_areMeetings_240 ?_
        refine mo_cVI (pc := 241) (As := [_, _]) X mo_k_L_15 mo_y_yX4_meeting rfl dL_areMeetings_241 (mt M2 hM k (by omega) 2 (by decide)) hx0 rfl (by decide) (by decide) (Nat.le_of_ble_eq_true rfl) ?_
        rintro r_241 _ ⟨h_241, rfl⟩
        change r_241 = mo_fld g k 3 at h_241
        refine mo_iconst (pc := 244) X dL_areMeetings_244 ?_
        refine mo_idiv (pc := 245) X dL_areMeetings_245 ?_ ?_ ?_
        · omega
        · omega
        refine mo_ic_ne (pc := 246) (tgt := 253) X dL_areMeetings_246 (by decide) ?_ ?_ (fun c_246 => ?_) (fun c_246 => ?_)
        · omega
        · omega
        · skip
          refine mo_iconst (pc := 253) X dL_areMeetings_253 ?_
          exact J254 _ _ _ _ g9 g10 (by omega)
        · skip
          refine mo_iconst (pc := 249) X dL_areMeetings_249 ?_
          refine mo_goto (pc := 250) (tgt := 254) X dL_areMeetings_250 (by decide) ?_
          exact J254 _ _ _ _ g9 g10 (by omega)
      have J194 : ∀ (b9 : Int) (o9 o10 o11 : Option Value), (b9 = 0 ∨ (b9 = 1 ∧ mo_fld g j 6 ≠ 2 ∧ mo_fld g k 6 ≠ 2 ∧ mo_fld g j 2 = mo_fld g k 2)) → mo_V κ 0 0 194 [some (.ref x), some (.ref h), some (.ref h2), some (mo_iv 1), some (mo_iv hd), some (mo_iv (k : Int)), some (mo_iv q6), some (mo_iv q7), some (mo_iv (j : Int)), o9, o10, o11] [mo_iv b9] G M2 t := by
        intro b9 o9 o10 o11 g9
        refine mo_is9 (pc := 194) X dL_areMeetings_194 rfl (by decide) ?_
        refine mo_al0 (pc := 196) X dL_areMeetings_196 ?_
        refine mo_al1 (pc := 197) X dL_areMeetings_197 ?_
        refine mo_il8 (pc := 198) X dL_areMeetings_198 ?_
        refine mo_iald (pc := 200) (j := j) X dL_areMeetings_200 hA (by omega) ?_ ?_ (by omega) ?_
        · omega
        · omega
        refine mo_iconst (pc := 201) X dL_areMeetings_201 ?_
        refine mo_cVI (pc := 202) (As := [_, _]) X mo_k_L_15 mo_y_yX4_meeting rfl dL_areMeetings_202 (mt M2 hM j (by omega) 2 (by decide)) hx0 rfl (by decide) (by decide) (Nat.le_of_ble_eq_true rfl) ?_
        rintro r_202 _ ⟨h_202, rfl⟩
        change r_202 = mo_fld g j 3 at h_202
        refine mo_al0 (pc := 205) X dL_areMeetings_205 ?_
        refine mo_al1 (pc := 206) X dL_areMeetings_206 ?_
        refine mo_il5 (pc := 207) X dL_areMeetings_207 ?_
        refine mo_iald (pc := 209) (j := k) X dL_areMeetings_209 hA (by omega) ?_ ?_ (by omega) ?_
        · omega
        · omega
        refine mo_iconst (pc := 210) X dL_areMeetings_210 ?_
        refine mo_cVI (pc := 211) (As := [_, _]) X mo_k_L_15 mo_y_yX4_meeting rfl dL_areMeetings_211 (mt M2 hM k (by omega) 2 (by decide)) hx0 rfl (by decide) (by decide) (Nat.le_of_ble_eq_true rfl) ?_
        rintro r_211 _ ⟨h_211, rfl⟩
        change r_211 = mo_fld g k 3 at h_211
        refine mo_ic_ne (pc := 214) (tgt := 221) X dL_areMeetings_214 (by decide) ?_ ?_ (fun c_214 => ?_) (fun c_214 => ?_)
        · omega
        · omega
        · skip
          refine mo_iconst (pc := 221) X dL_areMeetings_221 ?_
          exact J222 _ _ _ _ g9 (by omega)
        · skip
          refine mo_iconst (pc := 217) X dL_areMeetings_217 ?_
          refine mo_goto (pc := 218) (tgt := 222) X dL_areMeetings_218 (by decide) ?_
          exact J222 _ _ _ _ g9 (by omega)
      refine mo_il8 (pc := 145) X dL_areMeetings_145 ?_
      refine mo_il5 (pc := 147) X dL_areMeetings_147 ?_
      refine mo_ic_ge (pc := 149) (tgt := 325) X dL_areMeetings_149 (by decide) ?_ ?_ (fun c_149 => ?_) (fun c_149 => ?_)
      · omega
      · omega
      · exfalso
        omega
      · skip
        refine mo_il3 (pc := 152) X dL_areMeetings_152 ?_
        refine mo_if_eq (pc := 153) (tgt := 325) X dL_areMeetings_153 (by decide) ?_ (fun c_153 => ?_) (fun c_153 => ?_)
        · omega
        · exfalso; omega
        · skip
          refine mo_il7 (pc := 156) X dL_areMeetings_156 ?_
          refine mo_iconst (pc := 158) X dL_areMeetings_158 ?_
          refine mo_ic_ge (pc := 159) (tgt := 193) X dL_areMeetings_159 (by decide) ?_ ?_ (fun c_159 => ?_) (fun c_159 => ?_)
          · omega
          · omega
          · skip
            refine mo_iconst (pc := 193) X dL_areMeetings_193 ?_
            exact J194 _ _ _ _ (by omega)
          · skip
            refine mo_al0 (pc := 162) X dL_areMeetings_162 ?_
            refine mo_al1 (pc := 163) X dL_areMeetings_163 ?_
            refine mo_il8 (pc := 164) X dL_areMeetings_164 ?_
            refine mo_iald (pc := 166) (j := j) X dL_areMeetings_166 hA (by omega) ?_ ?_ (by omega) ?_
            · omega
            · omega
            refine mo_iconst (pc := 167) X dL_areMeetings_167 ?_
            refine mo_cVI (pc := 168) (As := [_, _]) X mo_k_L_15 mo_y_yX4_meeting rfl dL_areMeetings_168 (mt M2 hM j (by omega) 5 (by decide)) hx0 rfl (by decide) (by decide) (Nat.le_of_ble_eq_true rfl) ?_
            rintro r_168 _ ⟨h_168, rfl⟩
            change r_168 = mo_fld g j 6 at h_168
            refine mo_iconst (pc := 171) X dL_areMeetings_171 ?_
            refine mo_ic_ge (pc := 172) (tgt := 193) X dL_areMeetings_172 (by decide) ?_ ?_ (fun c_172 => ?_) (fun c_172 => ?_)
            · omega
            · omega
            · skip
              refine mo_iconst (pc := 193) X dL_areMeetings_193 ?_
              exact J194 _ _ _ _ (by omega)
            · skip
              refine mo_al0 (pc := 175) X dL_areMeetings_175 ?_
              refine mo_al1 (pc := 176) X dL_areMeetings_176 ?_
              refine mo_il8 (pc := 177) X dL_areMeetings_177 ?_
              refine mo_iald (pc := 179) (j := j) X dL_areMeetings_179 hA (by omega) ?_ ?_ (by omega) ?_
              · omega
              · omega
              refine mo_iconst (pc := 180) X dL_areMeetings_180 ?_
              refine mo_cVI (pc := 181) (As := [_, _]) X mo_k_L_15 mo_y_yX4_meeting rfl dL_areMeetings_181 (mt M2 hM j (by omega) 1 (by decide)) hx0 rfl (by decide) (by decide) (Nat.le_of_ble_eq_true rfl) ?_
              rintro r_181 _ ⟨h_181, rfl⟩
              change r_181 = mo_fld g j 2 at h_181
              refine mo_il6 (pc := 184) X dL_areMeetings_184 ?_
              refine mo_ic_ne (pc := 186) (tgt := 193) X dL_areMeetings_186 (by decide) ?_ ?_ (fun c_186 => ?_) (fun c_186 => ?_)
              · omega
              · omega
              · skip
                refine mo_iconst (pc := 193) X dL_areMeetings_193 ?_
                exact J194 _ _ _ _ (by omega)
              · skip
                refine mo_iconst (pc := 189) X dL_areMeetings_189 ?_
                refine mo_goto (pc := 190) (tgt := 194) X dL_areMeetings_190 (by decide) ?_
                exact J194 _ _ _ _ (by omega)
  have outer : ∀ (z k : Nat) (M2 : mo_M) (hd q : Int) (o6 o7 o8 o9 o10 o11 : Option Value), k + z = mo_nk g → q = k → hd = mo_cnt (fun i => decide (mo_fld g i 6 = 1)) k → (∀ a, a ≠ h2 → M2 a = M a) → (∀ i, i < k → M2 h2 i = mo_fld g i 2) → mo_V κ 0 0 37 [some (.ref x), some (.ref h), some (.ref h2), some (mo_iv 1), some (mo_iv hd), some (mo_iv q), o6, o7, o8, o9, o10, o11] [] G M2 t := by
    intro z
    induction z with
    | zero =>
      intro k M2 hd q o6 o7 o8 o9 o10 o11 e1 e2 e3 hM hWk
      obtain rfl : k = mo_nk g := by omega
      have j7 := hJ.1.2.2.2.2.2.2
      have cb := mo_cnt_le (fun i => decide (mo_fld g i 6 = 1)) (mo_nk g)
      have eh := hM h hne
      refine mo_il5 (pc := 37) X dL_areMeetings_37 ?_
      refine mo_al1 (pc := 39) X dL_areMeetings_39 ?_
      refine mo_bipush (pc := 40) X dL_areMeetings_40 (by decide) ?_
      refine mo_iald (pc := 42) (j := 62) X dL_areMeetings_42 hA (by omega) ?_ ?_ rfl ?_
      · omega
      · omega
      rw [eh, hN2]
      refine mo_ic_ge (pc := 43) (tgt := 331) X dL_areMeetings_43 (by decide) ?_ ?_ (fun c_43 => ?_) (fun c_43 => ?_)
      · omega
      · omega
      · skip
        refine mo_il3 (pc := 331) X dL_areMeetings_331 ?_
        refine mo_if_eq (pc := 332) (tgt := 350) X dL_areMeetings_332 (by decide) ?_ (fun c_332 => ?_) (fun c_332 => ?_)
        · omega
        · exfalso; omega
        · skip
          refine mo_il4 (pc := 335) X dL_areMeetings_335 ?_
          refine mo_al0 (pc := 337) X dL_areMeetings_337 ?_
          refine mo_bipush (pc := 338) X dL_areMeetings_338 (by decide) ?_
          refine mo_cVI (pc := 340) (As := [_]) X mo_k_L_9 mo_y_yX4_value rfl dL_areMeetings_340 (vl M2 hM 6 (by decide)) hx0 rfl (by decide) (by decide) (Nat.le_of_ble_eq_true rfl) ?_
          rintro r_340 _ ⟨h_340, rfl⟩
          rw [mo_nv_6] at h_340
          refine mo_ic_gt (pc := 343) (tgt := 350) X dL_areMeetings_343 (by decide) ?_ ?_ (fun c_343 => ?_) (fun c_343 => ?_)
          · omega
          · omega
          · exfalso
            omega
          · skip
            refine mo_iconst (pc := 346) X dL_areMeetings_346 ?_
            refine mo_goto (pc := 347) (tgt := 351) X dL_areMeetings_347 (by decide) ?_
            refine mo_zret (pc := 351) X Y rfl ?_ dL_areMeetings_351 ⟨rfl, rfl, _, rfl, ?_⟩
            · omega
            exact ⟨rfl, hWk, hM⟩
      · exfalso
        omega
    | succ z ih =>
      intro k M2 hd q o6 o7 o8 o9 o10 o11 e1 e2 e3 hM hWk
      subst e2
      have hk : k < mo_nk g := by omega
      have eh := hM h hne
      have mk := mo_Iv_m hI hk
      unfold mo_Mt at mk
      have cb := mo_cnt_le (fun i => decide (mo_fld g i 6 = 1)) k
      have jw := hJ.2.1 k hk
      have jk := hJ.2.2 k hk
      have J91 : ∀ (M3 : mo_M) (b q6 q7 : Int) (o8 o9 o10 o11 : Option Value), q6 = mo_fld g k 2 → q7 = mo_fld g k 6 → b = (if mo_fld g k 6 = 1 then 1 else 0) → (∀ a, a ≠ h2 → M3 a = M a) → (∀ i, i < k + 1 → M3 h2 i = mo_fld g i 2) → mo_V κ 0 0 91 [some (.ref x), some (.ref h), some (.ref h2), some (mo_iv 1), some (mo_iv hd), some (mo_iv (k : Int)), some (mo_iv q6), some (mo_iv q7), o8, o9, o10, o11] [mo_iv b, mo_iv hd] G M3 t := by
        intro M2 b q6 q7 o8 o9 o10 o11 e6 e7 eb hM hWk
        have hcs : hd + b = mo_cnt (fun i => decide (mo_fld g i 6 = 1)) (k + 1) := by
          rw [mo_cnt_s, e3, eb]
          simp only [decide_eq_true_eq]
        have hbb : b = 0 ∨ b = 1 := by rw [eb]; split <;> omega
        refine mo_iadd (pc := 91) X dL_areMeetings_91 ?_
        refine mo_is4 (pc := 92) X dL_areMeetings_92 rfl (by decide) ?_
        refine mo_il7 (pc := 94) X dL_areMeetings_94 ?_
        refine mo_if_ne (pc := 96) (tgt := 109) X dL_areMeetings_96 (by decide) ?_ (fun c_96 => ?_) (fun c_96 => ?_)
        · omega
        · skip
          refine mo_il7 (pc := 109) X dL_areMeetings_109 ?_
          refine mo_if_eq (pc := 111) (tgt := 124) X dL_areMeetings_111 (by decide) ?_ (fun c_111 => ?_) (fun c_111 => ?_)
          · omega
          · skip
            refine mo_il6 (pc := 124) X dL_areMeetings_124 ?_
            refine mo_iconst (pc := 126) X dL_areMeetings_126 ?_
            refine mo_iadd (pc := 127) X dL_areMeetings_127 ?_
            refine mo_al0 (pc := 128) X dL_areMeetings_128 ?_
            refine mo_iconst (pc := 129) X dL_areMeetings_129 ?_
            refine mo_cVI (pc := 130) (As := [_]) X mo_k_L_9 mo_y_yX4_value rfl dL_areMeetings_130 (vl M2 hM 4 (by decide)) hx0 rfl (by decide) (by decide) (Nat.le_of_ble_eq_true rfl) ?_
            rintro r_130 _ ⟨h_130, rfl⟩
            rw [mo_nv_4] at h_130
            refine mo_ic_lt (pc := 133) (tgt := 140) X dL_areMeetings_133 (by decide) ?_ ?_ (fun c_133 => ?_) (fun c_133 => ?_)
            · omega
            · omega
            · exfalso
              omega
            · skip
              refine mo_iconst (pc := 136) X dL_areMeetings_136 ?_
              refine mo_goto (pc := 137) (tgt := 141) X dL_areMeetings_137 (by decide) ?_
              refine mo_is3 (pc := 141) X dL_areMeetings_141 rfl (by decide) ?_
              refine mo_iconst (pc := 142) X dL_areMeetings_142 ?_
              refine mo_is8 (pc := 143) X dL_areMeetings_143 rfl (by decide) ?_
              refine inner M2 k _ _ _ hM hk e6 e7 (fun o8 o9 o10 o11 => ?_) k 0 0 _ _ _ (by omega) rfl
              refine mo_ii5 (pc := 325) X dL_areMeetings_325 rfl (by decide) ?_
              refine mo_goto (pc := 328) (tgt := 37) X dL_areMeetings_328 (by decide) ?_
              exact ih (k + 1) M2 _ _ _ _ _ _ _ _ (by omega) (by omega) hcs hM hWk
          · skip
            refine mo_il6 (pc := 114) X dL_areMeetings_114 ?_
            refine mo_al0 (pc := 116) X dL_areMeetings_116 ?_
            refine mo_iconst (pc := 117) X dL_areMeetings_117 ?_
            refine mo_cVI (pc := 118) (As := [_]) X mo_k_L_9 mo_y_yX4_value rfl dL_areMeetings_118 (vl M2 hM 4 (by decide)) hx0 rfl (by decide) (by decide) (Nat.le_of_ble_eq_true rfl) ?_
            rintro r_118 _ ⟨h_118, rfl⟩
            rw [mo_nv_4] at h_118
            refine mo_ic_gt (pc := 121) (tgt := 140) X dL_areMeetings_121 (by decide) ?_ ?_ (fun c_121 => ?_) (fun c_121 => ?_)
            · omega
            · omega
            · exfalso
              omega
            · skip
              refine mo_il6 (pc := 124) X dL_areMeetings_124 ?_
              refine mo_iconst (pc := 126) X dL_areMeetings_126 ?_
              refine mo_iadd (pc := 127) X dL_areMeetings_127 ?_
              refine mo_al0 (pc := 128) X dL_areMeetings_128 ?_
              refine mo_iconst (pc := 129) X dL_areMeetings_129 ?_
              refine mo_cVI (pc := 130) (As := [_]) X mo_k_L_9 mo_y_yX4_value rfl dL_areMeetings_130 (vl M2 hM 4 (by decide)) hx0 rfl (by decide) (by decide) (Nat.le_of_ble_eq_true rfl) ?_
              rintro r_130 _ ⟨h_130, rfl⟩
              rw [mo_nv_4] at h_130
              refine mo_ic_lt (pc := 133) (tgt := 140) X dL_areMeetings_133 (by decide) ?_ ?_ (fun c_133 => ?_) (fun c_133 => ?_)
              · omega
              · omega
              · exfalso
                omega
              · skip
                refine mo_iconst (pc := 136) X dL_areMeetings_136 ?_
                refine mo_goto (pc := 137) (tgt := 141) X dL_areMeetings_137 (by decide) ?_
                refine mo_is3 (pc := 141) X dL_areMeetings_141 rfl (by decide) ?_
                refine mo_iconst (pc := 142) X dL_areMeetings_142 ?_
                refine mo_is8 (pc := 143) X dL_areMeetings_143 rfl (by decide) ?_
                refine inner M2 k _ _ _ hM hk e6 e7 (fun o8 o9 o10 o11 => ?_) k 0 0 _ _ _ (by omega) rfl
                refine mo_ii5 (pc := 325) X dL_areMeetings_325 rfl (by decide) ?_
                refine mo_goto (pc := 328) (tgt := 37) X dL_areMeetings_328 (by decide) ?_
                exact ih (k + 1) M2 _ _ _ _ _ _ _ _ (by omega) (by omega) hcs hM hWk
        · skip
          refine mo_il6 (pc := 99) X dL_areMeetings_99 ?_
          refine mo_al0 (pc := 101) X dL_areMeetings_101 ?_
          refine mo_iconst (pc := 102) X dL_areMeetings_102 ?_
          refine mo_cVI (pc := 103) (As := [_]) X mo_k_L_9 mo_y_yX4_value rfl dL_areMeetings_103 (vl M2 hM 4 (by decide)) hx0 rfl (by decide) (by decide) (Nat.le_of_ble_eq_true rfl) ?_
          rintro r_103 _ ⟨h_103, rfl⟩
          rw [mo_nv_4] at h_103
          refine mo_ic_lt (pc := 106) (tgt := 140) X dL_areMeetings_106 (by decide) ?_ ?_ (fun c_106 => ?_) (fun c_106 => ?_)
          · omega
          · omega
          · exfalso
            omega
          · skip
            refine mo_il7 (pc := 109) X dL_areMeetings_109 ?_
            refine mo_if_eq (pc := 111) (tgt := 124) X dL_areMeetings_111 (by decide) ?_ (fun c_111 => ?_) (fun c_111 => ?_)
            · omega
            · skip
              refine mo_il6 (pc := 124) X dL_areMeetings_124 ?_
              refine mo_iconst (pc := 126) X dL_areMeetings_126 ?_
              refine mo_iadd (pc := 127) X dL_areMeetings_127 ?_
              refine mo_al0 (pc := 128) X dL_areMeetings_128 ?_
              refine mo_iconst (pc := 129) X dL_areMeetings_129 ?_
              refine mo_cVI (pc := 130) (As := [_]) X mo_k_L_9 mo_y_yX4_value rfl dL_areMeetings_130 (vl M2 hM 4 (by decide)) hx0 rfl (by decide) (by decide) (Nat.le_of_ble_eq_true rfl) ?_
              rintro r_130 _ ⟨h_130, rfl⟩
              rw [mo_nv_4] at h_130
              refine mo_ic_lt (pc := 133) (tgt := 140) X dL_areMeetings_133 (by decide) ?_ ?_ (fun c_133 => ?_) (fun c_133 => ?_)
              · omega
              · omega
              · exfalso
                omega
              · skip
                refine mo_iconst (pc := 136) X dL_areMeetings_136 ?_
                refine mo_goto (pc := 137) (tgt := 141) X dL_areMeetings_137 (by decide) ?_
                refine mo_is3 (pc := 141) X dL_areMeetings_141 rfl (by decide) ?_
                refine mo_iconst (pc := 142) X dL_areMeetings_142 ?_
                refine mo_is8 (pc := 143) X dL_areMeetings_143 rfl (by decide) ?_
                refine inner M2 k _ _ _ hM hk e6 e7 (fun o8 o9 o10 o11 => ?_) k 0 0 _ _ _ (by omega) rfl
                refine mo_ii5 (pc := 325) X dL_areMeetings_325 rfl (by decide) ?_
                refine mo_goto (pc := 328) (tgt := 37) X dL_areMeetings_328 (by decide) ?_
                exact ih (k + 1) M2 _ _ _ _ _ _ _ _ (by omega) (by omega) hcs hM hWk
            · skip
              refine mo_il6 (pc := 114) X dL_areMeetings_114 ?_
              refine mo_al0 (pc := 116) X dL_areMeetings_116 ?_
              refine mo_iconst (pc := 117) X dL_areMeetings_117 ?_
              refine mo_cVI (pc := 118) (As := [_]) X mo_k_L_9 mo_y_yX4_value rfl dL_areMeetings_118 (vl M2 hM 4 (by decide)) hx0 rfl (by decide) (by decide) (Nat.le_of_ble_eq_true rfl) ?_
              rintro r_118 _ ⟨h_118, rfl⟩
              rw [mo_nv_4] at h_118
              refine mo_ic_gt (pc := 121) (tgt := 140) X dL_areMeetings_121 (by decide) ?_ ?_ (fun c_121 => ?_) (fun c_121 => ?_)
              · omega
              · omega
              · exfalso
                omega
              · skip
                refine mo_il6 (pc := 124) X dL_areMeetings_124 ?_
                refine mo_iconst (pc := 126) X dL_areMeetings_126 ?_
                refine mo_iadd (pc := 127) X dL_areMeetings_127 ?_
                refine mo_al0 (pc := 128) X dL_areMeetings_128 ?_
                refine mo_iconst (pc := 129) X dL_areMeetings_129 ?_
                refine mo_cVI (pc := 130) (As := [_]) X mo_k_L_9 mo_y_yX4_value rfl dL_areMeetings_130 (vl M2 hM 4 (by decide)) hx0 rfl (by decide) (by decide) (Nat.le_of_ble_eq_true rfl) ?_
                rintro r_130 _ ⟨h_130, rfl⟩
                rw [mo_nv_4] at h_130
                refine mo_ic_lt (pc := 133) (tgt := 140) X dL_areMeetings_133 (by decide) ?_ ?_ (fun c_133 => ?_) (fun c_133 => ?_)
                · omega
                · omega
                · exfalso
                  omega
                · skip
                  refine mo_iconst (pc := 136) X dL_areMeetings_136 ?_
                  refine mo_goto (pc := 137) (tgt := 141) X dL_areMeetings_137 (by decide) ?_
                  refine mo_is3 (pc := 141) X dL_areMeetings_141 rfl (by decide) ?_
                  refine mo_iconst (pc := 142) X dL_areMeetings_142 ?_
                  refine mo_is8 (pc := 143) X dL_areMeetings_143 rfl (by decide) ?_
                  refine inner M2 k _ _ _ hM hk e6 e7 (fun o8 o9 o10 o11 => ?_) k 0 0 _ _ _ (by omega) rfl
                  refine mo_ii5 (pc := 325) X dL_areMeetings_325 rfl (by decide) ?_
                  refine mo_goto (pc := 328) (tgt := 37) X dL_areMeetings_328 (by decide) ?_
                  exact ih (k + 1) M2 _ _ _ _ _ _ _ _ (by omega) (by omega) hcs hM hWk
      refine mo_il5 (pc := 37) X dL_areMeetings_37 ?_
      refine mo_al1 (pc := 39) X dL_areMeetings_39 ?_
      refine mo_bipush (pc := 40) X dL_areMeetings_40 (by decide) ?_
      refine mo_iald (pc := 42) (j := 62) X dL_areMeetings_42 hA (by omega) ?_ ?_ rfl ?_
      · omega
      · omega
      rw [eh, hN2]
      refine mo_ic_ge (pc := 43) (tgt := 331) X dL_areMeetings_43 (by decide) ?_ ?_ (fun c_43 => ?_) (fun c_43 => ?_)
      · omega
      · omega
      · exfalso
        omega
      · skip
        refine mo_il3 (pc := 46) X dL_areMeetings_46 ?_
        refine mo_if_eq (pc := 47) (tgt := 331) X dL_areMeetings_47 (by decide) ?_ (fun c_47 => ?_) (fun c_47 => ?_)
        · omega
        · exfalso; omega
        · skip
          refine mo_al0 (pc := 50) X dL_areMeetings_50 ?_
          refine mo_al1 (pc := 51) X dL_areMeetings_51 ?_
          refine mo_il5 (pc := 52) X dL_areMeetings_52 ?_
          refine mo_iald (pc := 54) (j := k) X dL_areMeetings_54 hA (by omega) ?_ ?_ (by omega) ?_
          · omega
          · omega
          refine mo_iconst (pc := 55) X dL_areMeetings_55 ?_
          refine mo_cVI (pc := 56) (As := [_, _]) X mo_k_L_15 mo_y_yX4_meeting rfl dL_areMeetings_56 (mt M2 hM k (by omega) 1 (by decide)) hx0 rfl (by decide) (by decide) (Nat.le_of_ble_eq_true rfl) ?_
          rintro r_56 _ ⟨h_56, rfl⟩
          change r_56 = mo_fld g k 2 at h_56
          refine mo_is6 (pc := 59) X dL_areMeetings_59 rfl (by decide) ?_
          refine mo_al0 (pc := 61) X dL_areMeetings_61 ?_
          refine mo_al1 (pc := 62) X dL_areMeetings_62 ?_
          refine mo_il5 (pc := 63) X dL_areMeetings_63 ?_
          refine mo_iald (pc := 65) (j := k) X dL_areMeetings_65 hA (by omega) ?_ ?_ (by omega) ?_
          · omega
          · omega
          refine mo_iconst (pc := 66) X dL_areMeetings_66 ?_
          refine mo_cVI (pc := 67) (As := [_, _]) X mo_k_L_15 mo_y_yX4_meeting rfl dL_areMeetings_67 (mt M2 hM k (by omega) 5 (by decide)) hx0 rfl (by decide) (by decide) (Nat.le_of_ble_eq_true rfl) ?_
          rintro r_67 _ ⟨h_67, rfl⟩
          change r_67 = mo_fld g k 6 at h_67
          refine mo_is7 (pc := 70) X dL_areMeetings_70 rfl (by decide) ?_
          refine mo_al2 (pc := 72) X dL_areMeetings_72 ?_
          refine mo_il5 (pc := 73) X dL_areMeetings_73 ?_
          refine mo_il6 (pc := 75) X dL_areMeetings_75 ?_
          refine mo_iast (pc := 77) (j := k) X dL_areMeetings_77 hV (by omega) ?_ ?_ (by omega) ?_
          · omega
          · omega
          obtain ⟨M3, hM3⟩ : ∃ M3, M3 = mo_ur M2 h2 (va_up (M2 h2) k r_56) := ⟨_, rfl⟩
          rw [← hM3]
          have fM3 : ∀ a, a ≠ h2 → M3 a = M a := fun a ha => by rw [hM3, mo_ur_n ha, hM a ha]
          have fW3 : ∀ i, i < k + 1 → M3 h2 i = mo_fld g i 2 := fun i hi => by
            rw [hM3, mo_ur_s]
            by_cases c : i = k
            · rw [c, mo_up_s, h_56]
            · rw [mo_up_n c]
              exact hWk i (by omega)
          refine mo_il4 (pc := 78) X dL_areMeetings_78 ?_
          refine mo_il7 (pc := 80) X dL_areMeetings_80 ?_
          refine mo_iconst (pc := 82) X dL_areMeetings_82 ?_
          refine mo_ic_ne (pc := 83) (tgt := 90) X dL_areMeetings_83 (by decide) ?_ ?_ (fun c_83 => ?_) (fun c_83 => ?_)
          · omega
          · omega
          · skip
            refine mo_iconst (pc := 90) X dL_areMeetings_90 ?_
            exact J91 M3 _ _ _ _ _ _ _ h_56 h_67 (by rw [← h_67]; split <;> omega) fM3 fW3
          · skip
            refine mo_iconst (pc := 86) X dL_areMeetings_86 ?_
            refine mo_goto (pc := 87) (tgt := 91) X dL_areMeetings_87 (by decide) ?_
            exact J91 M3 _ _ _ _ _ _ _ h_56 h_67 (by rw [← h_67]; split <;> omega) fM3 fW3
  refine mo_al0 (pc := 0) X dL_areMeetings_0 ?_
  refine mo_iconst (pc := 1) X dL_areMeetings_1 ?_
  refine mo_cVI (pc := 2) (As := [_]) X mo_k_L_9 mo_y_yX4_value rfl dL_areMeetings_2 (vl M (fun a _ => rfl) 3 (by decide)) hx0 rfl (by decide) (by decide) (Nat.le_of_ble_eq_true rfl) ?_
  rintro r_2 _ ⟨h_2, rfl⟩
  rw [mo_nv_3] at h_2
  refine mo_al1 (pc := 5) X dL_areMeetings_5 ?_
  refine mo_bipush (pc := 6) X dL_areMeetings_6 (by decide) ?_
  refine mo_iald (pc := 8) (j := 62) X dL_areMeetings_8 hA (by omega) ?_ ?_ rfl ?_
  · omega
  · omega
  refine mo_ic_ne (pc := 9) (tgt := 29) X dL_areMeetings_9 (by decide) ?_ ?_ (fun c_9 => ?_) (fun c_9 => ?_)
  · omega
  · omega
  · exfalso
    omega
  · skip
    refine mo_al0 (pc := 12) X dL_areMeetings_12 ?_
    refine mo_bipush (pc := 13) X dL_areMeetings_13 (by decide) ?_
    refine mo_cVI (pc := 15) (As := [_]) X mo_k_L_9 mo_y_yX4_value rfl dL_areMeetings_15 (vl M (fun a _ => rfl) 9 (by decide)) hx0 rfl (by decide) (by decide) (Nat.le_of_ble_eq_true rfl) ?_
    rintro r_15 _ ⟨h_15, rfl⟩
    rw [mo_nv_9] at h_15
    refine mo_al1 (pc := 18) X dL_areMeetings_18 ?_
    refine mo_bipush (pc := 19) X dL_areMeetings_19 (by decide) ?_
    refine mo_iald (pc := 21) (j := 63) X dL_areMeetings_21 hA (by omega) ?_ ?_ rfl ?_
    · omega
    · omega
    refine mo_ic_ne (pc := 22) (tgt := 29) X dL_areMeetings_22 (by decide) ?_ ?_ (fun c_22 => ?_) (fun c_22 => ?_)
    · omega
    · omega
    · exfalso
      omega
    · skip
      refine mo_iconst (pc := 25) X dL_areMeetings_25 ?_
      refine mo_goto (pc := 26) (tgt := 30) X dL_areMeetings_26 (by decide) ?_
      refine mo_is3 (pc := 30) X dL_areMeetings_30 rfl (by decide) ?_
      refine mo_iconst (pc := 31) X dL_areMeetings_31 ?_
      refine mo_is4 (pc := 32) X dL_areMeetings_32 rfl (by decide) ?_
      refine mo_iconst (pc := 34) X dL_areMeetings_34 ?_
      refine mo_is5 (pc := 35) X dL_areMeetings_35 rfl (by decide) ?_
      exact outer (mo_nk g) 0 M 0 0 _ _ _ _ _ _ (by omega) rfl rfl (fun a _ => rfl) (fun i hi => absurd hi (Nat.not_lt_zero _))
