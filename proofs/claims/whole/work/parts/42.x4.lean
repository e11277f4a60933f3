theorem mo_fo_7 (f : Nat → Int) (k : Nat) (S : Int) : mo_fo f (7 * (k + 1)) S = mo_fo (fun j => f (7 * k + j)) 7 (mo_fo f (7 * k) S) := rfl
theorem mo_fo_4 (f : Nat → Int) (k : Nat) (S : Int) : mo_fo f (4 * (k + 1)) S = mo_fo (fun j => f (4 * k + j)) 4 (mo_fo f (4 * k) S) := rfl
theorem mo_fo_congr {f f' : Nat → Int} {S : Int} : ∀ {n : Nat}, (∀ j, j < n → f j = f' j) → mo_fo f n S = mo_fo f' n S
  | 0, _ => rfl
  | n + 1, h => by rw [mo_fo, mo_fo, mo_fo_congr (fun j hj => h j (by omega)), h n (by omega)]
set_option maxHeartbeats 4000000 in
set_option maxRecDepth 100000 in
theorem ct4_digestOfOrder {lf : Launch} {ρf : mo_E} {G : mo_G} {M : mo_M} {t : Nat} {x : Nat} (hx : mo_Ms G x) {o : Nat} {S : Int} {g : Nat → Int} {B : Int} (hS : mo_SR M (x + 1) g) (hI : mo_Iv g B) (hB : B ≤ 800000000) (ho : (o : Int) < g 4) : mo_Ct lf ρf yX4_digestOfOrder cX4_digestOfOrder 7 (some .long) 5 0 0 [.ref x, mo_jv S, mo_iv o] G M t (mo_pj G t (fun y M' => y = mo_dg1 g o S ∧ M = M')) := by
  refine mo_ofW (ls0 := [some (.ref x), some (mo_jv S), none, some (mo_iv o), none, none, none]) (by decide) rfl (Nat.le_of_ble_eq_true rfl) ?_
  intro κ X Y
  have X : mo_Cx κ lf ρf cX4_digestOfOrder 7 RX4 (some .long) 5 := X
  obtain ⟨hI0, hI1, hI2, hI3, hI4, hI5, hI6, hI7, hIh, hIa, hIe, hIm, hIs, hIl, hIw, hIr, hIt, hIs2, hIs3, hIz⟩ := id hI
  obtain ⟨s0, s1, s2, s3, s4, s5, sH, sA, sE, sM, sS, sL, sW, sRo, sF⟩ := id hS
  have lp2 : ∀ (z i : Nat) (v H : Int), i + z = 20 → v = i → H = mo_fo (fun w => g (8 + 20 * o + w)) i (mo_fo (fun k => mo_ov g o (k : Nat)) 7 S) → mo_V κ 0 0 39 [some (.ref x), some (mo_jv S), none, some (mo_iv o), some (mo_jv H), none, some (mo_iv v)] [] G M t := by
    intro z
    induction z with
    | zero =>
      intro i v H hi hx hH
      subst hx
      refine mo_il6 (pc := 39) X dX4_digestOfOrder_39 ?_
      refine mo_bipush (pc := 41) X dX4_digestOfOrder_41 (by decide) ?_
      refine mo_ic_ge (pc := 43) (tgt := 72) X dX4_digestOfOrder_43 (by decide) ?_ ?_ (fun c_43 => ?_) (fun c_43 => ?_)
      · omega
      · omega
      · skip
        refine mo_ll4 (pc := 72) X dX4_digestOfOrder_72 ?_
        refine mo_lret (pc := 74) X Y rfl dX4_digestOfOrder_74 ⟨rfl, rfl, _, rfl, ?_⟩
        rw [show i = 20 by omega] at hH
        exact ⟨hH, rfl⟩
      · exfalso
        omega
    | succ z ih =>
      intro i v H hi hx hH
      subst hx
      have hh := hIh (20 * o + i) (by omega)
      have hv := sH (20 * o + i) (by omega)
      rw [show 8 + (20 * o + i) = 8 + 20 * o + i by omega] at hh hv
      refine mo_il6 (pc := 39) X dX4_digestOfOrder_39 ?_
      refine mo_bipush (pc := 41) X dX4_digestOfOrder_41 (by decide) ?_
      refine mo_ic_ge (pc := 43) (tgt := 72) X dX4_digestOfOrder_43 (by decide) ?_ ?_ (fun c_43 => ?_) (fun c_43 => ?_)
      · omega
      · omega
      · exfalso
        omega
      · skip
        refine mo_ldc2 (pc := 46) (v := 31) X dX4_digestOfOrder_46 mo_wk_X4_309 ?_
        refine mo_ll4 (pc := 49) X dX4_digestOfOrder_49 ?_
        refine mo_lmul (pc := 51) X dX4_digestOfOrder_51 ?_
        refine mo_al0 (pc := 52) X dX4_digestOfOrder_52 ?_
        refine mo_f_X4_12 (pc := 53) X dX4_digestOfOrder_53 (mo_Ms_o hx) (mo_Ms_p0 hx) ?_
        refine mo_il3 (pc := 56) X dX4_digestOfOrder_56 ?_
        refine mo_il6 (pc := 57) X dX4_digestOfOrder_57 ?_
        refine mo_cVI (pc := 59) (As := [_, _]) X mo_k_X4_84 mo_y_yX2_hoursIn rfl dX4_digestOfOrder_59 (ct2_hoursIn (o := o) (w := i) (mo_Ms_r0 hx) (by omega) (by omega)) (mo_St_o (mo_Ms_r0 hx)) rfl (by decide) (by decide) (Nat.le_of_ble_eq_true rfl) ?_
        rintro r_59 _ ⟨h_59, rfl⟩
        rw [hv] at h_59
        refine mo_i2l (pc := 62) X dX4_digestOfOrder_62 ?_ ?_
        · omega
        refine mo_ladd (pc := 63) X dX4_digestOfOrder_63 ?_
        refine mo_ls4 (pc := 64) X dX4_digestOfOrder_64 rfl (by decide) ?_
        refine mo_ii6 (pc := 66) X dX4_digestOfOrder_66 rfl (by decide) ?_
        refine mo_goto (pc := 69) (tgt := 39) X dX4_digestOfOrder_69 (by decide) ?_
        refine ih (i + 1) _ _ (by omega) (by omega) ?_
        rw [mo_fo, ← hH, h_59]
  have lp1 : ∀ (z i : Nat) (v H : Int), i + z = 7 → v = i → H = mo_fo (fun k => mo_ov g o (k : Nat)) i S → mo_V κ 0 0 6 [some (.ref x), some (mo_jv S), none, some (mo_iv o), some (mo_jv H), none, some (mo_iv v)] [] G M t := by
    intro z
    induction z with
    | zero =>
      intro i v H hi hx hH
      subst hx
      refine mo_il6 (pc := 6) X dX4_digestOfOrder_6 ?_
      refine mo_bipush (pc := 8) X dX4_digestOfOrder_8 (by decide) ?_
      refine mo_ic_gt (pc := 10) (tgt := 36) X dX4_digestOfOrder_10 (by decide) ?_ ?_ (fun c_10 => ?_) (fun c_10 => ?_)
      · omega
      · omega
      · skip
        refine mo_iconst (pc := 36) X dX4_digestOfOrder_36 ?_
        refine mo_is6 (pc := 37) X dX4_digestOfOrder_37 rfl (by decide) ?_
        rw [show i = 7 by omega] at hH
        exact lp2 20 0 0 _ rfl rfl hH
      · exfalso
        omega
    | succ z ih =>
      intro i v H hi hx hH
      subst hx
      have hin := mo_ov_In (what := (i : Int)) (o := o) hI (by omega) (by omega)
      refine mo_il6 (pc := 6) X dX4_digestOfOrder_6 ?_
      refine mo_bipush (pc := 8) X dX4_digestOfOrder_8 (by decide) ?_
      refine mo_ic_gt (pc := 10) (tgt := 36) X dX4_digestOfOrder_10 (by decide) ?_ ?_ (fun c_10 => ?_) (fun c_10 => ?_)
      · omega
      · omega
      · exfalso
        omega
      · skip
        refine mo_ldc2 (pc := 13) (v := 31) X dX4_digestOfOrder_13 mo_wk_X4_309 ?_
        refine mo_ll4 (pc := 16) X dX4_digestOfOrder_16 ?_
        refine mo_lmul (pc := 18) X dX4_digestOfOrder_18 ?_
        refine mo_al0 (pc := 19) X dX4_digestOfOrder_19 ?_
        refine mo_il3 (pc := 20) X dX4_digestOfOrder_20 ?_
        refine mo_il6 (pc := 21) X dX4_digestOfOrder_21 ?_
        refine mo_cVI (pc := 23) (As := [_, _]) X mo_k_X4_330 mo_y_yX4_order rfl dX4_digestOfOrder_23 (ct4_orderD (o := o) (w := (i : Int)) hx hS hI hB ho (by omega)) (mo_Ms_o hx) rfl (by decide) (by decide) (Nat.le_of_ble_eq_true rfl) ?_
        rintro r_23 _ ⟨h_23, rfl⟩
        rw [← h_23] at hin
        refine mo_i2l (pc := 26) X dX4_digestOfOrder_26 ?_ ?_
        · omega
        refine mo_ladd (pc := 27) X dX4_digestOfOrder_27 ?_
        refine mo_ls4 (pc := 28) X dX4_digestOfOrder_28 rfl (by decide) ?_
        refine mo_ii6 (pc := 30) X dX4_digestOfOrder_30 rfl (by decide) ?_
        refine mo_goto (pc := 33) (tgt := 6) X dX4_digestOfOrder_33 (by decide) ?_
        refine ih (i + 1) _ _ (by omega) (by omega) ?_
        rw [mo_fo, ← hH, h_23]
  refine mo_ll1 (pc := 0) X dX4_digestOfOrder_0 ?_
  refine mo_ls4 (pc := 1) X dX4_digestOfOrder_1 rfl (by decide) ?_
  refine mo_iconst (pc := 3) X dX4_digestOfOrder_3 ?_
  refine mo_is6 (pc := 4) X dX4_digestOfOrder_4 rfl (by decide) ?_
  exact lp1 7 0 0 _ rfl rfl rfl
set_option maxHeartbeats 4000000 in
set_option maxRecDepth 100000 in
theorem ct4_digestOfMeeting {lf : Launch} {ρf : mo_E} {G : mo_G} {M : mo_M} {t : Nat} {x : Nat} (hx : mo_Ms G x) {k : Nat} {S : Int} {g : Nat → Int} {B : Int} (hS : mo_SR M (x + 1) g) (hI : mo_Iv g B) (hB : B ≤ 800000000) (hk : (k : Int) < g 7) : mo_Ct lf ρf yX4_digestOfMeeting cX4_digestOfMeeting 7 (some .long) 2 0 0 [.ref x, mo_jv S, mo_iv k] G M t (mo_pj G t (fun y M' => y = mo_fo (fun j => mo_fld g k j) 7 S ∧ M = M')) := by
  refine mo_ofW (ls0 := [some (.ref x), some (mo_jv S), none, some (mo_iv k), none, none, none]) (by decide) rfl (Nat.le_of_ble_eq_true rfl) ?_
  intro κ X Y
  have X : mo_Cx κ lf ρf cX4_digestOfMeeting 7 RX4 (some .long) 2 := X
  obtain ⟨hI0, hI1, hI2, hI3, hI4, hI5, hI6, hI7, hIh, hIa, hIe, hIm, hIs, hIl, hIw, hIr, hIt, hIs2, hIs3, hIz⟩ := id hI
  obtain ⟨s0, s1, s2, s3, s4, s5, sH, sA, sE, sM, sS, sL, sW, sRo, sF⟩ := id hS
  have hmt := hIt k hk
  unfold mo_Mt at hmt
  have lp1 : ∀ (z i : Nat) (v H : Int), i + z = 6 → v = i → H = mo_fo (fun j => mo_fld g k j) (i + 1) S → mo_V κ 0 0 22 [some (.ref x), some (mo_jv S), none, some (mo_iv k), some (mo_jv H), none, some (mo_iv v)] [] G M t := by
    intro z
    induction z with
    | zero =>
      intro i v H hi hx hH
      subst hx
      refine mo_il6 (pc := 22) X dX4_digestOfMeeting_22 ?_
      refine mo_iconst (pc := 24) X dX4_digestOfMeeting_24 ?_
      refine mo_ic_gt (pc := 25) (tgt := 54) X dX4_digestOfMeeting_25 (by decide) ?_ ?_ (fun c_25 => ?_) (fun c_25 => ?_)
      · omega
      · omega
      · skip
        refine mo_ll4 (pc := 54) X dX4_digestOfMeeting_54 ?_
        refine mo_lret (pc := 56) X Y rfl dX4_digestOfMeeting_56 ⟨rfl, rfl, _, rfl, ?_⟩
        rw [show i = 6 by omega] at hH
        exact ⟨hH, rfl⟩
      · exfalso
        omega
    | succ z ih =>
      intro i v H hi hx hH
      subst hx
      have hin : mo_In (mo_fld g k (i + 1)) := by
        obtain rfl | rfl | rfl | rfl | rfl | rfl : i = 0 ∨ i = 1 ∨ i = 2 ∨ i = 3 ∨ i = 4 ∨ i = 5 := by omega
        all_goals (simp only [Nat.reduceAdd]; omega)
      refine mo_il6 (pc := 22) X dX4_digestOfMeeting_22 ?_
      refine mo_iconst (pc := 24) X dX4_digestOfMeeting_24 ?_
      refine mo_ic_gt (pc := 25) (tgt := 54) X dX4_digestOfMeeting_25 (by decide) ?_ ?_ (fun c_25 => ?_) (fun c_25 => ?_)
      · omega
      · omega
      · exfalso
        omega
      · skip
        refine mo_ldc2 (pc := 28) (v := 31) X dX4_digestOfMeeting_28 mo_wk_X4_309 ?_
        refine mo_ll4 (pc := 31) X dX4_digestOfMeeting_31 ?_
        refine mo_lmul (pc := 33) X dX4_digestOfMeeting_33 ?_
        refine mo_al0 (pc := 34) X dX4_digestOfMeeting_34 ?_
        refine mo_f_X4_12 (pc := 35) X dX4_digestOfMeeting_35 (mo_Ms_o hx) (mo_Ms_p0 hx) ?_
        refine mo_il3 (pc := 38) X dX4_digestOfMeeting_38 ?_
        refine mo_il6 (pc := 39) X dX4_digestOfMeeting_39 ?_
        refine mo_cVI (pc := 41) (As := [_, _]) X mo_k_X4_178 mo_y_yX2_fact rfl dX4_digestOfMeeting_41 (ct2_fld (g := g) (k := k) (j := i) (q := i + 1) (mo_Ms_r0 hx) hS (by omega) (by omega) (by omega) (by omega)) (mo_St_o (mo_Ms_r0 hx)) rfl (by decide) (by decide) (Nat.le_of_ble_eq_true rfl) ?_
        rintro r_41 _ ⟨h_41, rfl⟩
        rw [← h_41] at hin
        refine mo_i2l (pc := 44) X dX4_digestOfMeeting_44 ?_ ?_
        · omega
        refine mo_ladd (pc := 45) X dX4_digestOfMeeting_45 ?_
        refine mo_ls4 (pc := 46) X dX4_digestOfMeeting_46 rfl (by decide) ?_
        refine mo_ii6 (pc := 48) X dX4_digestOfMeeting_48 rfl (by decide) ?_
        refine mo_goto (pc := 51) (tgt := 22) X dX4_digestOfMeeting_51 (by decide) ?_
        refine ih (i + 1) _ _ (by omega) (by omega) ?_
        rw [mo_fo, ← hH, h_41]
  refine mo_ldc2 (pc := 0) (v := 31) X dX4_digestOfMeeting_0 mo_wk_X4_309 ?_
  refine mo_ll1 (pc := 3) X dX4_digestOfMeeting_3 ?_
  refine mo_lmul (pc := 4) X dX4_digestOfMeeting_4 ?_
  refine mo_al0 (pc := 5) X dX4_digestOfMeeting_5 ?_
  refine mo_f_X4_12 (pc := 6) X dX4_digestOfMeeting_6 (mo_Ms_o hx) (mo_Ms_p0 hx) ?_
  refine mo_il3 (pc := 9) X dX4_digestOfMeeting_9 ?_
  refine mo_bipush (pc := 10) X dX4_digestOfMeeting_10 (by decide) ?_
  refine mo_cVI (pc := 12) (As := [_, _]) X mo_k_X4_178 mo_y_yX2_fact rfl dX4_digestOfMeeting_12 (ct2_fld (g := g) (k := k) (j := 6) (q := 0) (mo_Ms_r0 hx) hS (by omega) (by omega) (by omega) rfl) (mo_St_o (mo_Ms_r0 hx)) rfl (by decide) (by decide) (Nat.le_of_ble_eq_true rfl) ?_
  rintro r_12 _ ⟨h_12, rfl⟩
  refine mo_i2l (pc := 15) X dX4_digestOfMeeting_15 ?_ ?_
  · omega
  refine mo_ladd (pc := 16) X dX4_digestOfMeeting_16 ?_
  refine mo_ls4 (pc := 17) X dX4_digestOfMeeting_17 rfl (by decide) ?_
  refine mo_iconst (pc := 19) X dX4_digestOfMeeting_19 ?_
  refine mo_is6 (pc := 20) X dX4_digestOfMeeting_20 rfl (by decide) ?_
  exact lp1 6 0 0 _ rfl rfl (by rw [h_12]; rfl)
set_option maxHeartbeats 4000000 in
set_option maxRecDepth 100000 in
theorem ct4_digest {lf : Launch} {ρf : mo_E} {G : mo_G} {M : mo_M} {t : Nat} {x : Nat} (hx : mo_Ms G x) {n sv : Int} {g : Nat → Int} {B : Int} (hS : mo_SR M (x + 1) g) (hI : mo_Iv g B) (hB : B ≤ 800000000) (h5 : M (x + 127) 5 = n) (hs : M x 5 = sv) (hnr : 0 ≤ n ∧ n ≤ 100) (hsr : 0 ≤ sv ∧ sv ≤ 4) : mo_Ct lf ρf yX4_digest cX4_digest 5 (some .long) 6 0 0 [.ref x] G M t (mo_pj G t (fun y M' => y = mo_dgs g n sv ∧ ∀ a, (a < x + 20 ∨ x + 38 < a) → (a < x + 116 ∨ x + 126 < a) → M' a = M a)) := by
  refine mo_ofW (ls0 := [some (.ref x), none, none, none, none]) (by decide) rfl (Nat.le_of_ble_eq_true rfl) ?_
  intro κ X Y
  have X : mo_Cx κ lf ρf cX4_digest 5 RX4 (some .long) 6 := X
  obtain ⟨hI0, hI1, hI2, hI3, hI4, hI5, hI6, hI7, hIh, hIa, hIe, hIm, hIs, hIl, hIw, hIr, hIt, hIs2, hIs3, hIz⟩ := id hI
  obtain ⟨s0, s1, s2, s3, s4, s5, sH, sA, sE, sM, sS, sL, sW, sRo, sF⟩ := id hS
  have hn : ((mo_nk g : Nat) : Int) = g 7 := by unfold mo_nk; omega
  have lp5 : ∀ (z i : Nat) (v H : Int) (last : Option Value), i + z = mo_nk g → v = i → H = mo_fo (fun k => g (215 + k)) (7 * i) (mo_fo (fun v => g (210 + v)) (g 6).toNat (mo_fo (fun k => mo_ev g (k / 4) ((k % 4 : Nat) : Int)) (4 * (g 5).toNat) (mo_dgo g (g 4).toNat (mo_fo (fun k => mo_nv g (k : Nat)) 10 (31 * 3739 + n))))) → mo_V κ 0 0 155 [some (.ref x), some (mo_jv H), none, some (mo_iv v), last] [] G M t := by
    intro z
    induction z with
    | zero =>
      intro i v H last hi hx hH
      subst hx
      refine mo_il3 (pc := 155) X dX4_digest_155 ?_
      refine mo_al0 (pc := 156) X dX4_digest_156 ?_
      refine mo_f_X4_12 (pc := 157) X dX4_digest_157 (mo_Ms_o hx) (mo_Ms_p0 hx) ?_
      refine mo_f_X4_246 (pc := 160) X dX4_digest_160 (mo_St_o (mo_Ms_r0 hx)) ?_
      rw [s3, ← hn]
      refine mo_ic_ge (pc := 163) (tgt := 179) X dX4_digest_163 (by decide) ?_ ?_ (fun c_163 => ?_) (fun c_163 => ?_)
      · omega
      · omega
      · skip
        refine mo_ldc2 (pc := 179) (v := 31) X dX4_digest_179 mo_wk_X4_309 ?_
        refine mo_ll1 (pc := 182) X dX4_digest_182 ?_
        refine mo_lmul (pc := 183) X dX4_digest_183 ?_
        refine mo_al0 (pc := 184) X dX4_digest_184 ?_
        refine mo_cVI (pc := 185) (As := []) X mo_k_X4_327 mo_y_yX4_settledIn rfl dX4_digest_185 (ct4_settledIn hx hS hI hB) (mo_Ms_o hx) rfl (by decide) (by decide) (Nat.le_of_ble_eq_true rfl) ?_
        rintro r_185 M_185 ⟨h_185, f_185⟩
        have hsb := mo_set_b 20 _ _ hI
        rw [← h_185] at hsb
        refine mo_i2l (pc := 188) X dX4_digest_188 ?_ ?_
        · omega
        refine mo_ladd (pc := 189) X dX4_digest_189 ?_
        refine mo_ls1 (pc := 190) X dX4_digest_190 rfl (by decide) ?_
        refine mo_ldc2 (pc := 191) (v := 31) X dX4_digest_191 mo_wk_X4_309 ?_
        refine mo_ll1 (pc := 194) X dX4_digest_194 ?_
        refine mo_lmul (pc := 195) X dX4_digest_195 ?_
        refine mo_al0 (pc := 196) X dX4_digest_196 ?_
        refine mo_f_X4_37 (pc := 197) X dX4_digest_197 (mo_Ms_o hx) ?_
        rw [f_185 _ (by omega) (by omega), hs]
        refine mo_i2l (pc := 200) X dX4_digest_200 ?_ ?_
        · omega
        refine mo_ladd (pc := 201) X dX4_digest_201 ?_
        refine mo_lret (pc := 202) X Y rfl dX4_digest_202 ⟨rfl, rfl, _, rfl, ?_⟩
        rw [show i = mo_nk g by omega] at hH
        refine ⟨?_, f_185⟩
        rw [h_185, hH]
        rfl
      · exfalso
        omega
    | succ z ih =>
      intro i v H last hi hx hH
      subst hx
      refine mo_il3 (pc := 155) X dX4_digest_155 ?_
      refine mo_al0 (pc := 156) X dX4_digest_156 ?_
      refine mo_f_X4_12 (pc := 157) X dX4_digest_157 (mo_Ms_o hx) (mo_Ms_p0 hx) ?_
      refine mo_f_X4_246 (pc := 160) X dX4_digest_160 (mo_St_o (mo_Ms_r0 hx)) ?_
      rw [s3, ← hn]
      refine mo_ic_ge (pc := 163) (tgt := 179) X dX4_digest_163 (by decide) ?_ ?_ (fun c_163 => ?_) (fun c_163 => ?_)
      · omega
      · omega
      · exfalso
        omega
      · skip
        refine mo_al0 (pc := 166) X dX4_digest_166 ?_
        refine mo_ll1 (pc := 167) X dX4_digest_167 ?_
        refine mo_il3 (pc := 168) X dX4_digest_168 ?_
        refine mo_cVJ (pc := 169) (As := [_, _]) X mo_k_X4_324 mo_y_yX4_digestOfMeeting rfl dX4_digest_169 (ct4_digestOfMeeting (k := i) hx hS hI hB (by omega)) (mo_Ms_o hx) rfl (by decide) (by decide) (Nat.le_of_ble_eq_true rfl) ?_
        rintro r_169 _ ⟨h_169, rfl⟩
        refine mo_ls1 (pc := 172) X dX4_digest_172 rfl (by decide) ?_
        refine mo_ii3 (pc := 173) X dX4_digest_173 rfl (by decide) ?_
        refine mo_goto (pc := 176) (tgt := 155) X dX4_digest_176 (by decide) ?_
        refine ih (i + 1) _ _ _ (by omega) (by omega) ?_
        rw [h_169, hH, mo_fo_7]
        exact mo_fo_congr fun j hj => by unfold mo_fld; rw [show 215 + 7 * i + j = 215 + (7 * i + j) by omega]
  have lp4 : ∀ (z i : Nat) (v H : Int) (last : Option Value), i + z = (g 6).toNat → v = i → H = mo_fo (fun v => g (210 + v)) i (mo_fo (fun k => mo_ev g (k / 4) ((k % 4 : Nat) : Int)) (4 * (g 5).toNat) (mo_dgo g (g 4).toNat (mo_fo (fun k => mo_nv g (k : Nat)) 10 (31 * 3739 + n)))) → mo_V κ 0 0 117 [some (.ref x), some (mo_jv H), none, some (mo_iv v), last] [] G M t := by
    intro z
    induction z with
    | zero =>
      intro i v H last hi hx hH
      subst hx
      refine mo_il3 (pc := 117) X dX4_digest_117 ?_
      refine mo_al0 (pc := 118) X dX4_digest_118 ?_
      refine mo_f_X4_12 (pc := 119) X dX4_digest_119 (mo_Ms_o hx) (mo_Ms_p0 hx) ?_
      refine mo_f_X4_132 (pc := 122) X dX4_digest_122 (mo_St_o (mo_Ms_r0 hx)) ?_
      rw [s2]
      refine mo_ic_ge (pc := 125) (tgt := 153) X dX4_digest_125 (by decide) ?_ ?_ (fun c_125 => ?_) (fun c_125 => ?_)
      · omega
      · omega
      · skip
        refine mo_iconst (pc := 153) X dX4_digest_153 ?_
        refine mo_is3 (pc := 154) X dX4_digest_154 rfl (by decide) ?_
        rw [show i = (g 6).toNat by omega] at hH
        exact lp5 _ 0 0 _ _ (Nat.zero_add _) rfl hH
      · exfalso
        omega
    | succ z ih =>
      intro i v H last hi hx hH
      subst hx
      refine mo_il3 (pc := 117) X dX4_digest_117 ?_
      refine mo_al0 (pc := 118) X dX4_digest_118 ?_
      refine mo_f_X4_12 (pc := 119) X dX4_digest_119 (mo_Ms_o hx) (mo_Ms_p0 hx) ?_
      refine mo_f_X4_132 (pc := 122) X dX4_digest_122 (mo_St_o (mo_Ms_r0 hx)) ?_
      rw [s2]
      refine mo_ic_ge (pc := 125) (tgt := 153) X dX4_digest_125 (by decide) ?_ ?_ (fun c_125 => ?_) (fun c_125 => ?_)
      · omega
      · omega
      · exfalso
        omega
      · skip
        refine mo_ldc2 (pc := 128) (v := 31) X dX4_digest_128 mo_wk_X4_309 ?_
        refine mo_ll1 (pc := 131) X dX4_digest_131 ?_
        refine mo_lmul (pc := 132) X dX4_digest_132 ?_
        refine mo_al0 (pc := 133) X dX4_digest_133 ?_
        refine mo_f_X4_12 (pc := 134) X dX4_digest_134 (mo_Ms_o hx) (mo_Ms_p0 hx) ?_
        refine mo_f_X4_321 (pc := 137) X dX4_digest_137 (mo_St_o (mo_Ms_r0 hx)) (mo_St_p13 (mo_Ms_r0 hx)) ?_
        refine mo_il3 (pc := 140) X dX4_digest_140 ?_
        refine mo_cVI (pc := 141) (As := [_]) X mo_k_X4_97 mo_y_yX1_get rfl dX4_digest_141 (ct_get (a := x + 17) (j := i) (mo_St_r13 (mo_Ms_r0 hx)) rfl (by omega) (by omega) (by omega) (by omega)) (mo_St_r13 (mo_Ms_r0 hx)).1 rfl (by decide) (by decide) (Nat.le_of_ble_eq_true rfl) ?_
        rintro r_141 _ ⟨h_141, rfl⟩
        rw [show M (x + 17) i = g (210 + i) from sRo i (by omega)] at h_141
        have hir := hIr i (by omega)
        refine mo_i2l (pc := 144) X dX4_digest_144 ?_ ?_
        · omega
        refine mo_ladd (pc := 145) X dX4_digest_145 ?_
        refine mo_ls1 (pc := 146) X dX4_digest_146 rfl (by decide) ?_
        refine mo_ii3 (pc := 147) X dX4_digest_147 rfl (by decide) ?_
        refine mo_goto (pc := 150) (tgt := 117) X dX4_digest_150 (by decide) ?_
        refine ih (i + 1) _ _ _ (by omega) (by omega) ?_
        rw [mo_fo, hH, h_141]
  have lq : ∀ (k : Nat), (k : Int) < g 5 → ∀ (z i : Nat) (u H H0 : Int), i + z = 4 → u = i → H = mo_fo (fun j => mo_ev g k ((j : Nat) : Int)) i H0 → (∀ H2 : Int, H2 = mo_fo (fun j => mo_ev g k ((j : Nat) : Int)) 4 H0 → mo_V κ 0 0 109 [some (.ref x), some (mo_jv H2), none, some (mo_iv k), some (mo_iv 4)] [] G M t) → mo_V κ 0 0 82 [some (.ref x), some (mo_jv H), none, some (mo_iv k), some (mo_iv u)] [] G M t := by
    intro k hk z
    induction z with
    | zero =>
      intro i u H H0 hi hx hH hK
      subst hx
      obtain rfl : i = 4 := by omega
      refine mo_il4 (pc := 82) X dX4_digest_82 ?_
      refine mo_iconst (pc := 84) X dX4_digest_84 ?_
      refine mo_ic_gt (pc := 85) (tgt := 109) X dX4_digest_85 (by decide) ?_ ?_ (fun c_85 => ?_) (fun c_85 => ?_)
      · omega
      · omega
      · skip
        exact hK _ hH
      · exfalso
        omega
    | succ z ih =>
      intro i u H H0 hi hx hH hK
      subst hx
      have hin := mo_ev_In (what := (i : Int)) (e := k) hI (by omega) (by omega)
      refine mo_il4 (pc := 82) X dX4_digest_82 ?_
      refine mo_iconst (pc := 84) X dX4_digest_84 ?_
      refine mo_ic_gt (pc := 85) (tgt := 109) X dX4_digest_85 (by decide) ?_ ?_ (fun c_85 => ?_) (fun c_85 => ?_)
      · omega
      · omega
      · exfalso
        omega
      · skip
        refine mo_ldc2 (pc := 88) (v := 31) X dX4_digest_88 mo_wk_X4_309 ?_
        refine mo_ll1 (pc := 91) X dX4_digest_91 ?_
        refine mo_lmul (pc := 92) X dX4_digest_92 ?_
        refine mo_al0 (pc := 93) X dX4_digest_93 ?_
        refine mo_il3 (pc := 94) X dX4_digest_94 ?_
        refine mo_il4 (pc := 95) X dX4_digest_95 ?_
        refine mo_cVI (pc := 97) (As := [_, _]) X mo_k_X4_318 mo_y_yX4_escort rfl dX4_digest_97 (ct4_escortD (o := k) (w := (i : Int)) hx hS hI hB hk (by omega)) (mo_Ms_o hx) rfl (by decide) (by decide) (Nat.le_of_ble_eq_true rfl) ?_
        rintro r_97 _ ⟨h_97, rfl⟩
        rw [← h_97] at hin
        refine mo_i2l (pc := 100) X dX4_digest_100 ?_ ?_
        · omega
        refine mo_ladd (pc := 101) X dX4_digest_101 ?_
        refine mo_ls1 (pc := 102) X dX4_digest_102 rfl (by decide) ?_
        refine mo_ii4 (pc := 103) X dX4_digest_103 rfl (by decide) ?_
        refine mo_goto (pc := 106) (tgt := 82) X dX4_digest_106 (by decide) ?_
        refine ih (i + 1) _ _ H0 (by omega) (by omega) ?_ hK
        rw [mo_fo, ← hH, h_97]
  have lp3 : ∀ (z i : Nat) (v H : Int) (last : Option Value), i + z = (g 5).toNat → v = i → H = mo_fo (fun k => mo_ev g (k / 4) ((k % 4 : Nat) : Int)) (4 * i) (mo_dgo g (g 4).toNat (mo_fo (fun k => mo_nv g (k : Nat)) 10 (31 * 3739 + n))) → mo_V κ 0 0 68 [some (.ref x), some (mo_jv H), none, some (mo_iv v), last] [] G M t := by
    intro z
    induction z with
    | zero =>
      intro i v H last hi hx hH
      subst hx
      refine mo_il3 (pc := 68) X dX4_digest_68 ?_
      refine mo_al0 (pc := 69) X dX4_digest_69 ?_
      refine mo_f_X4_12 (pc := 70) X dX4_digest_70 (mo_Ms_o hx) (mo_Ms_p0 hx) ?_
      refine mo_f_X4_112 (pc := 73) X dX4_digest_73 (mo_St_o (mo_Ms_r0 hx)) ?_
      rw [s1]
      refine mo_ic_ge (pc := 76) (tgt := 115) X dX4_digest_76 (by decide) ?_ ?_ (fun c_76 => ?_) (fun c_76 => ?_)
      · omega
      · omega
      · skip
        refine mo_iconst (pc := 115) X dX4_digest_115 ?_
        refine mo_is3 (pc := 116) X dX4_digest_116 rfl (by decide) ?_
        rw [show i = (g 5).toNat by omega] at hH
        exact lp4 _ 0 0 _ _ (Nat.zero_add _) rfl hH
      · exfalso
        omega
    | succ z ih =>
      intro i v H last hi hx hH
      subst hx
      refine mo_il3 (pc := 68) X dX4_digest_68 ?_
      refine mo_al0 (pc := 69) X dX4_digest_69 ?_
      refine mo_f_X4_12 (pc := 70) X dX4_digest_70 (mo_Ms_o hx) (mo_Ms_p0 hx) ?_
      refine mo_f_X4_112 (pc := 73) X dX4_digest_73 (mo_St_o (mo_Ms_r0 hx)) ?_
      rw [s1]
      refine mo_ic_ge (pc := 76) (tgt := 115) X dX4_digest_76 (by decide) ?_ ?_ (fun c_76 => ?_) (fun c_76 => ?_)
      · omega
      · omega
      · exfalso
        omega
      · skip
        refine mo_iconst (pc := 79) X dX4_digest_79 ?_
        refine mo_is4 (pc := 80) X dX4_digest_80 rfl (by decide) ?_
        refine lq i (by omega) 4 0 0 _ _ rfl rfl rfl fun H2 hH2 => ?_
        refine mo_ii3 (pc := 109) X dX4_digest_109 rfl (by decide) ?_
        refine mo_goto (pc := 112) (tgt := 68) X dX4_digest_112 (by decide) ?_
        refine ih (i + 1) _ _ _ (by omega) (by omega) ?_
        rw [hH2, hH, mo_fo_4]
        exact mo_fo_congr fun j hj => by rw [show (4 * i + j) / 4 = i by omega, show (4 * i + j) % 4 = j by omega]
  have lp2 : ∀ (z i : Nat) (v H : Int) (last : Option Value), i + z = (g 4).toNat → v = i → H = mo_dgo g i (mo_fo (fun k => mo_nv g (k : Nat)) 10 (31 * 3739 + n)) → mo_V κ 0 0 42 [some (.ref x), some (mo_jv H), none, some (mo_iv v), last] [] G M t := by
    intro z
    induction z with
    | zero =>
      intro i v H last hi hx hH
      subst hx
      refine mo_il3 (pc := 42) X dX4_digest_42 ?_
      refine mo_al0 (pc := 43) X dX4_digest_43 ?_
      refine mo_f_X4_12 (pc := 44) X dX4_digest_44 (mo_Ms_o hx) (mo_Ms_p0 hx) ?_
      refine mo_f_X4_55 (pc := 47) X dX4_digest_47 (mo_St_o (mo_Ms_r0 hx)) ?_
      rw [s0]
      refine mo_ic_ge (pc := 50) (tgt := 66) X dX4_digest_50 (by decide) ?_ ?_ (fun c_50 => ?_) (fun c_50 => ?_)
      · omega
      · omega
      · skip
        refine mo_iconst (pc := 66) X dX4_digest_66 ?_
        refine mo_is3 (pc := 67) X dX4_digest_67 rfl (by decide) ?_
        rw [show i = (g 4).toNat by omega] at hH
        exact lp3 _ 0 0 _ _ (Nat.zero_add _) rfl hH
      · exfalso
        omega
    | succ z ih =>
      intro i v H last hi hx hH
      subst hx
      refine mo_il3 (pc := 42) X dX4_digest_42 ?_
      refine mo_al0 (pc := 43) X dX4_digest_43 ?_
      refine mo_f_X4_12 (pc := 44) X dX4_digest_44 (mo_Ms_o hx) (mo_Ms_p0 hx) ?_
      refine mo_f_X4_55 (pc := 47) X dX4_digest_47 (mo_St_o (mo_Ms_r0 hx)) ?_
      rw [s0]
      refine mo_ic_ge (pc := 50) (tgt := 66) X dX4_digest_50 (by decide) ?_ ?_ (fun c_50 => ?_) (fun c_50 => ?_)
      · omega
      · omega
      · exfalso
        omega
      · skip
        refine mo_al0 (pc := 53) X dX4_digest_53 ?_
        refine mo_ll1 (pc := 54) X dX4_digest_54 ?_
        refine mo_il3 (pc := 55) X dX4_digest_55 ?_
        refine mo_cVJ (pc := 56) (As := [_, _]) X mo_k_X4_314 mo_y_yX4_digestOfOrder rfl dX4_digest_56 (ct4_digestOfOrder (o := i) hx hS hI hB (by omega)) (mo_Ms_o hx) rfl (by decide) (by decide) (Nat.le_of_ble_eq_true rfl) ?_
        rintro r_56 _ ⟨h_56, rfl⟩
        refine mo_ls1 (pc := 59) X dX4_digest_59 rfl (by decide) ?_
        refine mo_ii3 (pc := 60) X dX4_digest_60 rfl (by decide) ?_
        refine mo_goto (pc := 63) (tgt := 42) X dX4_digest_63 (by decide) ?_
        refine ih (i + 1) _ _ _ (by omega) (by omega) ?_
        rw [mo_dgo, ← hH, h_56]
  have lp1 : ∀ (z i : Nat) (v H : Int) (last : Option Value), i + z = 10 → v = i → H = mo_fo (fun k => mo_nv g (k : Nat)) i (31 * 3739 + n) → mo_V κ 0 0 15 [some (.ref x), some (mo_jv H), none, some (mo_iv v), last] [] G M t := by
    intro z
    induction z with
    | zero =>
      intro i v H last hi hx hH
      subst hx
      refine mo_il3 (pc := 15) X dX4_digest_15 ?_
      refine mo_bipush (pc := 16) X dX4_digest_16 (by decide) ?_
      refine mo_ic_gt (pc := 18) (tgt := 40) X dX4_digest_18 (by decide) ?_ ?_ (fun c_18 => ?_) (fun c_18 => ?_)
      · omega
      · omega
      · skip
        refine mo_iconst (pc := 40) X dX4_digest_40 ?_
        refine mo_is3 (pc := 41) X dX4_digest_41 rfl (by decide) ?_
        rw [show i = 10 by omega] at hH
        exact lp2 _ 0 0 _ _ (Nat.zero_add _) rfl hH
      · exfalso
        omega
    | succ z ih =>
      intro i v H last hi hx hH
      subst hx
      have hin := mo_nv_In (what := (i : Int)) hI (by omega)
      refine mo_il3 (pc := 15) X dX4_digest_15 ?_
      refine mo_bipush (pc := 16) X dX4_digest_16 (by decide) ?_
      refine mo_ic_gt (pc := 18) (tgt := 40) X dX4_digest_18 (by decide) ?_ ?_ (fun c_18 => ?_) (fun c_18 => ?_)
      · omega
      · omega
      · exfalso
        omega
      · skip
        refine mo_ldc2 (pc := 21) (v := 31) X dX4_digest_21 mo_wk_X4_309 ?_
        refine mo_ll1 (pc := 24) X dX4_digest_24 ?_
        refine mo_lmul (pc := 25) X dX4_digest_25 ?_
        refine mo_al0 (pc := 26) X dX4_digest_26 ?_
        refine mo_il3 (pc := 27) X dX4_digest_27 ?_
        refine mo_cVI (pc := 28) (As := [_]) X mo_k_X4_311 mo_y_yX4_value rfl dX4_digest_28 (ct4_valueD (w := (i : Int)) hx hS hI hB (by omega)) (mo_Ms_o hx) rfl (by decide) (by decide) (Nat.le_of_ble_eq_true rfl) ?_
        rintro r_28 _ ⟨h_28, rfl⟩
        rw [← h_28] at hin
        refine mo_i2l (pc := 31) X dX4_digest_31 ?_ ?_
        · omega
        refine mo_ladd (pc := 32) X dX4_digest_32 ?_
        refine mo_ls1 (pc := 33) X dX4_digest_33 rfl (by decide) ?_
        refine mo_ii3 (pc := 34) X dX4_digest_34 rfl (by decide) ?_
        refine mo_goto (pc := 37) (tgt := 15) X dX4_digest_37 (by decide) ?_
        refine ih (i + 1) _ _ _ (by omega) (by omega) ?_
        rw [mo_fo, ← hH, h_28]
  refine mo_ldc2 (pc := 0) (v := 115909) X dX4_digest_0 mo_wk_X4_307 ?_
  refine mo_al0 (pc := 3) X dX4_digest_3 ?_
  refine mo_f_X4_33 (pc := 4) X dX4_digest_4 (mo_Ms_o hx) (mo_Ms_p4 hx) ?_
  refine mo_f_X4_275 (pc := 7) X dX4_digest_7 (mo_Tx_o (mo_Ms_r4 hx)) ?_
  rw [h5]
  refine mo_i2l (pc := 10) X dX4_digest_10 ?_ ?_
  · omega
  refine mo_ladd (pc := 11) X dX4_digest_11 ?_
  refine mo_ls1 (pc := 12) X dX4_digest_12 rfl (by decide) ?_
  refine mo_iconst (pc := 13) X dX4_digest_13 ?_
  refine mo_is3 (pc := 14) X dX4_digest_14 rfl (by decide) ?_
  exact lp1 10 0 0 _ none rfl rfl rfl
