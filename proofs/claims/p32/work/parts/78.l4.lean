/-! a step of the law -/
theorem mo_NA_q {g g' : Nat → Int} {N W f : Nat → Int} {w u : Int} {p : Nat → Bool} (hn : mo_nk g ≤ 60) (hf : f = va_up (mo_tq w u N W (mo_nk g)).2.1 62 (mo_tq w u N W (mo_nk g)).1) (hp : ∀ i, i < mo_nk g → mo_ts w u N W i = p i) (h1 : mo_nk g' = mo_cn p (mo_nk g)) (h2 : g' 7 = mo_nk g') (h3 : ∀ i, i < mo_nk g → p i = true → mo_fld g' (mo_cn p i) 0 = mo_fld g i 0) (h4 : ∀ i, i < mo_nk g → N i = mo_fld g i 0) (h5 : N 63 = g' 1) : (∀ k, k < mo_nk g' → f k = mo_fld g' k 0) ∧ f 62 = g' 7 ∧ f 63 = g' 1 := by
  obtain ⟨v1, v2, v3⟩ := mo_tq_v w u N W (mo_nk g)
  have ec : ∀ n, n ≤ mo_nk g → mo_cn (mo_ts w u N W) n = mo_cn p n := fun n hn2 => mo_cn_congr fun i hi => hp i (by omega)
  refine ⟨fun k hk => ?_, ?_, ?_⟩
  · rw [h1] at hk
    obtain ⟨i, hi, hpi, rfl⟩ := mo_cn_sur p hk
    have hl := mo_cn_le p i
    have h9 := v3 i hi (by rw [hp i hi]; exact hpi)
    rw [ec i (by omega)] at h9
    rw [hf, mo_up_n (by omega), h9, h4 i hi, h3 i hi hpi]
  · rw [hf, mo_up_s, v1, ec _ (Nat.le_refl _), h2, h1]
  · rw [hf, mo_up_n (by omega), (v2 63 (by omega)).1, h5]
theorem mo_NA_p {g g' : Nat → Int} {f0 f : Nat → Int} {z : Nat} (hn : ((mo_nk g : Nat) : Int) = g 7) (hN : (∀ k, k < mo_nk g → f0 k = mo_fld g k 0) ∧ f0 62 = g 7 ∧ f0 63 = g 1) (hf : f = va_up (mo_ptn z f0 (g 1)) 63 (g 1 + z)) (hz : g 7 + z ≤ 60) (e7 : g' 7 = g 7 + z) (e1 : g' 1 = g 1 + z) (ho : ∀ k, k < mo_nk g → mo_fld g' k 0 = mo_fld g k 0) (hw : ∀ i, i < z → mo_fld g' (mo_nk g + i) 0 = g 1 + (i : Int)) : (∀ k, k < mo_nk g' → f k = mo_fld g' k 0) ∧ f 62 = g' 7 ∧ f 63 = g' 1 := by
  obtain ⟨n1, n2, n3⟩ := hN
  obtain ⟨v1, v2⟩ := mo_ptn_v z f0 (g 1) (by omega) (by omega)
  have hnk : mo_nk g' = mo_nk g + z := by
    unfold mo_nk at hn ⊢
    omega
  refine ⟨fun k hk => ?_, ?_, ?_⟩
  · rw [hf, mo_up_n (by omega), v2 k (by omega)]
    by_cases c : k < mo_nk g
    · rw [if_neg (by omega), n1 k c, ho k c]
    · rw [if_pos (by omega)]
      have h9 := hw (k - mo_nk g) (by omega)
      rw [show mo_nk g + (k - mo_nk g) = k by omega] at h9
      omega
  · rw [hf, mo_up_n (by omega), v1, e7, n2]
  · rw [hf, mo_up_s, e1]
def ls_post (G : mo_G) (t x h : Nat) (B : Int) : Option Value → mo_G → mo_M → Nat → Prop := fun u G' M' t' => t' = t ∧ u = some (mo_iv 1) ∧ G'.1 = G.1 ∧ ∃ g', mo_Wd G' M' x g' B ∧ mo_J g' ∧ mo_NA M' h g'
theorem mo_NA_cg {M M' : mo_M} {h : Nat} {g g' : Nat → Int} (hN : mo_NA M h g) (hM : M' h = M h) (h7 : g' 7 = g 7) (h1 : g' 1 = g 1) (h0 : ∀ k, mo_fld g' k 0 = mo_fld g k 0) : mo_NA M' h g' := by
  obtain ⟨n1, n2, n3⟩ := hN
  have hn : mo_nk g' = mo_nk g := by unfold mo_nk; rw [h7]
  exact ⟨fun k hk => by rw [hM, h0, n1 k (by omega)], by rw [hM, n2, h7], by rw [hM, n3, h1]⟩
set_option maxHeartbeats 4000000 in
set_option maxRecDepth 100000 in
theorem ls_0 {κ : mo_T} {lf : Launch} {ρf : mo_E} {G : mo_G} {M : mo_M} {t : Nat} {x h h2 : Nat} {g : Nat → Int} {B : Int} (X : mo_Cx κ lf ρf cL_isStep 12 RL (some .boolean) 7) (Y : mo_Rt κ (ls_post G t x h (B + 1000)) 0 0) (hW : mo_Wd G M x g B) (hB : B ≤ 500000000) (hJ : mo_J g) (hA : G.1 h = some (.inr (0, 64))) (hV : G.1 h2 = some (.inr (0, 64))) (hz1 : mo_oz x h) (hz2 : mo_oz x h2) (hne : h ≠ h2) (hN : mo_NA M h g) (hV2 : ∀ k, k < mo_nk g → M h2 k = mo_fld g k 2) {v y w : Int} (hw : g 0 ≤ w ∧ w ≤ 19) {o6 o7 o8 o9 o10 o11 : Option Value} : mo_V κ 0 0 88 [some (.ref x), some (.ref h), some (.ref h2), some (mo_iv v), some (mo_iv y), some (mo_iv w), o6, o7, o8, o9, o10, o11] [] G M t := by
  have hx0 := mo_Wd_x hW
  have hI := mo_Wd_Iv hW
  have hn := mo_Iv_n hI
  obtain ⟨hI0, hI1, hI2, hI3, hI4, hI5, hI6, hI7, hIh, hIa, hIe, hIm, hIs, hIl, hIw, hIr, -⟩ := id hI
  obtain ⟨hN1, hN2, hN3⟩ := id hN
  obtain ⟨c4, c5, c6⟩ := hJ.1.1
  refine mo_al0 (pc := 88) X dL_isStep_88 ?_
  refine mo_iconst (pc := 89) X dL_isStep_89 ?_
  refine mo_cVI (pc := 90) (As := [_]) X mo_k_L_9 mo_y_yX4_value rfl dL_isStep_90 (lt_value hW (by omega) (w := 4) (by decide)) hx0 rfl (by decide) (by decide) (Nat.le_of_ble_eq_true rfl) ?_
  rintro r_90 _ ⟨h_90, rfl⟩
  rw [mo_nv_4] at h_90
  refine mo_bipush (pc := 93) X dL_isStep_93 (by decide) ?_
  refine mo_ic_ne (pc := 95) (tgt := 100) X dL_isStep_95 (by decide) ?_ ?_ (fun c_95 => ?_) (fun c_95 => ?_)
  · omega
  · omega
  · skip
    refine mo_al0 (pc := 100) X dL_isStep_100 ?_
    refine mo_bipush (pc := 101) X dL_isStep_101 (by decide) ?_
    refine mo_cVI (pc := 103) (As := [_]) X mo_k_L_9 mo_y_yX4_value rfl dL_isStep_103 (lt_value hW (by omega) (w := 7) (by decide)) hx0 rfl (by decide) (by decide) (Nat.le_of_ble_eq_true rfl) ?_
    rintro r_103 _ ⟨h_103, rfl⟩
    rw [mo_nv_7] at h_103
    refine mo_is6 (pc := 106) X dL_isStep_106 rfl (by decide) ?_
    refine mo_al0 (pc := 108) X dL_isStep_108 ?_
    refine mo_callVr (pc := 109) (As := []) X mo_k_L_39 mo_y_yX4_endWeek rfl dL_isStep_109 (lt_endWeek hW (by omega) (show g 0 < 19 by omega)) hx0 rfl (by decide) (by decide) (Nat.le_of_ble_eq_true rfl) (mo_rm0 κ) ?_
    rintro u1 G1 M1 t1 ⟨hG1, rfl, rfl, s1, w1⟩
    show mo_V κ 0 0 _ _ (mo_iv _ :: _) _ _ _
    have W1 := mo_Wd_21 w1
    have hx0 : G1.1 x = some (.inl 4) := mo_Wd_x W1
    have hA : G1.1 h = some (.inr (0, 64)) := by rw [hG1.1]; exact hA
    have hV : G1.1 h2 = some (.inr (0, 64)) := by rw [hG1.1]; exact hV
    obtain ⟨j1, e0, e1, e3, enk, ekp⟩ := mo_J_eR hI (show g 0 < 19 by omega) hJ
    have I1 := mo_Wd_Iv W1
    have I13 := I1.2.2.2.1
    have nb : ∀ j, j < mo_nk g → mo_In (M1 h j) := fun j hj => by
      rw [s1 h hz1, hN1 j hj]
      have mj := mo_Iv_m hI hj
      unfold mo_Mt at mj
      omega
    have wb : ∀ j, j < mo_nk g → mo_In (M1 h2 j) := fun j hj => by
      rw [s1 h2 hz2, hV2 j hj]
      have mj := mo_Iv_m hI hj
      unfold mo_Mt at mj
      omega
    have hen := mo_e_b hI (show g 0 < 19 by omega)
    refine mo_al0 (pc := 112) X dL_isStep_112 ?_
    refine mo_bipush (pc := 113) X dL_isStep_113 (by decide) ?_
    refine mo_cVI (pc := 115) (As := [_]) X mo_k_L_9 mo_y_yX4_value rfl dL_isStep_115 (lt_value W1 (by omega) (w := 7) (by decide)) hx0 rfl (by decide) (by decide) (Nat.le_of_ble_eq_true rfl) ?_
    rintro r_115 _ ⟨h_115, rfl⟩
    rw [mo_nv_7] at h_115
    refine mo_il6 (pc := 118) X dL_isStep_118 ?_
    refine mo_isub (pc := 120) X dL_isStep_120 ?_
    refine mo_ic_ne (pc := 121) (tgt := 128) X dL_isStep_121 (by decide) ?_ ?_ (fun c_121 => ?_) (fun c_121 => ?_)
    · omega
    · omega
    · exfalso
      omega
    · skip
      refine mo_iconst (pc := 124) X dL_isStep_124 ?_
      refine mo_goto (pc := 125) (tgt := 129) X dL_isStep_125 (by decide) ?_
      refine mo_is7 (pc := 129) X dL_isStep_129 rfl (by decide) ?_
      refine mo_al0 (pc := 131) X dL_isStep_131 ?_
      refine mo_al1 (pc := 132) X dL_isStep_132 ?_
      refine mo_al0 (pc := 133) X dL_isStep_133 ?_
      refine mo_iconst (pc := 134) X dL_isStep_134 ?_
      refine mo_cVI (pc := 135) (As := [_]) X mo_k_L_9 mo_y_yX4_value rfl dL_isStep_135 (lt_value W1 (by omega) (w := 4) (by decide)) hx0 rfl (by decide) (by decide) (Nat.le_of_ble_eq_true rfl) ?_
      rintro r_135 _ ⟨h_135, rfl⟩
      rw [mo_nv_4] at h_135
      refine mo_iconst (pc := 138) X dL_isStep_138 ?_
      refine mo_isub (pc := 139) X dL_isStep_139 ?_
      refine mo_iconst (pc := 140) X dL_isStep_140 ?_
      refine mo_al2 (pc := 141) X dL_isStep_141 ?_
      refine mo_cSV (pc := 142) (As := [_, _, _, _, _]) X mo_k_L_43 mo_y_yL_takeOut dL_isStep_142 (ctL_takeOut (x := x) hA hV hne (w := r_135 - 4) (u := -1) (by omega) (by omega) (cnt := mo_nk g) (by rw [s1 h hz1, hN2, hn]) (by omega) nb wb) rfl (by decide) (by decide) (Nat.le_of_ble_eq_true rfl) ?_
      rintro M_142 h_142
      refine mo_il7 (pc := 145) X dL_isStep_145 ?_
      refine mo_zret (pc := 147) X Y rfl (Or.inr rfl) dL_isStep_147 ⟨rfl, rfl, hG1.1, mo_eR g, mo_Wd_mono (mo_Wd_oz W1 fun a a1 a2 => h_142.2 a (by omega) (by omega)) (by omega), j1, ?_⟩
      refine mo_NA_q (p := mo_ke g) (w := r_135 - 4) (u := -1) (N := M1 h) (W := M1 h2) (by omega) h_142.1 (fun i hi => ?_) enk (mo_Iv_n I1).symm ekp (fun i hi => by rw [s1 h hz1, hN1 i hi]) (by rw [s1 h hz1, hN3, e1])
      have mi := mo_Iv_m hI hi
      unfold mo_Mt at mi
      unfold mo_ts mo_ke
      rw [s1 h hz1, hN1 i hi, s1 h2 hz2, hV2 i hi, h_135, e0]
      rw [decide_eq_decide]
      constructor
      · rintro ⟨q1, q2⟩
        omega
      · intro q
        exact ⟨by omega, by omega⟩
  · skip
    refine mo_iconst (pc := 98) X dL_isStep_98 ?_
    refine mo_zret (pc := 99) X Y rfl (Or.inr rfl) dL_isStep_99 ⟨rfl, rfl, rfl, g, mo_Wd_mono hW (by omega), hJ, hN⟩
set_option maxHeartbeats 4000000 in
set_option maxRecDepth 100000 in
theorem ls_1 {κ : mo_T} {lf : Launch} {ρf : mo_E} {G : mo_G} {M : mo_M} {t : Nat} {x h h2 : Nat} {g : Nat → Int} {B : Int} (X : mo_Cx κ lf ρf cL_isStep 12 RL (some .boolean) 7) (Y : mo_Rt κ (ls_post G t x h (B + 1000)) 0 0) (hW : mo_Wd G M x g B) (hB : B ≤ 500000000) (hJ : mo_J g) (hA : G.1 h = some (.inr (0, 64))) (hV : G.1 h2 = some (.inr (0, 64))) (hz1 : mo_oz x h) (hz2 : mo_oz x h2) (hne : h ≠ h2) (hN : mo_NA M h g) (hV2 : ∀ k, k < mo_nk g → M h2 k = mo_fld g k 2) {v y w : Int} (hw : g 0 ≤ w ∧ w ≤ 19) {o6 o7 o8 o9 o10 o11 : Option Value} : mo_V κ 0 0 148 [some (.ref x), some (.ref h), some (.ref h2), some (mo_iv v), some (mo_iv y), some (mo_iv w), o6, o7, o8, o9, o10, o11] [] G M t := by
  have hx0 := mo_Wd_x hW
  have hI := mo_Wd_Iv hW
  have hn := mo_Iv_n hI
  obtain ⟨hI0, hI1, hI2, hI3, hI4, hI5, hI6, hI7, hIh, hIa, hIe, hIm, hIs, hIl, hIw, hIr, -⟩ := id hI
  obtain ⟨hN1, hN2, hN3⟩ := id hN
  obtain ⟨c4, c5, c6⟩ := hJ.1.1
  obtain ⟨wn, rfl⟩ := Int.eq_ofNat_of_zero_le (show 0 ≤ w by omega)
  have hw20 : wn < 20 := by omega
  refine mo_al0 (pc := 148) X dL_isStep_148 ?_
  refine mo_il5 (pc := 149) X dL_isStep_149 ?_
  refine mo_cVI (pc := 151) (As := [_]) X mo_k_L_31 mo_y_yX4_owedBehind rfl dL_isStep_151 (lt_owedBehind hW (by omega) (w := (wn : Int)) (by omega) hw.1) hx0 rfl (by decide) (by decide) (Nat.le_of_ble_eq_true rfl) ?_
  rintro r_151 M_151 ⟨h_151, s_151, w_151⟩
  simp only [Int.toNat_natCast] at h_151
  refine mo_is6 (pc := 154) X dL_isStep_154 rfl (by decide) ?_
  refine mo_al0 (pc := 156) X dL_isStep_156 ?_
  refine mo_il4 (pc := 157) X dL_isStep_157 ?_
  refine mo_iconst (pc := 159) X dL_isStep_159 ?_
  refine mo_cSI (pc := 160) (As := [_, _]) X mo_k_L_34 mo_y_yL_up dL_isStep_160 (ctL_up (n := 2) (by omega)) rfl (by decide) (by decide) (Nat.le_of_ble_eq_true rfl) ?_
  rintro r_160 _ ⟨h_160, rfl⟩
  have b_160 := mo_up2_b y (n := 2) (by omega)
  rw [← h_160] at b_160
  refine mo_il5 (pc := 163) X dL_isStep_163 ?_
  refine mo_cVI (pc := 165) (As := [_, _]) X mo_k_L_47 mo_y_yX4_gainBy rfl dL_isStep_165 (lt_gainBy w_151 (by omega) (o := r_160) (w := (wn : Int)) (by omega) (by omega) hw.1) hx0 rfl (by decide) (by decide) (Nat.le_of_ble_eq_true rfl) ?_
  rintro r_165 M_165 ⟨h_165, s_165, w_165⟩
  have hlb := (mo_pl_Iv (w := wn) hw20 61 (mo_Iv_lim (e := r_160.toNat) hI (by omega)))
  simp only [Int.toNat_natCast] at h_165
  refine mo_is7 (pc := 168) X dL_isStep_168 rfl (by decide) ?_
  refine mo_al1 (pc := 170) X dL_isStep_170 ?_
  refine mo_bipush (pc := 171) X dL_isStep_171 (by decide) ?_
  refine mo_iald (pc := 173) (j := 63) X dL_isStep_173 hA (by omega) ?_ ?_ rfl ?_
  · omega
  · omega
  rw [s_165 h hz1, s_151 h hz1, hN3]
  refine mo_is8 (pc := 174) X dL_isStep_174 rfl (by decide) ?_
  refine mo_al0 (pc := 176) X dL_isStep_176 ?_
  refine mo_il5 (pc := 177) X dL_isStep_177 ?_
  refine mo_callVr (pc := 179) (As := [_]) X mo_k_L_50 mo_y_yX4_planWeek rfl dL_isStep_179 (lt_planWeek w_165 (by omega) (w := (wn : Int)) (by omega) hw.1) hx0 rfl (by decide) (by decide) (Nat.le_of_ble_eq_true rfl) (mo_rm0 κ) ?_
  rintro u1 G1 M1 t1 ⟨hG1, rfl, rfl, s1, w1⟩
  show mo_V κ 0 0 _ _ (mo_iv _ :: _) _ _ _
  simp only [Int.toNat_natCast] at w1 ⊢
  have W1 := mo_Wd_21 w1
  have hx0 : G1.1 x = some (.inl 4) := mo_Wd_x W1
  have hA : G1.1 h = some (.inr (0, 64)) := by rw [hG1.1]; exact hA
  have hV : G1.1 h2 = some (.inr (0, 64)) := by rw [hG1.1]; exact hV
  have hpb := mo_pl_Iv (w := wn) hw20 61 hI
  obtain ⟨b1, b2, b3, b4, b5, b6, b7, b8⟩ := mo_J_pl (w := wn) hw20 61 hI hJ
  have I1 := mo_Wd_Iv W1
  have I17 := I1.2.2.2.2.2.2.2.1
  have eM : M1 h = M h := by rw [s1 h hz1, s_165 h hz1, s_151 h hz1]
  obtain ⟨z, hz⟩ := Int.eq_ofNat_of_zero_le b4
  refine mo_is9 (pc := 182) X dL_isStep_182 rfl (by decide) ?_
  refine mo_iconst (pc := 184) X dL_isStep_184 ?_
  refine mo_is10 (pc := 185) X dL_isStep_185 rfl (by decide) ?_
  refine mo_al1 (pc := 187) X dL_isStep_187 ?_
  refine mo_il8 (pc := 188) X dL_isStep_188 ?_
  refine mo_il8 (pc := 190) X dL_isStep_190 ?_
  refine mo_il9 (pc := 192) X dL_isStep_192 ?_
  refine mo_iadd (pc := 194) X dL_isStep_194 ?_
  refine mo_cSV (pc := 195) (As := [_, _, _]) X mo_k_L_53 mo_y_yL_put dL_isStep_195 (ctL_put (z := z) hA (a := g 1) (by rw [hz]) (by omega) (by omega) (by rw [eM, hN2]; omega) (by rw [eM, hN2]; omega)) rfl (by decide) (by decide) (Nat.le_of_ble_eq_true rfl) ?_
  rintro M2 hM2
  have W2 : mo_Wd G1 M2 x (mo_pl wn 61 g).2 (B + 61) := mo_Wd_oz W1 fun a a1 a2 => by rw [hM2, mo_ur_n (by omega)]
  have c14 : (mo_pl wn 61 g).2 4 = 3 := by rw [b7 4 (by omega) (by omega) (by omega)]; exact c4
  have c10 : (mo_pl wn 61 g).2 0 = g 0 := b7 0 (by omega) (by omega) (by omega)
  have loop : ∀ (z2 k : Nat) (sm q : Int), k + z2 = 3 → q = k → sm = mo_sum (fun o => mo_ow (mo_pl wn 61 g).2 o wn) k → mo_V κ 0 0 201 [some (.ref x), some (.ref h), some (.ref h2), some (mo_iv v), some (mo_iv y), some (mo_iv (wn : Int)), some (mo_iv r_151), some (mo_iv r_165), some (mo_iv (g 1)), some (mo_iv (mo_pl wn 61 g).1), some (mo_iv sm), some (mo_iv q)] [] G1 M2 t1 := by
    intro z2
    induction z2 with
    | zero =>
      intro k sm q f1 f2 f3
      obtain rfl : k = 3 := by omega
      have hsm : sm = r_151 := by
        rw [f3, h_151]
        unfold mo_owa
        rw [c14]
        rfl
      have hob := mo_owa_b I1 (w := wn) hw20
      have fx := mo_pl_2 (w := wn) hw20 hI
      refine mo_il11 (pc := 201) X dL_isStep_201 ?_
      refine mo_al0 (pc := 203) X dL_isStep_203 ?_
      refine mo_iconst (pc := 204) X dL_isStep_204 ?_
      refine mo_cVI (pc := 205) (As := [_]) X mo_k_L_9 mo_y_yX4_value rfl dL_isStep_205 (lt_value W2 (by omega) (w := 0) (by decide)) hx0 rfl (by decide) (by decide) (Nat.le_of_ble_eq_true rfl) ?_
      rintro r_205 _ ⟨h_205, rfl⟩
      rw [mo_nv_0] at h_205
      refine mo_ic_ge (pc := 208) (tgt := 230) X dL_isStep_208 (by decide) ?_ ?_ (fun c_208 => ?_) (fun c_208 => ?_)
      · omega
      · omega
      · skip
        refine mo_il10 (pc := 230) X dL_isStep_230 ?_
        refine mo_il6 (pc := 232) X dL_isStep_232 ?_
        refine mo_ic_ne (pc := 234) (tgt := 265) X dL_isStep_234 (by decide) ?_ ?_ (fun c_234 => ?_) (fun c_234 => ?_)
        · omega
        · omega
        · exfalso
          omega
        · skip
          refine mo_al0 (pc := 237) X dL_isStep_237 ?_
          refine mo_il5 (pc := 238) X dL_isStep_238 ?_
          refine mo_callVr (pc := 240) (As := [_]) X mo_k_L_50 mo_y_yX4_planWeek rfl dL_isStep_240 (lt_planWeek W2 (by omega) (w := (wn : Int)) (by omega) (by rw [c10]; exact hw.1)) hx0 rfl (by decide) (by decide) (Nat.le_of_ble_eq_true rfl) (mo_rm0 κ) ?_
          rintro u3 G3 M3 t3 ⟨hG3, rfl, rfl, s3, w3⟩
          show mo_V κ 0 0 _ _ (mo_iv _ :: _) _ _ _
          have hx0 : G3.1 x = some (.inl 4) := mo_Wd_x (mo_Wd_21 w3)
          simp only [Int.toNat_natCast, fx] at w3 ⊢
          refine mo_if_ne (pc := 243) (tgt := 265) X dL_isStep_243 (by decide) ?_ (fun c_243 => ?_) (fun c_243 => ?_)
          · omega
          · exfalso
            omega
          · skip
            refine mo_al0 (pc := 246) X dL_isStep_246 ?_
            refine mo_cVI (pc := 247) (As := []) X mo_k_L_57 mo_y_yX4_undo rfl dL_isStep_247 (lt_undo w3 (by omega)) hx0 rfl (by decide) (by decide) (Nat.le_of_ble_eq_true rfl) ?_
            rintro r_247 M_247 ⟨h_247, s_247, w_247⟩
            refine mo_if_lt (pc := 250) (tgt := 265) X dL_isStep_250 (by decide) ?_ (fun c_250 => ?_) (fun c_250 => ?_)
            · omega
            · exfalso
              omega
            · skip
              refine mo_il7 (pc := 253) X dL_isStep_253 ?_
              refine mo_il9 (pc := 255) X dL_isStep_255 ?_
              refine mo_iadd (pc := 257) X dL_isStep_257 ?_
              refine mo_if_lt (pc := 258) (tgt := 265) X dL_isStep_258 (by decide) ?_ (fun c_258 => ?_) (fun c_258 => ?_)
              · omega
              · exfalso
                omega
              · skip
                refine mo_iconst (pc := 261) X dL_isStep_261 ?_
                refine mo_goto (pc := 262) (tgt := 266) X dL_isStep_262 (by decide) ?_
                refine mo_zret (pc := 266) X Y rfl (Or.inr rfl) dL_isStep_266 ⟨rfl, rfl, hG3.1.trans hG1.1, (mo_pl wn 61 g).2, mo_Wd_mono w_247 (by omega), b1, ?_⟩
                refine mo_NA_p (f0 := M1 h) (z := z) hn ⟨fun k hk => by rw [eM, hN1 k hk], by rw [eM]; exact hN2, by rw [eM]; exact hN3⟩ (by rw [s_247 h hz1, s3 h hz1, hM2, mo_ur_s, hz]) (by omega) (by rw [b2, hz]) (by rw [b3, hz]) (fun k hk => b5 k 0 hk (by omega)) (fun i hi => b6 i (by omega))
      · exfalso
        omega
    | succ z2 ih =>
      intro k sm q f1 f2 f3
      subst f2
      refine mo_il11 (pc := 201) X dL_isStep_201 ?_
      refine mo_al0 (pc := 203) X dL_isStep_203 ?_
      refine mo_iconst (pc := 204) X dL_isStep_204 ?_
      refine mo_cVI (pc := 205) (As := [_]) X mo_k_L_9 mo_y_yX4_value rfl dL_isStep_205 (lt_value W2 (by omega) (w := 0) (by decide)) hx0 rfl (by decide) (by decide) (Nat.le_of_ble_eq_true rfl) ?_
      rintro r_205 _ ⟨h_205, rfl⟩
      rw [mo_nv_0] at h_205
      refine mo_ic_ge (pc := 208) (tgt := 230) X dL_isStep_208 (by decide) ?_ ?_ (fun c_208 => ?_) (fun c_208 => ?_)
      · omega
      · omega
      · exfalso
        omega
      · skip
        refine mo_il10 (pc := 211) X dL_isStep_211 ?_
        refine mo_al0 (pc := 213) X dL_isStep_213 ?_
        refine mo_il11 (pc := 214) X dL_isStep_214 ?_
        refine mo_il5 (pc := 216) X dL_isStep_216 ?_
        refine mo_cVI (pc := 218) (As := [_, _]) X mo_k_L_25 mo_y_yX4_owed rfl dL_isStep_218 (lt_owed W2 (by omega) (o := (k : Int)) (w := (wn : Int)) (by omega) (by omega)) hx0 rfl (by decide) (by decide) (Nat.le_of_ble_eq_true rfl) ?_
        rintro r_218 _ ⟨h_218, rfl⟩
        simp only [Int.toNat_natCast] at h_218
        refine mo_iadd (pc := 221) X dL_isStep_221 ?_
        refine mo_is10 (pc := 222) X dL_isStep_222 rfl (by decide) ?_
        refine mo_ii11 (pc := 224) X dL_isStep_224 rfl (by decide) ?_
        refine mo_goto (pc := 227) (tgt := 201) X dL_isStep_227 (by decide) ?_
        exact ih (k + 1) _ _ (by omega) (by omega) (by rw [f3, h_218]; rfl)
  refine mo_iconst (pc := 198) X dL_isStep_198 ?_
  refine mo_is11 (pc := 199) X dL_isStep_199 rfl (by decide) ?_
  exact loop 3 0 _ _ (by omega) rfl rfl
set_option maxHeartbeats 4000000 in
set_option maxRecDepth 100000 in
theorem ls_3 {κ : mo_T} {lf : Launch} {ρf : mo_E} {G : mo_G} {M : mo_M} {t : Nat} {x h h2 : Nat} {g : Nat → Int} {B : Int} (X : mo_Cx κ lf ρf cL_isStep 12 RL (some .boolean) 7) (Y : mo_Rt κ (ls_post G t x h (B + 1000)) 0 0) (hW : mo_Wd G M x g B) (hB : B ≤ 500000000) (hJ : mo_J g) (hA : G.1 h = some (.inr (0, 64))) (hV : G.1 h2 = some (.inr (0, 64))) (hz1 : mo_oz x h) (hz2 : mo_oz x h2) (hne : h ≠ h2) (hN : mo_NA M h g) (hV2 : ∀ k, k < mo_nk g → M h2 k = mo_fld g k 2) {v y w : Int} (hw : g 0 ≤ w ∧ w ≤ 19) {o6 o7 o8 o9 o10 o11 : Option Value} : mo_V κ 0 0 267 [some (.ref x), some (.ref h), some (.ref h2), some (mo_iv v), some (mo_iv y), some (mo_iv w), o6, o7, o8, o9, o10, o11] [] G M t := by
  have hx0 := mo_Wd_x hW
  have hI := mo_Wd_Iv hW
  have hn := mo_Iv_n hI
  obtain ⟨hI0, hI1, hI2, hI3, hI4, hI5, hI6, hI7, hIh, hIa, hIe, hIm, hIs, hIl, hIw, hIr, -⟩ := id hI
  obtain ⟨hN1, hN2, hN3⟩ := id hN
  obtain ⟨c4, c5, c6⟩ := hJ.1.1
  refine mo_al0 (pc := 267) X dL_isStep_267 ?_
  refine mo_il4 (pc := 268) X dL_isStep_268 ?_
  refine mo_iconst (pc := 270) X dL_isStep_270 ?_
  refine mo_cSI (pc := 271) (As := [_, _]) X mo_k_L_34 mo_y_yL_up dL_isStep_271 (ctL_up (n := 3) (by omega)) rfl (by decide) (by decide) (Nat.le_of_ble_eq_true rfl) ?_
  rintro r_271 _ ⟨h_271, rfl⟩
  have b_271 := mo_up2_b y (n := 3) (by omega)
  rw [← h_271] at b_271
  refine mo_il5 (pc := 274) X dL_isStep_274 ?_
  refine mo_il4 (pc := 276) X dL_isStep_276 ?_
  refine mo_iconst (pc := 278) X dL_isStep_278 ?_
  refine mo_ishr (pc := 279) X dL_isStep_279 ?_
  refine mo_bipush (pc := 280) X dL_isStep_280 (by decide) ?_
  refine mo_cSI (pc := 282) (As := [_, _]) X mo_k_L_34 mo_y_yL_up dL_isStep_282 (ctL_up (n := 8) (by omega)) rfl (by decide) (by decide) (Nat.le_of_ble_eq_true rfl) ?_
  rintro r_282 _ ⟨h_282, rfl⟩
  have b_282 := mo_up2_b (mo_shr y 4) (n := 8) (by omega)
  rw [← h_282] at b_282
  refine mo_callVr (pc := 285) (As := [_, _, _]) X mo_k_L_60 mo_y_yX4_change rfl dL_isStep_285 (lt_change hW (by omega) (o := r_271) (w := w) (h := r_282) (by omega) hw (by omega)) hx0 rfl (by decide) (by decide) (Nat.le_of_ble_eq_true rfl) (mo_rm0 κ) ?_
  rintro u1 G1 M1 t1 ⟨hG1, rfl, rfl, s1, w1⟩
  show mo_V κ 0 0 _ _ (mo_iv _ :: _) _ _ _
  have W1 := mo_Wd_21 w1
  have hx0 : G1.1 x = some (.inl 4) := mo_Wd_x W1
  have hA : G1.1 h = some (.inr (0, 64)) := by rw [hG1.1]; exact hA
  have hV : G1.1 h2 = some (.inr (0, 64)) := by rw [hG1.1]; exact hV
  obtain ⟨j1, je⟩ := mo_J_CH (o := r_271.toNat) (w := w.toNat) (h := r_282) (by omega) hJ
  have hh := hIh (20 * r_271.toNat + w.toNat) (by omega)
  rw [show 8 + (20 * r_271.toNat + w.toNat) = 8 + 20 * r_271.toNat + w.toNat by omega] at hh
  refine mo_if_lt (pc := 288) (tgt := 295) X dL_isStep_288 (by decide) ?_ (fun c_288 => ?_) (fun c_288 => ?_)
  · omega
  · exfalso
    omega
  · skip
    refine mo_iconst (pc := 291) X dL_isStep_291 ?_
    refine mo_goto (pc := 292) (tgt := 296) X dL_isStep_292 (by decide) ?_
    refine mo_zret (pc := 296) X Y rfl (Or.inr rfl) dL_isStep_296 ⟨rfl, rfl, hG1.1, _, mo_Wd_mono W1 (by omega), j1, mo_NA_cg hN (s1 h hz1) (je 7 (by omega)) (je 1 (by omega)) (fun k => je _ (by omega))⟩
set_option maxHeartbeats 4000000 in
set_option maxRecDepth 100000 in
theorem ls_4 {κ : mo_T} {lf : Launch} {ρf : mo_E} {G : mo_G} {M : mo_M} {t : Nat} {x h h2 : Nat} {g : Nat → Int} {B : Int} (X : mo_Cx κ lf ρf cL_isStep 12 RL (some .boolean) 7) (Y : mo_Rt κ (ls_post G t x h (B + 1000)) 0 0) (hW : mo_Wd G M x g B) (hB : B ≤ 500000000) (hJ : mo_J g) (hA : G.1 h = some (.inr (0, 64))) (hV : G.1 h2 = some (.inr (0, 64))) (hz1 : mo_oz x h) (hz2 : mo_oz x h2) (hne : h ≠ h2) (hN : mo_NA M h g) (hV2 : ∀ k, k < mo_nk g → M h2 k = mo_fld g k 2) {v y w : Int} (hw : g 0 ≤ w ∧ w ≤ 19) {o6 o7 o8 o9 o10 o11 : Option Value} : mo_V κ 0 0 297 [some (.ref x), some (.ref h), some (.ref h2), some (mo_iv v), some (mo_iv y), some (mo_iv w), o6, o7, o8, o9, o10, o11] [] G M t := by
  have hx0 := mo_Wd_x hW
  have hI := mo_Wd_Iv hW
  have hn := mo_Iv_n hI
  obtain ⟨hI0, hI1, hI2, hI3, hI4, hI5, hI6, hI7, hIh, hIa, hIe, hIm, hIs, hIl, hIw, hIr, -⟩ := id hI
  obtain ⟨hN1, hN2, hN3⟩ := id hN
  obtain ⟨c4, c5, c6⟩ := hJ.1.1
  refine mo_al0 (pc := 297) X dL_isStep_297 ?_
  refine mo_il4 (pc := 298) X dL_isStep_298 ?_
  refine mo_iconst (pc := 300) X dL_isStep_300 ?_
  refine mo_cSI (pc := 301) (As := [_, _]) X mo_k_L_34 mo_y_yL_up dL_isStep_301 (ctL_up (n := 2) (by omega)) rfl (by decide) (by decide) (Nat.le_of_ble_eq_true rfl) ?_
  rintro r_301 _ ⟨h_301, rfl⟩
  have b_301 := mo_up2_b y (n := 2) (by omega)
  rw [← h_301] at b_301
  refine mo_il4 (pc := 304) X dL_isStep_304 ?_
  refine mo_iconst (pc := 306) X dL_isStep_306 ?_
  refine mo_ishr (pc := 307) X dL_isStep_307 ?_
  refine mo_ldc (pc := 308) (v := 268435456) X dL_isStep_308 mo_wk_L_64 ?_
  refine mo_cSI (pc := 310) (As := [_, _]) X mo_k_L_34 mo_y_yL_up dL_isStep_310 (ctL_up (n := 268435456) (by omega)) rfl (by decide) (by decide) (Nat.le_of_ble_eq_true rfl) ?_
  rintro r_310 _ ⟨h_310, rfl⟩
  have b_310 := mo_up2_b (mo_shr y 1) (n := 268435456) (by omega)
  rw [← h_310] at b_310
  refine mo_callVr (pc := 313) (As := [_, _]) X mo_k_L_65 mo_y_yX4_setSlots rfl dL_isStep_313 (lt_setSlots hW (by omega) (o := r_301) (v := r_310) (by omega) (by omega)) hx0 rfl (by decide) (by decide) (Nat.le_of_ble_eq_true rfl) (mo_rm0 κ) ?_
  rintro u1 G1 M1 t1 ⟨hG1, rfl, rfl, s1, w1⟩
  show mo_V κ 0 0 _ _ (mo_iv _ :: _) _ _ _
  have W1 := mo_Wd_21 w1
  have hx0 : G1.1 x = some (.inl 4) := mo_Wd_x W1
  have hA : G1.1 h = some (.inr (0, 64)) := by rw [hG1.1]; exact hA
  have hV : G1.1 h2 = some (.inr (0, 64)) := by rw [hG1.1]; exact hV
  obtain ⟨j1, je⟩ := mo_J_u192 (e := r_301.toNat) (v := r_310) (by omega) hJ
  have hh := hIs r_301.toNat (by omega)
  refine mo_if_lt (pc := 316) (tgt := 323) X dL_isStep_316 (by decide) ?_ (fun c_316 => ?_) (fun c_316 => ?_)
  · omega
  · exfalso
    omega
  · skip
    refine mo_iconst (pc := 319) X dL_isStep_319 ?_
    refine mo_goto (pc := 320) (tgt := 324) X dL_isStep_320 (by decide) ?_
    refine mo_zret (pc := 324) X Y rfl (Or.inr rfl) dL_isStep_324 ⟨rfl, rfl, hG1.1, _, mo_Wd_mono W1 (by omega), j1, mo_NA_cg hN (s1 h hz1) (je 7 (by omega)) (je 1 (by omega)) (fun k => je _ (by omega))⟩
