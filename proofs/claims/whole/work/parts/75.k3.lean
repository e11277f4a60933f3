theorem mo_run_Iv {b : Nat → Int} {n k : Nat} (hrd : mo_rd b n k) (hk : n ≤ mo_os b k) : ∀ (z i : Nat) (g : Nat → Int) (C : Int), i ≤ k → mo_Iv g C → mo_Iv (mo_run b n z i g).2 (C + 61 * z)
  | 0, i, g, C, hi, hI => by
    unfold mo_run
    exact mo_Iv_mono hI (by omega)
  | z + 1, i, g, C, hi, hI => by
    unfold mo_run
    split
    · rename_i h
      have hik : i < k := by
        rcases Nat.lt_or_ge i k with c | c
        · exact c
        · exfalso
          obtain rfl : i = k := by omega
          omega
      have hod := (hrd i hik).2
      have hok : mo_okp b (mo_os b i) = true := by
        unfold mo_odf at hod
        rw [Bool.and_eq_true] at hod
        exact hod.1
      obtain ⟨v1, v2, v3, v4⟩ := mo_ok_v hok
      have h9 : mo_Iv (mo_do b (mo_os b i) g).2 (C + 61) := by
        unfold mo_do
        exact mo_dx_Iv hI (fun q => by have := v4 q; omega)
      exact mo_Iv_mono (mo_run_Iv hrd hk z (i + 1) _ (C + 61) (by omega) h9) (by omega)
    · exact mo_Iv_mono hI (by omega)
theorem mo_LI_mono {G : mo_G} {M : mo_M} {x m ou n sv s : Nat} {B C : Int} (L : mo_LI G M x m ou n sv s B) (h : B ≤ C) : mo_LI G M x m ou n sv s C := by
  obtain ⟨L1, L2, L3, L4, L5, L6, L7, L8, L9, L10, L11, L12⟩ := L
  exact ⟨L1, L2, L3, L4, L5, L6, L7, mo_Iv_mono L8 h, fun i hi => mo_Iv_mono (L9 i hi) h, L10, L11, L12⟩
theorem mo_LIC {G : mo_G} {M M2 : mo_M} {x m ou n sv s : Nat} {B : Int} {f : Nat → Int} (L : mo_LI G M x m ou n sv s B) (hM : M2 = mo_ur (mo_ur M (x + 127) (va_up (M (x + 127)) 5 0)) m (va_up (va_up (M m) 4 0) 10 0)) : mo_LI G M2 x m ou 0 sv s (B + 4000) := by
  obtain ⟨L1, L2, L3, L4, L5, L6, L7, L8, L9, L10, L11, L12⟩ := L
  have e1 : M2 (m + 1) = M (m + 1) := by rw [hM, mo_ur_n (by omega), mo_ur_n (by omega)]
  have e2 : M2 (m + 2) = M (m + 2) := by rw [hM, mo_ur_n (by omega), mo_ur_n (by omega)]
  have fr : ∀ a, a ≠ m → a ≠ x + 127 → M2 a = M a := fun a h1 h2 => by rw [hM, mo_ur_n h1, mo_ur_n h2]
  obtain ⟨c1, c2, c3, c4, c5, c6, c7⟩ := L3
  refine ⟨L1, L2, ?_, by rw [hM, mo_ur_s, mo_up_n (by omega), mo_up_n (by omega)]; exact L4, by rw [hM, mo_ur_s, mo_up_s]; rfl, by omega, L7, by rw [e1]; exact mo_Iv_mono L8 (by omega), fun i hi => by rw [e2]; exact mo_Iv_mono (L9 i hi) (by omega), fun j hj => by omega, L11, L12⟩
  rw [e1, e2]
  exact ⟨c1, c2, mo_SR_fr c3 fun a a1 a2 => fr a (by omega) (by omega), by rw [fr x (by omega) (by omega)]; exact c4, fun i hi => mo_SR_fr (c5 i hi) fun a a1 a2 => fr a (by omega) (by omega), by rw [hM, mo_ur_n (by omega), mo_ur_s, mo_up_s]; rfl, fun j hj => by omega⟩
set_option maxHeartbeats 4000000 in
set_option maxRecDepth 100000 in
theorem lc_settledIn {κ : mo_T} {lf : Launch} {ρf : mo_E} {ret : Option FieldType} (hlf : lf.stackTraces = false) {b Ls : Nat} {xs : Nat → Int32} {i x m ou n sv s t k0 n0 : Nat} {B : Int} {G : mo_G} {M : mo_M} {dd : Drawn} {hh : List (Nat × Nat × Nat × Nat)} (X0 : mo_Cx κ lf ρf cL_law 9 RL ret 11) (Z0 : mo_Hx κ hh) (hX0 : mo_Xs κ b Ls xs) (hLs : Ls ≤ 3072) (hi : i + 6 ≤ Ls) (hrm : mo_Rm κ (k0 + 1) (n0 + 6)) (L : mo_LI G M x m ou n sv s B) (hB : B ≤ 3000000) (hd0 : (mo_st κ).drawn.sameBut dd lw_cs) (next : mo_Nxt κ b x m ou i B k0 n0) : mo_V (mo_dr κ dd) k0 n0 1628 [some (.ref b), some (.ref x), some (.ref m), some (.ref ou), some (mo_iv (i : Int)), none, none, none, none] [] G M t := by
  have X := mo_Cx_dr X0 dd
  have Z := mo_Hx_dr Z0 dd
  have hXs := mo_Xs_dr hX0 dd
  have hrm : mo_Rm (mo_dr κ dd) (k0 + 1) (n0 + 6) := hrm
  obtain ⟨L1, L2, L3, L4, L5, L6, L7, L8, L9, L10, L11, L12⟩ := id L
  have hx := L3.1
  have hrm0 : mo_Rm (mo_dr κ dd) (k0 + 0) (n0 + 0) := ⟨Nat.le_trans (by omega) hrm.1, Nat.le_trans (by omega) hrm.2⟩
  refine mo_al1 (pc := 1628) X dL_law_1628 ?_
  refine mo_callVr (pc := 1629) (As := []) X mo_k_L_171 mo_y_yX4_settledIn rfl dL_law_1629 (ct4_settledIn hx L3.2.2.1 L8 (by omega)) (mo_Ms_o hx) rfl (by decide) (by decide) (Nat.le_of_ble_eq_true rfl) hrm0 ?_
  rintro v1 G1 M1 t1 ⟨hG1, ht1, y1, hv1, hy, hM⟩
  subst hv1
  have hL1 : mo_L1 G G1 M M1 x ou := ⟨⟨by rw [hG1], fun b hb => by rw [hG1]⟩, fun a h1 h2 => hM a (by omega) (by omega)⟩
  have hCI : mo_CI G1 M1 x (M (m + 1)) n (M (m + 8)) sv (fun i k => M (m + 2) (640 * i + k)) s := by rw [hG1]; exact mo_CI_up L3 (mo_SR_fr L3.2.2.1 fun a a1 a2 => hM a (by omega) (by omega)) fun a a1 a2 => hM a (by omega) (by omega)
  have e1 : M1 (m + 1) = M (m + 1) := hL1.2 (m + 1) (by omega) (by omega)
  have hm1 : mo_Md G1 m := mo_Md_f3 hL1.1.1 (hL1.1.2 m (by omega)) L1
  have hI1 : mo_Iv (M1 (m + 1)) B := by rw [e1]; exact L8
  show mo_V (mo_dr κ dd) k0 n0 1632 _ [mo_iv y1] _ _ _
  refine mo_al2 (pc := 1632) X dL_law_1632 ?_
  refine mo_callVr (pc := 1633) (As := []) X mo_k_L_174 mo_y_yX5_settledIn rfl dL_law_1633 (ct5_settledIn (m := m) hm1 hI1 (by omega)) (mo_Md_o hm1) rfl (by decide) (by decide) (Nat.le_of_ble_eq_true rfl) hrm0 ?_
  rintro v2 G2 M2 t2 ⟨hG2, ht2, y2, hv2, hy2, hq⟩
  subst hv2
  rw [e1] at hy2
  obtain rfl : y2 = y1 := hy2.trans hy.symm
  show mo_V (mo_dr κ dd) k0 n0 1636 _ [mo_iv y2, mo_iv y2] _ _ _
  refine mo_ic_eqS (pc := 1636) (tgt := 1890) X dL_law_1636 (by decide) ?_
  refine mo_wd (k2 := k0 + 1) (n2 := n0 + 6) (by omega) (by omega) ?_
  rw [hG2]
  exact next dd hd0 _ _ _ _ _ _ (mo_LIQ L hL1 hCI hq)
set_option maxHeartbeats 4000000 in
set_option maxRecDepth 100000 in
theorem lc_digest {κ : mo_T} {lf : Launch} {ρf : mo_E} {ret : Option FieldType} (hlf : lf.stackTraces = false) {b Ls : Nat} {xs : Nat → Int32} {i x m ou n sv s t k0 n0 : Nat} {B : Int} {G : mo_G} {M : mo_M} {dd : Drawn} {hh : List (Nat × Nat × Nat × Nat)} (X0 : mo_Cx κ lf ρf cL_law 9 RL ret 11) (Z0 : mo_Hx κ hh) (hX0 : mo_Xs κ b Ls xs) (hLs : Ls ≤ 3072) (hi : i + 6 ≤ Ls) (hrm : mo_Rm κ (k0 + 1) (n0 + 6)) (L : mo_LI G M x m ou n sv s B) (hB : B ≤ 3000000) (hd0 : (mo_st κ).drawn.sameBut dd lw_cs) (next : mo_Nxt κ b x m ou i B k0 n0) : mo_V (mo_dr κ dd) k0 n0 1876 [some (.ref b), some (.ref x), some (.ref m), some (.ref ou), some (mo_iv (i : Int)), none, none, none, none] [] G M t := by
  have X := mo_Cx_dr X0 dd
  have Z := mo_Hx_dr Z0 dd
  have hXs := mo_Xs_dr hX0 dd
  have hrm : mo_Rm (mo_dr κ dd) (k0 + 1) (n0 + 6) := hrm
  obtain ⟨L1, L2, L3, L4, L5, L6, L7, L8, L9, L10, L11, L12⟩ := id L
  have hx := L3.1
  have hrm0 : mo_Rm (mo_dr κ dd) (k0 + 0) (n0 + 0) := ⟨Nat.le_trans (by omega) hrm.1, Nat.le_trans (by omega) hrm.2⟩
  refine mo_al1 (pc := 1876) X dL_law_1876 ?_
  refine mo_callVr (pc := 1877) (As := []) X mo_k_L_197 mo_y_yX4_digest rfl dL_law_1877 (ct4_digest hx L3.2.2.1 L8 (by omega) L3.2.2.2.2.2.1 L3.2.2.2.1 (by omega) (by omega)) (mo_Ms_o hx) rfl (by decide) (by decide) (Nat.le_of_ble_eq_true rfl) hrm0 ?_
  rintro v1 G1 M1 t1 ⟨hG1, ht1, y1, hv1, hy, hM⟩
  subst hv1
  have hL1 : mo_L1 G G1 M M1 x ou := ⟨⟨by rw [hG1], fun b hb => by rw [hG1]⟩, fun a h1 h2 => hM a (by omega) (by omega)⟩
  have hCI : mo_CI G1 M1 x (M (m + 1)) n (M (m + 8)) sv (fun i k => M (m + 2) (640 * i + k)) s := by rw [hG1]; exact mo_CI_up L3 (mo_SR_fr L3.2.2.1 fun a a1 a2 => hM a (by omega) (by omega)) fun a a1 a2 => hM a (by omega) (by omega)
  have e0 : M1 m = M m := hL1.2 m (by omega) (by omega)
  have e1 : M1 (m + 1) = M (m + 1) := hL1.2 (m + 1) (by omega) (by omega)
  have hm1 : mo_Md G1 m := mo_Md_f3 hL1.1.1 (hL1.1.2 m (by omega)) L1
  have hI1 : mo_Iv (M1 (m + 1)) B := by rw [e1]; exact L8
  show mo_V (mo_dr κ dd) k0 n0 1880 _ [mo_jv y1] _ _ _
  refine mo_al2 (pc := 1880) X dL_law_1880 ?_
  refine mo_callVr (pc := 1881) (As := []) X mo_k_L_201 mo_y_yX5_digest rfl dL_law_1881 (ct5_digest (m := m) (n := (n : Int)) (sv := (sv : Int)) hm1 hI1 (by omega) (by rw [e0]; exact L5) (by rw [e0]; exact L4) (by omega) (by omega)) (mo_Md_o hm1) rfl (by decide) (by decide) (Nat.le_of_ble_eq_true rfl) hrm0 ?_
  rintro v2 G2 M2 t2 ⟨hG2, ht2, y2, hv2, hy2, hq⟩
  subst hv2
  rw [e1] at hy2
  obtain rfl : y2 = y1 := hy2.trans hy.symm
  show mo_V (mo_dr κ dd) k0 n0 1884 _ [mo_jv y2, mo_jv y2] _ _ _
  refine mo_lcmpS (pc := 1884) X dL_law_1884 ?_
  refine mo_if_eq (pc := 1885) (tgt := 1890) X dL_law_1885 (by decide) (by decide) (fun c_b => ?_) (fun c_b => absurd rfl c_b)
  refine mo_wd (k2 := k0 + 1) (n2 := n0 + 6) (by omega) (by omega) ?_
  rw [hG2]
  exact next dd hd0 _ _ _ _ _ _ (mo_LIQ L hL1 hCI hq)
set_option maxHeartbeats 4000000 in
set_option maxRecDepth 100000 in
theorem lc_clearText {κ : mo_T} {lf : Launch} {ρf : mo_E} {ret : Option FieldType} (hlf : lf.stackTraces = false) {b Ls : Nat} {xs : Nat → Int32} {i x m ou n sv s t k0 n0 : Nat} {B : Int} {G : mo_G} {M : mo_M} {dd : Drawn} {hh : List (Nat × Nat × Nat × Nat)} (X0 : mo_Cx κ lf ρf cL_law 9 RL ret 11) (Z0 : mo_Hx κ hh) (hX0 : mo_Xs κ b Ls xs) (hLs : Ls ≤ 3072) (hi : i + 6 ≤ Ls) (hrm : mo_Rm κ (k0 + 1) (n0 + 6)) (L : mo_LI G M x m ou n sv s B) (hB : B ≤ 3000000) (hd0 : (mo_st κ).drawn.sameBut dd lw_cs) (next : mo_Nxt κ b x m ou i B k0 n0) : mo_V (mo_dr κ dd) k0 n0 1806 [some (.ref b), some (.ref x), some (.ref m), some (.ref ou), some (mo_iv (i : Int)), none, none, none, none] [] G M t := by
  have X := mo_Cx_dr X0 dd
  have Z := mo_Hx_dr Z0 dd
  have hXs := mo_Xs_dr hX0 dd
  have hrm : mo_Rm (mo_dr κ dd) (k0 + 1) (n0 + 6) := hrm
  obtain ⟨L1, L2, L3, L4, L5, L6, L7, L8, L9, L10, L11, L12⟩ := id L
  have hx := L3.1
  have hrm0 : mo_Rm (mo_dr κ dd) (k0 + 0) (n0 + 0) := ⟨Nat.le_trans (by omega) hrm.1, Nat.le_trans (by omega) hrm.2⟩
  refine mo_al1 (pc := 1806) X dL_law_1806 ?_
  refine mo_callVr (pc := 1807) (As := []) X mo_k_L_186 mo_y_yX4_clearText rfl dL_law_1807 (ct4_clearText hx L3.2.2.2.2.2.1) (mo_Ms_o hx) rfl (by decide) (by decide) (Nat.le_of_ble_eq_true rfl) hrm0 ?_
  rintro v1 G1 M1 t1 ⟨hG1, ht1, y1, hv1, hy, hM⟩
  subst hv1
  have e0 : M1 m = M m := by rw [hM, mo_ur_n (by omega)]
  have hm1 : mo_Md G1 m := by rw [hG1]; exact L1
  show mo_V (mo_dr κ dd) k0 n0 1810 _ [mo_iv y1] _ _ _
  refine mo_al2 (pc := 1810) X dL_law_1810 ?_
  refine mo_callVr (pc := 1811) (As := []) X mo_k_L_189 mo_y_yX5_clearText rfl dL_law_1811 (ct5_clearText (m := m) hm1 (by rw [e0]; exact L5)) (mo_Md_o hm1) rfl (by decide) (by decide) (Nat.le_of_ble_eq_true rfl) hrm0 ?_
  rintro v2 G2 M2 t2 ⟨hG2, ht2, y2, hv2, hy2, hM2⟩
  subst hv2
  obtain rfl : y2 = y1 := hy2.trans hy.symm
  show mo_V (mo_dr κ dd) k0 n0 1814 _ [mo_iv y2, mo_iv y2] _ _ _
  refine mo_ic_eqS (pc := 1814) (tgt := 1890) X dL_law_1814 (by decide) ?_
  refine mo_wd (k2 := k0 + 1) (n2 := n0 + 6) (by omega) (by omega) ?_
  rw [e0, hM] at hM2
  rw [hG2, hG1]
  exact next dd hd0 _ _ _ _ _ _ (mo_LIC (f := fun _ => 0) L hM2)
set_option maxHeartbeats 4000000 in
set_option maxRecDepth 100000 in
theorem lc_carryOut {κ : mo_T} {lf : Launch} {ρf : mo_E} {ret : Option FieldType} (hlf : lf.stackTraces = false) {b Ls : Nat} {xs : Nat → Int32} {i x m ou n sv s t k0 n0 : Nat} {B : Int} {G : mo_G} {M : mo_M} {dd : Drawn} {hh : List (Nat × Nat × Nat × Nat)} (X0 : mo_Cx κ lf ρf cL_law 9 RL ret 11) (Z0 : mo_Hx κ hh) (hX0 : mo_Xs κ b Ls xs) (hLs : Ls ≤ 3072) (hi : i + 6 ≤ Ls) (hrm : mo_Rm κ (k0 + 1) (n0 + 6)) (L : mo_LI G M x m ou n sv s B) (hB : B ≤ 3000000) (hd0 : (mo_st κ).drawn.sameBut dd lw_cs) (next : mo_Nxt κ b x m ou i B k0 n0) : mo_V (mo_dr κ dd) k0 n0 1819 [some (.ref b), some (.ref x), some (.ref m), some (.ref ou), some (mo_iv (i : Int)), none, none, none, none] [] G M t := by
  have X := mo_Cx_dr X0 dd
  have Z := mo_Hx_dr Z0 dd
  have hXs := mo_Xs_dr hX0 dd
  have hrm : mo_Rm (mo_dr κ dd) (k0 + 1) (n0 + 6) := hrm
  obtain ⟨L1, L2, L3, L4, L5, L6, L7, L8, L9, L10, L11, L12⟩ := id L
  have hx := L3.1
  have hrm0 : mo_Rm (mo_dr κ dd) (k0 + 0) (n0 + 0) := ⟨Nat.le_trans (by omega) hrm.1, Nat.le_trans (by omega) hrm.2⟩
  refine mo_al1 (pc := 1819) X dL_law_1819 ?_
  refine mo_callVr (pc := 1820) (As := []) X mo_k_L_190 mo_y_yX4_carryOut rfl dL_law_1820 (ct4_carryOut L3 L8 (by omega) L6 L7 L10) (mo_Ms_o hx) rfl (by decide) (by decide) (Nat.le_of_ble_eq_true rfl) hrm0 ?_
  rintro v1 G1 M1 t1 ⟨ht1, hgeo, hfr, y1, hv1, k1, hrd1, hA1⟩
  subst hv1
  have hL1 : mo_L1 G G1 M M1 x ou := ⟨hgeo, fun a h1 h2 => hfr a h1⟩
  have e0 : M1 m = M m := hL1.2 m (by omega) (by omega)
  have e1 : M1 (m + 1) = M (m + 1) := hL1.2 (m + 1) (by omega) (by omega)
  have e8 : M1 (m + 8) = M (m + 8) := hL1.2 (m + 8) (by omega) (by omega)
  have hm1 : mo_Md G1 m := mo_Md_f3 hL1.1.1 (hL1.1.2 m (by omega)) L1
  have hI1 : mo_Iv (M1 (m + 1)) B := by rw [e1]; exact L8
  show mo_V (mo_dr κ dd) k0 n0 1823 _ [mo_iv y1] _ _ _
  refine mo_al2 (pc := 1823) X dL_law_1823 ?_
  refine mo_callVr (pc := 1824) (As := []) X mo_k_L_193 mo_y_yX5_carryOut rfl dL_law_1824 (ct5_carryOut (m := m) (n := n) (sv := sv) hm1 hI1 (by omega) L6 (by rw [e0]; exact L5) (fun j hj => by rw [e8]; exact L10 j hj) (by rw [e0]; exact L4) L7) (mo_Md_o hm1) rfl (by decide) (by decide) (Nat.le_of_ble_eq_true rfl) hrm0 ?_
  rintro v2 G2 M2 t2 ⟨hG2, ht2, y2, hv2, k2, hrd2, hA2⟩
  subst hv2
  rw [e8] at hrd2 hA2
  rw [e1] at hA2
  have hk : k1 = k2 := by
    refine mo_rd_u hrd1 hrd2 ?_ ?_
    · rcases hA1 with ⟨q1, q2, -⟩ | ⟨q1, -⟩
      · exact Or.inl ⟨q1, q2⟩
      · exact Or.inr q1
    · rcases hA2 with ⟨q1, q2, -⟩ | ⟨q1, -⟩
      · exact Or.inl ⟨q1, q2⟩
      · exact Or.inr q1
  subst hk
  show mo_V (mo_dr κ dd) k0 n0 1827 _ [mo_iv y2, mo_iv y1] _ _ _
  have hfin : y2 = y1 ∧ ∃ n' sv' s', mo_LI G1 M2 x m ou n' sv' s' (B + 4000) := by
    rcases hA1 with ⟨a1, a2, a3, a4⟩ | ⟨a1, a2, s1, a4⟩
    · rcases hA2 with ⟨b1, b2, b3, b4⟩ | ⟨b1, b2, b4⟩
      · exact ⟨b3.trans a3.symm, n, sv, s, mo_LIQ L hL1 a4 b4⟩
      · exfalso; omega
    · rcases hA2 with ⟨b1, b2, b3, b4⟩ | ⟨b1, b2, b4⟩
      · exfalso; omega
      · exact ⟨b2.trans a2.symm, n, _, s1, mo_LIU L hL1 a4 (mo_Iv_mono (mo_run_Iv hrd1 a1 51 0 _ B (by omega) L8) (by omega)) b4⟩
  obtain ⟨rfl, n2, sv2, s2, LI2⟩ := hfin
  refine mo_ic_eqS (pc := 1827) (tgt := 1890) X dL_law_1827 (by decide) ?_
  refine mo_wd (k2 := k0 + 1) (n2 := n0 + 6) (by omega) (by omega) ?_
  rw [hG2]
  exact next dd hd0 _ _ _ _ _ _ LI2
set_option maxHeartbeats 4000000 in
set_option maxRecDepth 100000 in
theorem lc_kept {κ : mo_T} {lf : Launch} {ρf : mo_E} {ret : Option FieldType} (hlf : lf.stackTraces = false) {b Ls : Nat} {xs : Nat → Int32} {i x m ou n sv s t k0 n0 : Nat} {B : Int} {G : mo_G} {M : mo_M} {dd : Drawn} {hh : List (Nat × Nat × Nat × Nat)} (X0 : mo_Cx κ lf ρf cL_law 9 RL ret 11) (Z0 : mo_Hx κ hh) (hX0 : mo_Xs κ b Ls xs) (hLs : Ls ≤ 3072) (hi : i + 6 ≤ Ls) (hrm : mo_Rm κ (k0 + 1) (n0 + 6)) (L : mo_LI G M x m ou n sv s B) (hB : B ≤ 3000000) (hd0 : (mo_st κ).drawn.sameBut dd lw_cs) (next : mo_Nxt κ b x m ou i B k0 n0) : mo_V (mo_dr κ dd) k0 n0 1709 [some (.ref b), some (.ref x), some (.ref m), some (.ref ou), some (mo_iv (i : Int)), none, none, none, none] [] G M t := by
  have X := mo_Cx_dr X0 dd
  have Z := mo_Hx_dr Z0 dd
  have hXs := mo_Xs_dr hX0 dd
  have hrm : mo_Rm (mo_dr κ dd) (k0 + 1) (n0 + 6) := hrm
  obtain ⟨L1, L2, L3, L4, L5, L6, L7, L8, L9, L10, L11, L12⟩ := id L
  have hx := L3.1
  have hrm0 : mo_Rm (mo_dr κ dd) (k0 + 0) (n0 + 0) := ⟨Nat.le_trans (by omega) hrm.1, Nat.le_trans (by omega) hrm.2⟩
  refine mo_al1 (pc := 1709) X dL_law_1709 ?_
  refine mo_callVD (pc := 1710) (As := []) X0 hd0 mo_k_L_178 mo_y_yX4_kept rfl dL_law_1710 (ct4_kept hx L3.2.2.1 L8 (by omega)) (mo_Ms_o hx) rfl (by decide) (by decide) (Nat.le_of_ble_eq_true rfl) hrm0 ?_
  rintro v1 G1 M1 t1 d1 ⟨hG1, ht1, hM1, r1, hv1, hr1⟩ hd1
  subst hv1
  rw [hG1, hM1]
  clear hG1 hM1
  have X1 := mo_Cx_dr X0 d1
  show mo_V (mo_dr κ d1) k0 n0 1713 _ [.double r1] _ _ _
  refine mo_dstore (pc := 1713) (i := 5) X1 dL_law_1713 (Or.inr ⟨_, rfl, rfl⟩) (by decide) ?_
  show mo_V (mo_dr κ d1) k0 n0 1715 [some (.ref b), some (.ref x), some (.ref m), some (.ref ou), some (mo_iv (i : Int)), some (.double r1), none, none, none] [] _ _ _
  refine mo_al2 (pc := 1715) X1 dL_law_1715 ?_
  refine mo_callVD (pc := 1716) (As := []) X0 hd1 mo_k_L_182 mo_y_yX5_kept rfl dL_law_1716 (ct5_kept (m := m) L1 L8 (by omega)) (mo_Md_o L1) rfl (by decide) (by decide) (Nat.le_of_ble_eq_true rfl) hrm0 ?_
  rintro v2 G2 M2 t2 d2 ⟨hG2, ht2, hM2, r2, hv2, hr2⟩ hd2
  subst hv2
  rw [hG2]
  have hLI : mo_LI G M2 x m ou n sv s (B + 4000) := mo_LIQ L (G1 := G) (M1 := M) ⟨⟨rfl, fun b hb => rfl⟩, fun a h1 h2 => rfl⟩ L3 (mo_Qr_go hM2 rfl)
  have X2 := mo_Cx_dr X0 d2
  show mo_V (mo_dr κ d2) k0 n0 1719 _ [.double r2] _ _ _
  refine mo_dstore (pc := 1719) (i := 7) X2 dL_law_1719 (Or.inr ⟨_, rfl, rfl⟩) (by decide) ?_
  show mo_V (mo_dr κ d2) k0 n0 1721 [some (.ref b), some (.ref x), some (.ref m), some (.ref ou), some (mo_iv (i : Int)), some (.double r1), none, some (.double r2), none] [] _ _ _
  refine mo_dload (pc := 1721) (i := 5) X2 dL_law_1721 rfl ?_
  refine mo_dload (pc := 1723) (i := 7) X2 dL_law_1723 rfl ?_
  rcases mo_kD2 hr1 hr2 with ⟨hrr, hnn⟩ | ⟨hn1, hn2⟩
  · refine mo_dcmp (pc := 1725) (v := 0) X2 (by rw [← hrr, mo_dcS hnn]; rfl) dL_law_1725 ?_
    refine mo_if_eq (pc := 1726) (tgt := 1747) X2 dL_law_1726 (by decide) (by decide) (fun c_b => ?_) (fun c_b => absurd rfl c_b)
    refine mo_goto (pc := 1747) (tgt := 1890) X2 dL_law_1747 (by decide) ?_
    refine mo_fg4 ?_
    refine mo_wd (k2 := k0 + 1) (n2 := n0 + 6) (by omega) (by omega) ?_
    exact next d2 hd2 _ _ _ _ _ _ hLI
  · refine mo_dcmp (pc := 1725) (v := -1) X2 (by rw [mo_dcN hn1]; rfl) dL_law_1725 ?_
    refine mo_if_eq (pc := 1726) (tgt := 1747) X2 dL_law_1726 (by decide) (by decide) (fun c_b => absurd c_b (by decide)) (fun c_b => ?_)
    refine mo_dload (pc := 1729) (i := 5) X2 dL_law_1729 rfl ?_
    refine mo_dload (pc := 1731) (i := 5) X2 dL_law_1731 rfl ?_
    refine mo_dcmp (pc := 1733) (v := -1) X2 (by rw [mo_dcN hn1]; rfl) dL_law_1733 ?_
    refine mo_if_eq (pc := 1734) (tgt := 1745) X2 dL_law_1734 (by decide) (by decide) (fun c_b => absurd c_b (by decide)) (fun c_b => ?_)
    refine mo_dload (pc := 1737) (i := 7) X2 dL_law_1737 rfl ?_
    refine mo_dload (pc := 1739) (i := 7) X2 dL_law_1739 rfl ?_
    refine mo_dcmp (pc := 1741) (v := -1) X2 (by rw [mo_dcN hn2]; rfl) dL_law_1741 ?_
    refine mo_if_ne (pc := 1742) (tgt := 1747) X2 dL_law_1742 (by decide) (by decide) (fun c_b => ?_) (fun c_b => absurd c_b (by decide))
    refine mo_goto (pc := 1747) (tgt := 1890) X2 dL_law_1747 (by decide) ?_
    refine mo_fg4 ?_
    refine mo_wd (k2 := k0 + 1) (n2 := n0 + 6) (by omega) (by omega) ?_
    exact next d2 hd2 _ _ _ _ _ _ hLI
