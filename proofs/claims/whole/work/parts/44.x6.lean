/-- what the class's object holds: the state g, the text T of n bytes, sv saved states S turned by s -/
def mo_CI (G : mo_G) (M : mo_M) (x : Nat) (g : Nat → Int) (n : Nat) (T : Nat → Int) (sv : Nat) (S : Nat → Nat → Int) (s : Nat) : Prop := mo_Ms G x ∧ mo_Sg G x s ∧ mo_SR M (x + 1) g ∧ M x 5 = sv ∧ (∀ i, i < sv → mo_SR M (x + 40 + 19 * ((i + s) % 4)) (S i)) ∧ M (x + 127) 5 = n ∧ ∀ j, j < n → M (x + 129) j = T j
/-- outside the class's own cells -/
abbrev mo_oz (x a : Nat) : Prop := a < x ∨ x + 137 < a
def mo_Sn (sv : Nat) (g : Nat → Int) (S : Nat → Nat → Int) : Nat → Nat → Int := fun i => if i = mo_svq sv then g else S (if sv = 4 then i + 1 else i)
theorem mo_CI_sv {G G' : mo_G} {M M' : mo_M} {x n sv s : Nat} {g T : Nat → Int} {S : Nat → Nat → Int} (h : mo_CI G M x g n T sv S s) (hq : mo_Sq G G' M M' x sv s g) (hsv : sv ≤ 4) : (∃ s', mo_CI G' M' x g n T (mo_svq sv + 1) (mo_Sn sv g S) s') ∧ (G'.1 = G.1 ∧ ∀ b, b ≠ x + 39 → G'.2 b = G.2 b) ∧ ∀ a, mo_oz x a → M' a = M a := by
  obtain ⟨c1, c2, c3, c4, c5, c6, c7⟩ := h
  obtain ⟨s', q1, q2, q3, q4, q5, q6, q7, q8⟩ := hq
  have hv : mo_svq sv < 4 := by unfold mo_svq; split <;> omega
  refine ⟨⟨s', q2, q3, mo_SR_fr c3 fun a a1 a2 => q8 a (by omega) (by omega), q5, fun i hi => ?_, by rw [q8 _ (by omega) (by omega)]; exact c6, fun j hj => by rw [q8 _ (by omega) (by omega)]; exact c7 j hj⟩, q4, fun a ha => q8 a (by omega) (by omega)⟩
  unfold mo_Sn
  by_cases e : i = mo_svq sv
  · rw [if_pos e, e]; exact q7
  · rw [if_neg e]
    have e2 : (i + s') % 4 = ((if sv = 4 then i + 1 else i) + s) % 4 := by
      by_cases c : sv = 4
      · rw [if_pos c] at q1 ⊢; rw [q1]; omega
      · rw [if_neg c] at q1 ⊢; rw [q1]
    have h9 := c5 (if sv = 4 then i + 1 else i) (by
      unfold mo_svq at hi e
      by_cases c : sv = 4
      · rw [if_pos c] at hi e
        rw [if_pos c]
        omega
      · rw [if_neg c] at hi e
        rw [if_neg c]
        omega)
    rw [← e2] at h9
    exact mo_SR_fr h9 fun a a1 a2 => q8 a (by omega) (by omega)
theorem mo_CI_up {G : mo_G} {M M' : mo_M} {x n sv s : Nat} {g g' T : Nat → Int} {S : Nat → Nat → Int} (h : mo_CI G M x g n T sv S s) (hS : mo_SR M' (x + 1) g') (hf : ∀ a, (a < x + 1 ∨ x + 38 < a) → (a < x + 116 ∨ x + 126 < a) → M' a = M a) : mo_CI G M' x g' n T sv S s := by
  obtain ⟨c1, c2, c3, c4, c5, c6, c7⟩ := h
  exact ⟨c1, c2, hS, by rw [hf _ (by omega) (by omega)]; exact c4, fun i hi => mo_SR_fr (c5 i hi) fun a a1 a2 => hf a (by omega) (by omega), by rw [hf _ (by omega) (by omega)]; exact c6, fun j hj => by rw [hf _ (by omega) (by omega)]; exact c7 j hj⟩
theorem mo_bh_congr {T T' : Nat → Int} {n : Nat} (h : ∀ j, j < n → T j = T' j) : mo_bh T n = mo_bh T' n := by
  funext p
  unfold mo_bh
  split
  · rename_i c; exact h p c
  · rfl
theorem mo_pt_c (b : Nat → Int) (p : Nat) : (mo_pt b p).2 ≤ p + 7 := by
  have h1 := mo_ne_b b (p + 2)
  have h2 := mo_nf_b b (p + 2)
  have h3 := mo_ne_b b (p + 1)
  have h4 := mo_nf_b b (p + 1)
  unfold mo_pt
  split
  · split
    · split
      · split
        · split <;> simp only <;> omega
        · simp only; omega
      · simp only; omega
    · simp only; omega
  · split
    · split <;> simp only <;> omega
    · split
      · split <;> simp only <;> omega
      · simp only; omega
theorem mo_oe_c (b : Nat → Int) (p : Nat) (h : p ≤ 900) : mo_oe b p ≤ 1000 := by
  have := mo_pt_c b p
  unfold mo_oe mo_oq
  split <;> split <;> omega
set_option maxHeartbeats 4000000 in
set_option maxRecDepth 100000 in
theorem ct4_carryOut {lf : Launch} {ρf : mo_E} {G : mo_G} {M : mo_M} {t : Nat} {x n sv s : Nat} {g T : Nat → Int} {S : Nat → Nat → Int} {B : Int} (hC : mo_CI G M x g n T sv S s) (hI : mo_Iv g B) (hB : B ≤ 700000000) (hn : n ≤ 100) (hsv : sv ≤ 4) (hr : ∀ j, j < n → 0 ≤ T j ∧ T j ≤ 127) : mo_Ct lf ρf yX4_carryOut cX4_carryOut 3 (some .int) 6 0 0 [.ref x] G M t (fun v G' M' t' => t' = t ∧ (G'.1 = G.1 ∧ ∀ b, b ≠ x + 39 → G'.2 b = G.2 b) ∧ (∀ a, mo_oz x a → M' a = M a) ∧ ∃ y, v = some (mo_iv y) ∧ ∃ k, mo_rd (mo_bh T n) n k ∧ ((mo_os (mo_bh T n) k < n ∧ mo_odf (mo_bh T n) (mo_os (mo_bh T n) k) = false ∧ y = -10 - (mo_oe (mo_bh T n) (mo_os (mo_bh T n) k) : Nat) ∧ mo_CI G' M' x g n T sv S s) ∨ (n ≤ mo_os (mo_bh T n) k ∧ y = (mo_run (mo_bh T n) n 51 0 g).1 ∧ ∃ s', mo_CI G' M' x (mo_run (mo_bh T n) n 51 0 g).2 n T (mo_svq sv + 1) (mo_Sn sv g S) s'))) := by
  refine mo_ofW (ls0 := [some (.ref x), none, none]) (by decide) rfl (Nat.le_of_ble_eq_true rfl) ?_
  intro κ X Y
  have X : mo_Cx κ lf ρf cX4_carryOut 3 RX4 (some .int) 6 := X
  obtain ⟨hx, hg, hS, h5, hSv, ht, hT⟩ := id hC
  have hr2 : ∀ j, j < n → 0 ≤ M (x + 127 + 2) j ∧ M (x + 127 + 2) j ≤ 127 := fun j hj => by rw [show x + 127 + 2 = x + 129 from rfl, hT j hj]; exact hr j hj
  have hbe : mo_bh (M (x + 127 + 2)) n = (mo_bh T n) := mo_bh_congr hT
  have hbn : ∀ q, (mo_bh T n) q ≠ -1 → q < n := fun q h => by
    unfold mo_bh at h
    split at h
    · assumption
    · omega
  have lp1 : ∀ (G1 : mo_G) (M1 : mo_M) (k s1 : Nat), mo_CI G1 M1 x g n T (mo_svq sv + 1) (mo_Sn sv g S) s1 → (G1.1 = G.1 ∧ ∀ b, b ≠ x + 39 → G1.2 b = G.2 b) → (∀ a, mo_oz x a → M1 a = M a) → mo_rd (mo_bh T n) n k → n ≤ mo_os (mo_bh T n) k → M1 (x + 127) 6 = k → (∀ i, i < k → mo_RV M1 (x + 127) i (mo_bh T n) (mo_os (mo_bh T n) i)) → ∀ (z i : Nat) (v e : Int) (M2 : mo_M) (g2 : Nat → Int), i + z = 51 → v = i → i ≤ k → mo_SR M2 (x + 1) g2 → mo_Iv g2 (B + 61 * i) → (∀ a, mo_ob x a → M2 a = M1 a) → mo_run (mo_bh T n) n z i g2 = mo_run (mo_bh T n) n 51 0 g → mo_V κ 0 0 24 [some (.ref x), some (mo_iv e), some (mo_iv v)] [] G1 M2 t := by
    intro G1 M1 k s1 hC1 hG1 hF1 hrd hk h6 hRV z
    have hx := hC1.1
    have hkb := mo_rd_b hbn hrd
    induction z with
    | zero =>
      intro i v e M2 g2 hi hv hik hS2 hI2 hM2 hrun
      exfalso
      omega
    | succ z ih =>
      intro i v e M2 g2 hi hv hik hS2 hI2 hM2 hrun
      subst hv
      have h62 : M2 (x + 127) 6 = k := by rw [hM2 _ (by omega)]; exact h6
      have hib := mo_rd_b hbn (k := i) (fun q hq => hrd q (by omega))
      refine mo_il2 (pc := 24) X dX4_carryOut_24 ?_
      refine mo_al0 (pc := 25) X dX4_carryOut_25 ?_
      refine mo_f_X4_33 (pc := 26) X dX4_carryOut_26 (mo_Ms_o hx) (mo_Ms_p4 hx) ?_
      refine mo_f_X4_286 (pc := 29) X dX4_carryOut_29 (mo_Tx_o (mo_Ms_r4 hx)) ?_
      rw [h62]
      refine mo_ic_ge (pc := 32) (tgt := 94) X dX4_carryOut_32 (by decide) ?_ ?_ (fun c_32 => ?_) (fun c_32 => ?_)
      · omega
      · omega
      · skip
        refine mo_al0 (pc := 94) X dX4_carryOut_94 ?_
        refine mo_f_X4_33 (pc := 95) X dX4_carryOut_95 (mo_Ms_o hx) (mo_Ms_p4 hx) ?_
        refine mo_f_X4_286 (pc := 98) X dX4_carryOut_98 (mo_Tx_o (mo_Ms_r4 hx)) ?_
        rw [h62]
        refine mo_iret (pc := 101) X Y rfl dX4_carryOut_101 ⟨rfl, hG1, fun a ha => by rw [hM2 a (by omega), hF1 a ha], _, rfl, k, hrd, Or.inr ⟨hk, ?_, ?_⟩⟩
        · obtain rfl : i = k := by omega
          rw [mo_run, if_neg (by omega)] at hrun
          rw [← hrun]
        · obtain rfl : i = k := by omega
          rw [mo_run, if_neg (by omega)] at hrun
          rw [← hrun]
          exact ⟨s1, mo_CI_up hC1 hS2 fun a a1 a2 => hM2 a (by omega)⟩
      · skip
        refine mo_al0 (pc := 35) X dX4_carryOut_35 ?_
        refine mo_al0 (pc := 36) X dX4_carryOut_36 ?_
        refine mo_f_X4_33 (pc := 37) X dX4_carryOut_37 (mo_Ms_o hx) (mo_Ms_p4 hx) ?_
        refine mo_f_X4_289 (pc := 40) X dX4_carryOut_40 (mo_Tx_o (mo_Ms_r4 hx)) (mo_Tx_p1 (mo_Ms_r4 hx)) ?_
        refine mo_il2 (pc := 43) X dX4_carryOut_43 ?_
        refine mo_cVI (pc := 44) (As := [_]) X mo_k_X4_97 mo_y_yX1_get rfl dX4_carryOut_44 (ct_get (a := x + 127 + 4) (j := i) (mo_Tx_r1 (mo_Ms_r4 hx)) rfl (by omega) (by omega) (by omega) (by omega)) (mo_Tx_r1 (mo_Ms_r4 hx)).1 rfl (by decide) (by decide) (Nat.le_of_ble_eq_true rfl) ?_
        rintro r_44 _ ⟨h_44, rfl⟩
        refine mo_al0 (pc := 47) X dX4_carryOut_47 ?_
        refine mo_f_X4_33 (pc := 48) X dX4_carryOut_48 (mo_Ms_o hx) (mo_Ms_p4 hx) ?_
        refine mo_f_X4_292 (pc := 51) X dX4_carryOut_51 (mo_Tx_o (mo_Ms_r4 hx)) (mo_Tx_p2 (mo_Ms_r4 hx)) ?_
        refine mo_il2 (pc := 54) X dX4_carryOut_54 ?_
        refine mo_cVI (pc := 55) (As := [_]) X mo_k_X4_97 mo_y_yX1_get rfl dX4_carryOut_55 (ct_get (a := x + 127 + 6) (j := i) (mo_Tx_r2 (mo_Ms_r4 hx)) rfl (by omega) (by omega) (by omega) (by omega)) (mo_Tx_r2 (mo_Ms_r4 hx)).1 rfl (by decide) (by decide) (Nat.le_of_ble_eq_true rfl) ?_
        rintro r_55 _ ⟨h_55, rfl⟩
        refine mo_al0 (pc := 58) X dX4_carryOut_58 ?_
        refine mo_f_X4_33 (pc := 59) X dX4_carryOut_59 (mo_Ms_o hx) (mo_Ms_p4 hx) ?_
        refine mo_f_X4_295 (pc := 62) X dX4_carryOut_62 (mo_Tx_o (mo_Ms_r4 hx)) (mo_Tx_p3 (mo_Ms_r4 hx)) ?_
        refine mo_il2 (pc := 65) X dX4_carryOut_65 ?_
        refine mo_cVI (pc := 66) (As := [_]) X mo_k_X4_97 mo_y_yX1_get rfl dX4_carryOut_66 (ct_get (a := x + 127 + 8) (j := i) (mo_Tx_r3 (mo_Ms_r4 hx)) rfl (by omega) (by omega) (by omega) (by omega)) (mo_Tx_r3 (mo_Ms_r4 hx)).1 rfl (by decide) (by decide) (Nat.le_of_ble_eq_true rfl) ?_
        rintro r_66 _ ⟨h_66, rfl⟩
        refine mo_al0 (pc := 69) X dX4_carryOut_69 ?_
        refine mo_f_X4_33 (pc := 70) X dX4_carryOut_70 (mo_Ms_o hx) (mo_Ms_p4 hx) ?_
        refine mo_f_X4_298 (pc := 73) X dX4_carryOut_73 (mo_Tx_o (mo_Ms_r4 hx)) (mo_Tx_p4 (mo_Ms_r4 hx)) ?_
        refine mo_il2 (pc := 76) X dX4_carryOut_76 ?_
        refine mo_cVI (pc := 77) (As := [_]) X mo_k_X4_97 mo_y_yX1_get rfl dX4_carryOut_77 (ct_get (a := x + 127 + 10) (j := i) (mo_Tx_r4 (mo_Ms_r4 hx)) rfl (by omega) (by omega) (by omega) (by omega)) (mo_Tx_r4 (mo_Ms_r4 hx)).1 rfl (by decide) (by decide) (Nat.le_of_ble_eq_true rfl) ?_
        rintro r_77 _ ⟨h_77, rfl⟩
        have hlt : i < k := by omega
        have hrv := mo_RV_fr (M' := M2) (hRV i hlt) (by rw [hM2 _ (by omega)]) (by rw [hM2 _ (by omega)]) (by rw [hM2 _ (by omega)]) (by rw [hM2 _ (by omega)])
        obtain ⟨r1, r2, r3, r4⟩ := hrv
        have hod := (hrd i hlt).2
        have hok : mo_okp (mo_bh T n) (mo_os (mo_bh T n) i) = true := by
          unfold mo_odf at hod
          rw [Bool.and_eq_true] at hod
          exact hod.1
        obtain ⟨v1, v2, v3, v4⟩ := mo_ok_v hok
        rw [r1] at h_44
        subst h_44
        refine mo_cVI (pc := 80) (As := [_, _, _, _]) X mo_k_X4_301 mo_y_yX4_carryOutOne rfl dX4_carryOut_80 (ct4_carryOutOne (k := (mo_bh T n) (mo_os (mo_bh T n) i)) (N := (mo_oN (mo_bh T n) (mo_os (mo_bh T n) i)).toNat) (W := (mo_oW (mo_bh T n) (mo_os (mo_bh T n) i)).toNat) (H := mo_oH (mo_bh T n) (mo_os (mo_bh T n) i)) hx hS2 hI2 (by omega) v1 (fun q => by rw [h_55, r2 q]; rcases q with q | q; { have := v2 q; omega }; { have := v3 q; omega }) (fun q => by rw [h_66, r3 q]; rcases q with q | q; { have := v2 q; omega }; { have := v4 q; omega }) (fun q => by rw [h_77, r4 q]) (fun q => by rcases q with q | q; { have := v2 q; omega }; { have := v3 q; omega }) (fun q => by rcases q with q | q; { have := v2 q; omega }; { have := v4 q; omega }) (fun q => by have := v2 q; omega)) (mo_Ms_o hx) rfl (by decide) (by decide) (Nat.le_of_ble_eq_true rfl) ?_
        rintro r_80 M_80 ⟨h_80, s_80, f_80⟩
        refine mo_if_ne (pc := 83) (tgt := 88) X dX4_carryOut_83 (by decide) ?_ (fun c_83 => ?_) (fun c_83 => ?_)
        · omega
        · skip
          refine mo_ii2 (pc := 88) X dX4_carryOut_88 rfl (by decide) ?_
          refine mo_goto (pc := 91) (tgt := 24) X dX4_carryOut_91 (by decide) ?_
          have e1 := mo_b1 h_80 c_83
          have e0 := hrun
          rw [mo_run, if_pos ⟨(hrd i (by omega)).1, e1⟩] at e0
          exact ih (i + 1) _ _ M_80 _ (by omega) (by omega) (by omega) s_80 (mo_Iv_mono (mo_dx_Iv hI2 (fun q => by have := v4 q; omega)) (by omega)) (fun a ha => by rw [f_80 a ha, hM2 a ha]) e0
        · skip
          refine mo_il2 (pc := 86) X dX4_carryOut_86 ?_
          refine mo_iret (pc := 87) X Y rfl dX4_carryOut_87 ⟨rfl, hG1, fun a ha => by rw [f_80 a (by omega), hM2 a (by omega), hF1 a ha], _, rfl, k, hrd, Or.inr ⟨hk, ?_, ?_⟩⟩
          · have e1 := mo_b0 h_80 c_83
            rw [mo_run, if_neg (fun q => e1 q.2)] at hrun
            rw [← hrun]
          · have e1 := mo_b0 h_80 c_83
            have e2 := mo_dx_no e1
            rw [mo_run, if_neg (fun q => e1 q.2)] at hrun
            rw [← hrun]
            rw [e2] at s_80
            exact ⟨s1, mo_CI_up hC1 s_80 fun a a1 a2 => by rw [f_80 a (by omega), hM2 a (by omega)]⟩
  refine mo_al0 (pc := 0) X dX4_carryOut_0 ?_
  refine mo_f_X4_33 (pc := 1) X dX4_carryOut_1 (mo_Ms_o hx) (mo_Ms_p4 hx) ?_
  refine mo_cVI (pc := 4) (As := []) X mo_k_X4_283 mo_y_yX0_readAll rfl dX4_carryOut_4 (ct0_readAll (n := n) (mo_Ms_r4 hx) hn ht hr2) (mo_Tx_o (mo_Ms_r4 hx)) rfl (by decide) (by decide) (Nat.le_of_ble_eq_true rfl) ?_
  rintro r_4 M_4 ⟨⟨k, hrd, hres⟩, t5, f_4⟩
  rw [hbe] at hrd hres
  have hC4 : mo_CI G M_4 x g n T sv S s := by
    refine ⟨hx, hg, mo_SR_fr hS fun a a1 a2 => f_4 a (by omega) (by omega) (by omega) (by omega) (by omega), by rw [f_4 _ (by omega) (by omega) (by omega) (by omega) (by omega)]; exact h5, fun i hi => mo_SR_fr (hSv i hi) fun a a1 a2 => f_4 a (by omega) (by omega) (by omega) (by omega) (by omega), t5, fun j hj => ?_⟩
    rw [f_4 _ (by omega) (by omega) (by omega) (by omega) (by omega)]
    exact hT j hj
  have hyr : -1 ≤ r_4 ∧ r_4 ≤ 1000 := by
    rcases hres with ⟨-, q, -⟩ | ⟨q1, q2, q3⟩
    · omega
    · have h9 := mo_rd_b hbn hrd
      have h8 : mo_oe (mo_bh T n) (mo_os (mo_bh T n) k) ≤ 1000 := mo_oe_c _ _ (by omega)
      omega
  refine mo_is1 (pc := 7) X dX4_carryOut_7 rfl (by decide) ?_
  refine mo_il1 (pc := 8) X dX4_carryOut_8 ?_
  refine mo_iconst (pc := 9) X dX4_carryOut_9 ?_
  refine mo_ic_eq (pc := 10) (tgt := 18) X dX4_carryOut_10 (by decide) ?_ ?_ (fun c_10 => ?_) (fun c_10 => ?_)
  · omega
  · omega
  · skip
    refine mo_al0 (pc := 18) X dX4_carryOut_18 ?_
    refine mo_callVr (pc := 19) (As := []) X mo_k_X4_63 mo_y_yX4_save rfl dX4_carryOut_19 (ct4_save (n := sv) (s := s) hx hg hsv (by rw [f_4 _ (by omega) (by omega) (by omega) (by omega) (by omega)]; exact h5) hC4.2.2.1 hI) (mo_Ms_o hx) rfl (by decide) (by decide) (Nat.le_of_ble_eq_true rfl) (mo_rm0 κ) ?_
    rintro v1 G1 M1 t1 ⟨rfl, rfl, hq⟩
    show mo_V κ 0 0 _ _ _ _ _ _
    have hCS := mo_CI_sv hC4 hq hsv
    obtain ⟨⟨s1, hC1⟩, hG1, hF1⟩ := hCS
    refine mo_iconst (pc := 22) X dX4_carryOut_22 ?_
    refine mo_is2 (pc := 23) X dX4_carryOut_23 rfl (by decide) ?_
    have q : n ≤ mo_os (mo_bh T n) k ∧ M_4 (x + 127) 6 = k ∧ ∀ i, i < k → mo_RV M_4 (x + 127) i (mo_bh T n) (mo_os (mo_bh T n) i) := by
      rcases hres with ⟨q1, q2, q3⟩ | ⟨q1, q2, q3⟩
      · exact ⟨q1, q3.1, q3.2⟩
      · exfalso; omega
    obtain ⟨s', w1, w2, w3, w4, w5, w6, w7, w8⟩ := hq
    have fr : ∀ o, x + 127 ≤ o → M1 o = M_4 o := fun o ho => w8 o (by omega) (by omega)
    exact lp1 G1 M1 k s1 hC1 hG1 (fun a ha => by rw [hF1 a ha, f_4 a (by omega) (by omega) (by omega) (by omega) (by omega)]) hrd q.1 (by rw [fr _ (by omega)]; exact q.2.1) (fun i hi => mo_RV_fr (q.2.2 i hi) (by rw [fr _ (by omega)]) (by rw [fr _ (by omega)]) (by rw [fr _ (by omega)]) (by rw [fr _ (by omega)])) 51 0 0 _ M1 g rfl rfl (by omega) hC1.2.2.1 (mo_Iv_mono hI (by omega)) (fun a ha => rfl) rfl
  · skip
    refine mo_bipush (pc := 13) X dX4_carryOut_13 (by decide) ?_
    refine mo_il1 (pc := 15) X dX4_carryOut_15 ?_
    refine mo_isub (pc := 16) X dX4_carryOut_16 ?_
    refine mo_iret (pc := 17) X Y rfl dX4_carryOut_17 ⟨rfl, ⟨rfl, fun b hb => rfl⟩, fun a ha => f_4 a (by omega) (by omega) (by omega) (by omega) (by omega), _, rfl, k, hrd, ?_⟩
    rcases hres with ⟨q1, q2, q3⟩ | ⟨q1, q2, q3⟩
    · exact absurd q2 c_10
    · exact Or.inl ⟨q1, q2, by rw [q3], hC4⟩
