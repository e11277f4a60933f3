theorem mo_St_f3 {G G' : mo_G} {h : Nat} (A : ∀ b, h ≤ b → b ≤ h + 18 → G'.1 b = G.1 b ∧ G'.2 b = G.2 b) (q : mo_St G h) : mo_St G' h := by
  unfold mo_St mo_Row at q ⊢
  simp only [Nat.add_assoc, Nat.reduceAdd] at q ⊢
  rw [(A h (by omega) (by omega)).1, (A h (by omega) (by omega)).2, (A (h + 1) (by omega) (by omega)).1, (A (h + 1) (by omega) (by omega)).2, (A (h + 2) (by omega) (by omega)).1, (A (h + 3) (by omega) (by omega)).1, (A (h + 3) (by omega) (by omega)).2, (A (h + 4) (by omega) (by omega)).1, (A (h + 5) (by omega) (by omega)).1, (A (h + 5) (by omega) (by omega)).2, (A (h + 6) (by omega) (by omega)).1, (A (h + 7) (by omega) (by omega)).1, (A (h + 7) (by omega) (by omega)).2, (A (h + 8) (by omega) (by omega)).1, (A (h + 9) (by omega) (by omega)).1, (A (h + 9) (by omega) (by omega)).2, (A (h + 10) (by omega) (by omega)).1, (A (h + 11) (by omega) (by omega)).1, (A (h + 11) (by omega) (by omega)).2, (A (h + 12) (by omega) (by omega)).1, (A (h + 13) (by omega) (by omega)).1, (A (h + 13) (by omega) (by omega)).2, (A (h + 14) (by omega) (by omega)).1, (A (h + 15) (by omega) (by omega)).1, (A (h + 15) (by omega) (by omega)).2, (A (h + 16) (by omega) (by omega)).1, (A (h + 17) (by omega) (by omega)).1, (A (h + 17) (by omega) (by omega)).2, (A (h + 18) (by omega) (by omega)).1]
  exact q
theorem mo_Bk_f3 {G G' : mo_G} {h : Nat} (A : ∀ b, h ≤ b → b ≤ h + 10 → G'.1 b = G.1 b ∧ G'.2 b = G.2 b) (q : mo_Bk G h) : mo_Bk G' h := by
  unfold mo_Bk mo_Row at q ⊢
  simp only [Nat.add_assoc, Nat.reduceAdd] at q ⊢
  rw [(A h (by omega) (by omega)).1, (A h (by omega) (by omega)).2, (A (h + 1) (by omega) (by omega)).1, (A (h + 1) (by omega) (by omega)).2, (A (h + 2) (by omega) (by omega)).1, (A (h + 3) (by omega) (by omega)).1, (A (h + 3) (by omega) (by omega)).2, (A (h + 4) (by omega) (by omega)).1, (A (h + 5) (by omega) (by omega)).1, (A (h + 5) (by omega) (by omega)).2, (A (h + 6) (by omega) (by omega)).1, (A (h + 7) (by omega) (by omega)).1, (A (h + 7) (by omega) (by omega)).2, (A (h + 8) (by omega) (by omega)).1, (A (h + 9) (by omega) (by omega)).1, (A (h + 9) (by omega) (by omega)).2, (A (h + 10) (by omega) (by omega)).1]
  exact q
theorem mo_Tx_f3 {G G' : mo_G} {h : Nat} (A : ∀ b, h ≤ b → b ≤ h + 10 → G'.1 b = G.1 b ∧ G'.2 b = G.2 b) (q : mo_Tx G h) : mo_Tx G' h := by
  unfold mo_Tx mo_Row at q ⊢
  simp only [Nat.add_assoc, Nat.reduceAdd] at q ⊢
  rw [(A h (by omega) (by omega)).1, (A h (by omega) (by omega)).2, (A (h + 1) (by omega) (by omega)).1, (A (h + 1) (by omega) (by omega)).2, (A (h + 2) (by omega) (by omega)).1, (A (h + 3) (by omega) (by omega)).1, (A (h + 3) (by omega) (by omega)).2, (A (h + 4) (by omega) (by omega)).1, (A (h + 5) (by omega) (by omega)).1, (A (h + 5) (by omega) (by omega)).2, (A (h + 6) (by omega) (by omega)).1, (A (h + 7) (by omega) (by omega)).1, (A (h + 7) (by omega) (by omega)).2, (A (h + 8) (by omega) (by omega)).1, (A (h + 9) (by omega) (by omega)).1, (A (h + 9) (by omega) (by omega)).2, (A (h + 10) (by omega) (by omega)).1]
  exact q
theorem mo_gq_ok {G : mo_G} {T h j n : Nat} (hT : h < T) : (∀ b, b < T → (mo_gp (mo_gnw G T (.inr (2, n))) h j (some T)).1 b = G.1 b) ∧ (∀ b, b < T → b ≠ h → (mo_gp (mo_gnw G T (.inr (2, n))) h j (some T)).2 b = G.2 b) ∧ (∀ i, i ≠ j → (mo_gp (mo_gnw G T (.inr (2, n))) h j (some T)).2 h i = G.2 h i) ∧ (mo_gp (mo_gnw G T (.inr (2, n))) h j (some T)).2 h j = some T ∧ (mo_gp (mo_gnw G T (.inr (2, n))) h j (some T)).1 T = some (.inr (2, n)) := by
  refine ⟨fun b hb => ?_, fun b hb hn => ?_, fun i hi => ?_, ?_, ?_⟩
  · rw [mo_gp_1, mo_gnw_1n (by omega)]
  · rw [mo_gp_n hn, mo_gnw_2n (by omega)]
  · rw [mo_gp_o hi, mo_gnw_2n (by omega)]
  · rw [mo_gp_s, mo_up_s]
  · rw [mo_gp_1, mo_gnw_1]
/-- an object with its rows made at T, then put into a place of h -/
theorem mo_gs_ok {G G2 : mo_G} {T h j ci : Nat} (hT : h < T) (A1 : ∀ b, b < T + 1 → G2.1 b = (mo_gnw G T (.inl ci)).1 b) (A2 : ∀ b, b < T + 1 → b ≠ T → G2.2 b = (mo_gnw G T (.inl ci)).2 b) : (∀ b, b < T → (mo_gp G2 h j (some T)).1 b = G.1 b) ∧ (∀ b, b < T → b ≠ h → (mo_gp G2 h j (some T)).2 b = G.2 b) ∧ (∀ i, i ≠ j → (mo_gp G2 h j (some T)).2 h i = G.2 h i) ∧ (mo_gp G2 h j (some T)).2 h j = some T := by
  refine ⟨fun b hb => ?_, fun b hb hn => ?_, fun i hi => ?_, ?_⟩
  · rw [mo_gp_1, A1 b (by omega), mo_gnw_1n (by omega)]
  · rw [mo_gp_n hn, A2 b (by omega) (by omega), mo_gnw_2n (by omega)]
  · rw [mo_gp_o hi, A2 h (by omega) (by omega), mo_gnw_2n (by omega)]
  · rw [mo_gp_s, mo_up_s]
theorem mo_ms_ok {M M2 : mo_M} {T z : Nat} (B1 : ∀ b, b < T + 1 → M2 b = mo_ur M T (fun _ => 0) b) (B2 : ∀ b, T + 1 ≤ b → b < T + 1 + z → M2 b = fun _ => 0) : (∀ b, b < T → M2 b = M b) ∧ ∀ b, T ≤ b → b < T + (z + 1) → M2 b = fun _ => 0 := by
  refine ⟨fun b hb => by rw [B1 b (by omega), mo_ur_n (by omega)], fun b h1 h2 => ?_⟩
  by_cases c : b = T
  · rw [B1 b (by omega), c, mo_ur_s]
  · exact B2 b (by omega) (by omega)
set_option maxHeartbeats 4000000 in
set_option maxRecDepth 100000 in
theorem ctX4_init {lf : Launch} {ρf : mo_E} {G : mo_G} {M : mo_M} {t : Nat} {x : Nat} (hh : t = x + 1) (hG : G.1 x = some (.inl 4)) : mo_CtN lf ρf yX4_init cX4_init 2 none 3 137 4404 [.ref x] G M t (fun v G' M' t' => v = none ∧ t' = t + 137 ∧ (∀ b, b < t → G'.1 b = G.1 b) ∧ (∀ b, b < t → b ≠ x → G'.2 b = G.2 b) ∧ (∀ b, b < t → b ≠ x → M' b = M b) ∧ M' x 5 = 0 ∧ (∀ b, t ≤ b → b < t + 137 → M' b = fun _ => 0) ∧ mo_Ms G' x ∧ mo_Sg G' x 0) := by
  refine mo_ofWN (ls0 := [some (.ref x), none]) (by decide) rfl (Nat.le_of_ble_eq_true rfl) ?_
  intro κ X Y Hn H3
  have X : mo_Cx κ lf ρf cX4_init 2 RX4 none 3 := X
  have Hn : mo_nR κ "<init>" (mo_rm 3 137 4404) := Hn
  subst hh
  refine mo_al0 (pc := 0) X dX4_init_0 ?_
  refine mo_objI (pc := 1) X mo_wm_X4_3 dX4_init_1 (by decide) (by decide) ?_
  have o : G.1 x = some (.inl 4) := hG
  have f1 : ∀ b, b < x + 1 → G.1 b = G.1 b := fun b hb => rfl
  have f2 : ∀ b, b < x + 1 → b ≠ x → G.2 b = G.2 b := fun b hb hn => rfl
  have f3 : ∀ b, b < x + 1 → M b = M b := fun b hb => rfl
  have f4 : ∀ b, x + 1 ≤ b → b < x + 1 → M b = fun _ => 0 := fun b h1 h2 => by omega
  refine mo_al0 (pc := 4) X dX4_init_4 ?_
  refine mo_new (pc := 5) X mo_in_X2 tyX2_ok (ci := 2) rfl mo_wq_X4_9 mo_wn_X2 mo_wz_X2 rfl (by decide) (mo_nRm Hn (Nat.le_of_ble_eq_true rfl) (Nat.le_of_ble_eq_true rfl)) dX4_init_5 ?_
  refine mo_dup (pc := 8) X dX4_init_8 rfl ?_
  refine mo_callIN (pc := 9) (As := []) X H3.1 mo_wc_yX2_init mo_wz_X2 mo_wi_yX2_init rfl (by decide) dX4_init_9 (ctX2_init (h := x + 1) rfl (mo_gnw_1 _ _ _)) rfl (by decide) (by decide) (Nat.le_of_ble_eq_true rfl) (mo_nRm Hn (Nat.le_of_ble_eq_true rfl) (Nat.le_of_ble_eq_true rfl)) ?_
  rintro v_5 Ga Ma t_5 ⟨rfl, rfl, a1, a2, b1, b2, hs⟩
  have oo : Ga.1 x = some (.inl 4) := by rw [a1 x (by omega), mo_gnw_1n (by omega)]; exact o
  refine mo_pRF (pc := 12) X Hn (ci := 4) (j := 0) rfl mo_in_X4 (by decide) (by decide) mo_wf_X4_12 rfl dX4_init_12 oo tyX4_ok nmX4 rfl rfl (tyX4_ok 0 (by decide)) rfl rfl ?_
  show mo_V κ 19 651 15 [some (.ref x), none] [] (mo_gp Ga x 0 (some (x + 1))) Ma (x + 1 + 19)
  obtain ⟨A1, A2, A3, A4⟩ := mo_gs_ok (h := x) (j := 0) (by omega) a1 a2
  obtain ⟨B1, B2⟩ := mo_ms_ok b1 b2
  have hs : mo_St (mo_gp Ga x 0 (some (x + 1))) (x + 1) := mo_St_f3 (G := Ga) (fun b h1 h2 => ⟨rfl, mo_gp_n (by omega)⟩) hs
  clear a1 a2 b1 b2 oo
  generalize mo_gp Ga x 0 (some (x + 1)) = G1 at A1 A2 A3 A4 hs ⊢
  obtain ⟨M1, rfl⟩ : ∃ q, q = Ma := ⟨_, rfl⟩
  have o : G1.1 x = some (.inl 4) := (A1 x (by omega)).trans o
  have p0 := A4
  have f2 : ∀ b, b < x + 1 → b ≠ x → G1.2 b = G.2 b := fun b hb hn => (A2 b (by omega) hn).trans (f2 b hb hn)
  have s1 := hs
  have f1 : ∀ b, b < x + 1 → G1.1 b = G.1 b := fun b hb => (A1 b (by omega)).trans (f1 b hb)
  have f3 : ∀ b, b < x + 1 → M1 b = M b := fun b hb => (B1 b (by omega)).trans (f3 b hb)
  have f4 : ∀ b, x + 1 ≤ b → b < x + 1 + 19 → M1 b = fun _ => 0 := fun b h1 h2 => by
    by_cases c : b < x + 1
    · rw [B1 b c]; exact f4 b h1 (by omega)
    · exact B2 b (by omega) (by omega)
  clear A1 A2 A3 A4 B1 B2 hs
  refine mo_al0 (pc := 15) X dX4_init_15 ?_
  refine mo_new (pc := 16) X mo_in_X2 tyX2_ok (ci := 2) rfl mo_wq_X4_9 mo_wn_X2 mo_wz_X2 rfl (by decide) (mo_nRm Hn (Nat.le_of_ble_eq_true rfl) (Nat.le_of_ble_eq_true rfl)) dX4_init_16 ?_
  refine mo_dup (pc := 19) X dX4_init_19 rfl ?_
  refine mo_callIN (pc := 20) (As := []) X H3.1 mo_wc_yX2_init mo_wz_X2 mo_wi_yX2_init rfl (by decide) dX4_init_20 (ctX2_init (h := x + 20) rfl (mo_gnw_1 _ _ _)) rfl (by decide) (by decide) (Nat.le_of_ble_eq_true rfl) (mo_nRm Hn (Nat.le_of_ble_eq_true rfl) (Nat.le_of_ble_eq_true rfl)) ?_
  rintro v_16 Ga Ma t_16 ⟨rfl, rfl, a1, a2, b1, b2, hs⟩
  have oo : Ga.1 x = some (.inl 4) := by rw [a1 x (by omega), mo_gnw_1n (by omega)]; exact o
  refine mo_pRF (pc := 23) X Hn (ci := 4) (j := 1) rfl mo_in_X4 (by decide) (by decide) mo_wf_X4_16 rfl dX4_init_23 oo tyX4_ok nmX4 rfl rfl (tyX4_ok 1 (by decide)) rfl rfl ?_
  show mo_V κ 38 1302 26 [some (.ref x), none] [] (mo_gp Ga x 1 (some (x + 20))) Ma (x + 20 + 19)
  obtain ⟨A1, A2, A3, A4⟩ := mo_gs_ok (h := x) (j := 1) (by omega) a1 a2
  obtain ⟨B1, B2⟩ := mo_ms_ok b1 b2
  have hs : mo_St (mo_gp Ga x 1 (some (x + 20))) (x + 20) := mo_St_f3 (G := Ga) (fun b h1 h2 => ⟨rfl, mo_gp_n (by omega)⟩) hs
  clear a1 a2 b1 b2 oo
  generalize mo_gp Ga x 1 (some (x + 20)) = G2 at A1 A2 A3 A4 hs ⊢
  obtain ⟨M2, rfl⟩ : ∃ q, q = Ma := ⟨_, rfl⟩
  have o : G2.1 x = some (.inl 4) := (A1 x (by omega)).trans o
  have p0 := (A3 0 (by decide)).trans p0
  have p1 := A4
  have s1 := mo_St_f3 (fun b h1 h2 => ⟨A1 b (by omega), A2 b (by omega) (by omega)⟩) s1
  have f2 : ∀ b, b < x + 1 → b ≠ x → G2.2 b = G.2 b := fun b hb hn => (A2 b (by omega) hn).trans (f2 b hb hn)
  have s20 := hs
  have f1 : ∀ b, b < x + 1 → G2.1 b = G.1 b := fun b hb => (A1 b (by omega)).trans (f1 b hb)
  have f3 : ∀ b, b < x + 1 → M2 b = M b := fun b hb => (B1 b (by omega)).trans (f3 b hb)
  have f4 : ∀ b, x + 1 ≤ b → b < x + 20 + 19 → M2 b = fun _ => 0 := fun b h1 h2 => by
    by_cases c : b < x + 20
    · rw [B1 b c]; exact f4 b h1 (by omega)
    · exact B2 b (by omega) (by omega)
  clear A1 A2 A3 A4 B1 B2 hs
  refine mo_al0 (pc := 26) X dX4_init_26 ?_
  refine mo_iconst (pc := 27) X dX4_init_27 ?_
  refine mo_newQ (pc := 28) (N := 4) X H3 mo_wq_X4_9 (by decide) (mo_nRm Hn (Nat.le_of_ble_eq_true rfl) (Nat.le_of_ble_eq_true rfl)) dX4_init_28 ?_
  have oo : (mo_gnw G2 (x + 39) (.inr (2, 4))).1 x = some (.inl 4) := by rw [mo_gnw_1n (by omega)]; exact o
  refine mo_pRF (pc := 31) X Hn (ci := 4) (j := 2) rfl mo_in_X4 (by decide) (by decide) mo_wf_X4_19 rfl dX4_init_31 oo tyX4_ok nmX4 rfl rfl (tyX4_ok 2 (by decide)) rfl rfl ?_
  show mo_V κ 39 1306 34 [some (.ref x), none] [] (mo_gp (mo_gnw G2 (x + 39) (.inr (2, 4))) x 2 (some (x + 39))) (mo_ur M2 (x + 39) (fun _ => 0)) (x + 39 + 1)
  obtain ⟨A1, A2, A3, A4, A5⟩ := mo_gq_ok (G := G2) (T := x + 39) (h := x) (j := 2) (n := 4) (by omega)
  obtain ⟨B1, B2⟩ := mo_uz_ok (M := M2) (T := x + 39)
  clear oo
  generalize mo_gp (mo_gnw G2 (x + 39) (.inr (2, 4))) x 2 (some (x + 39)) = G3 at A1 A2 A3 A4 A5 ⊢
  generalize mo_ur M2 (x + 39) (fun _ => 0) = M3 at B1 B2 ⊢
  have o : G3.1 x = some (.inl 4) := (A1 x (by omega)).trans o
  have p0 := (A3 0 (by decide)).trans p0
  have p1 := (A3 1 (by decide)).trans p1
  have p2 := A4
  have q := A5
  have s1 := mo_St_f3 (fun b h1 h2 => ⟨A1 b (by omega), A2 b (by omega) (by omega)⟩) s1
  have s20 := mo_St_f3 (fun b h1 h2 => ⟨A1 b (by omega), A2 b (by omega) (by omega)⟩) s20
  have f2 : ∀ b, b < x + 1 → b ≠ x → G3.2 b = G.2 b := fun b hb hn => (A2 b (by omega) hn).trans (f2 b hb hn)
  have f1 : ∀ b, b < x + 1 → G3.1 b = G.1 b := fun b hb => (A1 b (by omega)).trans (f1 b hb)
  have f3 : ∀ b, b < x + 1 → M3 b = M b := fun b hb => (B1 b (by omega)).trans (f3 b hb)
  have f4 : ∀ b, x + 1 ≤ b → b < x + 39 + 1 → M3 b = fun _ => 0 := fun b h1 h2 => by
    by_cases c : b < x + 39
    · rw [B1 b c]; exact f4 b h1 (by omega)
    · exact B2 b (by omega) (by omega)
  clear A1 A2 A3 A4 A5 B1 B2
  refine mo_iconst (pc := 34) X dX4_init_34 ?_
  refine mo_is1 (pc := 35) X dX4_init_35 rfl (by decide) ?_
  show mo_V κ 39 1306 36 [some (.ref x), some (mo_iv 0)] [] G3 M3 _
  refine mo_il1 (pc := 36) X dX4_init_36 ?_
  refine mo_al0 (pc := 37) X dX4_init_37 ?_
  refine mo_f_X4_19 (pc := 38) X dX4_init_38 o p2 ?_
  refine mo_alenQ (pc := 41) X dX4_init_41 q ?_
  refine mo_ic_ge (pc := 42) (tgt := 64) X dX4_init_42 (by decide) (by omega) (by omega) (fun c_42 => by exfalso; omega) (fun c_42 => ?_)
  refine mo_al0 (pc := 45) X dX4_init_45 ?_
  refine mo_f_X4_19 (pc := 46) X dX4_init_46 o p2 ?_
  refine mo_il1 (pc := 49) X dX4_init_49 ?_
  refine mo_new (pc := 50) X mo_in_X2 tyX2_ok (ci := 2) rfl mo_wq_X4_9 mo_wn_X2 mo_wz_X2 rfl (by decide) (mo_nRm Hn (Nat.le_of_ble_eq_true rfl) (Nat.le_of_ble_eq_true rfl)) dX4_init_50 ?_
  refine mo_dup (pc := 53) X dX4_init_53 rfl ?_
  refine mo_callIN (pc := 54) (As := []) X H3.1 mo_wc_yX2_init mo_wz_X2 mo_wi_yX2_init rfl (by decide) dX4_init_54 (ctX2_init (h := x + 40) rfl (mo_gnw_1 _ _ _)) rfl (by decide) (by decide) (Nat.le_of_ble_eq_true rfl) (mo_nRm Hn (Nat.le_of_ble_eq_true rfl) (Nat.le_of_ble_eq_true rfl)) ?_
  rintro v_50 Ga Ma t_50 ⟨rfl, rfl, a1, a2, b1, b2, hs⟩
  have qq : Ga.1 (x + 39) = some (.inr (2, 4)) := by rw [a1 _ (by omega), mo_gnw_1n (by omega)]; exact q
  refine mo_aast (pc := 57) X dX4_init_57 qq (mo_St_o hs) (by decide) (by omega) (by omega) ?_
  show mo_V κ 58 1957 58 [some (.ref x), some (mo_iv 0)] [] (mo_gp Ga (x + 39) 0 (some (x + 40))) Ma (x + 40 + 19)
  obtain ⟨A1, A2, A3, A4⟩ := mo_gs_ok (h := x + 39) (j := 0) (by omega) a1 a2
  obtain ⟨B1, B2⟩ := mo_ms_ok b1 b2
  have hs : mo_St (mo_gp Ga (x + 39) 0 (some (x + 40))) (x + 40) := mo_St_f3 (G := Ga) (fun b h1 h2 => ⟨rfl, mo_gp_n (by omega)⟩) hs
  clear a1 a2 b1 b2 qq
  generalize mo_gp Ga (x + 39) 0 (some (x + 40)) = G4 at A1 A2 A3 A4 hs ⊢
  obtain ⟨M4, rfl⟩ : ∃ q, q = Ma := ⟨_, rfl⟩
  have o : G4.1 x = some (.inl 4) := (A1 x (by omega)).trans o
  have p0 := (congrFun (A2 x (by omega) (by omega)) 0).trans p0
  have p1 := (congrFun (A2 x (by omega) (by omega)) 1).trans p1
  have p2 := (congrFun (A2 x (by omega) (by omega)) 2).trans p2
  have s1 := mo_St_f3 (fun b h1 h2 => ⟨A1 b (by omega), A2 b (by omega) (by omega)⟩) s1
  have s20 := mo_St_f3 (fun b h1 h2 => ⟨A1 b (by omega), A2 b (by omega) (by omega)⟩) s20
  have q := (A1 _ (by omega)).trans q
  have g0 := A4
  have f2 : ∀ b, b < x + 1 → b ≠ x → G4.2 b = G.2 b := fun b hb hn => (A2 b (by omega) (by omega)).trans (f2 b hb hn)
  have s40 := hs
  have f1 : ∀ b, b < x + 1 → G4.1 b = G.1 b := fun b hb => (A1 b (by omega)).trans (f1 b hb)
  have f3 : ∀ b, b < x + 1 → M4 b = M b := fun b hb => (B1 b (by omega)).trans (f3 b hb)
  have f4 : ∀ b, x + 1 ≤ b → b < x + 40 + 19 → M4 b = fun _ => 0 := fun b h1 h2 => by
    by_cases c : b < x + 40
    · rw [B1 b c]; exact f4 b h1 (by omega)
    · exact B2 b (by omega) (by omega)
  clear A1 A2 A3 A4 B1 B2 hs
  refine mo_ii1 (pc := 58) X dX4_init_58 rfl (by decide) ?_
  refine mo_goto (pc := 61) (tgt := 36) X dX4_init_61 (by decide) ?_
  show mo_V κ 58 1957 36 [some (.ref x), some (mo_iv 1)] [] G4 M4 _
  refine mo_il1 (pc := 36) X dX4_init_36 ?_
  refine mo_al0 (pc := 37) X dX4_init_37 ?_
  refine mo_f_X4_19 (pc := 38) X dX4_init_38 o p2 ?_
  refine mo_alenQ (pc := 41) X dX4_init_41 q ?_
  refine mo_ic_ge (pc := 42) (tgt := 64) X dX4_init_42 (by decide) (by omega) (by omega) (fun c_42 => by exfalso; omega) (fun c_42 => ?_)
  refine mo_al0 (pc := 45) X dX4_init_45 ?_
  refine mo_f_X4_19 (pc := 46) X dX4_init_46 o p2 ?_
  refine mo_il1 (pc := 49) X dX4_init_49 ?_
  refine mo_new (pc := 50) X mo_in_X2 tyX2_ok (ci := 2) rfl mo_wq_X4_9 mo_wn_X2 mo_wz_X2 rfl (by decide) (mo_nRm Hn (Nat.le_of_ble_eq_true rfl) (Nat.le_of_ble_eq_true rfl)) dX4_init_50 ?_
  refine mo_dup (pc := 53) X dX4_init_53 rfl ?_
  refine mo_callIN (pc := 54) (As := []) X H3.1 mo_wc_yX2_init mo_wz_X2 mo_wi_yX2_init rfl (by decide) dX4_init_54 (ctX2_init (h := x + 59) rfl (mo_gnw_1 _ _ _)) rfl (by decide) (by decide) (Nat.le_of_ble_eq_true rfl) (mo_nRm Hn (Nat.le_of_ble_eq_true rfl) (Nat.le_of_ble_eq_true rfl)) ?_
  rintro v_50 Ga Ma t_50 ⟨rfl, rfl, a1, a2, b1, b2, hs⟩
  have qq : Ga.1 (x + 39) = some (.inr (2, 4)) := by rw [a1 _ (by omega), mo_gnw_1n (by omega)]; exact q
  refine mo_aast (pc := 57) X dX4_init_57 qq (mo_St_o hs) (by decide) (by omega) (by omega) ?_
  show mo_V κ 77 2608 58 [some (.ref x), some (mo_iv 1)] [] (mo_gp Ga (x + 39) 1 (some (x + 59))) Ma (x + 59 + 19)
  obtain ⟨A1, A2, A3, A4⟩ := mo_gs_ok (h := x + 39) (j := 1) (by omega) a1 a2
  obtain ⟨B1, B2⟩ := mo_ms_ok b1 b2
  have hs : mo_St (mo_gp Ga (x + 39) 1 (some (x + 59))) (x + 59) := mo_St_f3 (G := Ga) (fun b h1 h2 => ⟨rfl, mo_gp_n (by omega)⟩) hs
  clear a1 a2 b1 b2 qq
  generalize mo_gp Ga (x + 39) 1 (some (x + 59)) = G5 at A1 A2 A3 A4 hs ⊢
  obtain ⟨M5, rfl⟩ : ∃ q, q = Ma := ⟨_, rfl⟩
  have o : G5.1 x = some (.inl 4) := (A1 x (by omega)).trans o
  have p0 := (congrFun (A2 x (by omega) (by omega)) 0).trans p0
  have p1 := (congrFun (A2 x (by omega) (by omega)) 1).trans p1
  have p2 := (congrFun (A2 x (by omega) (by omega)) 2).trans p2
  have s1 := mo_St_f3 (fun b h1 h2 => ⟨A1 b (by omega), A2 b (by omega) (by omega)⟩) s1
  have s20 := mo_St_f3 (fun b h1 h2 => ⟨A1 b (by omega), A2 b (by omega) (by omega)⟩) s20
  have s40 := mo_St_f3 (fun b h1 h2 => ⟨A1 b (by omega), A2 b (by omega) (by omega)⟩) s40
  have q := (A1 _ (by omega)).trans q
  have g0 := (A3 0 (by decide)).trans g0
  have g1 := A4
  have f2 : ∀ b, b < x + 1 → b ≠ x → G5.2 b = G.2 b := fun b hb hn => (A2 b (by omega) (by omega)).trans (f2 b hb hn)
  have s59 := hs
  have f1 : ∀ b, b < x + 1 → G5.1 b = G.1 b := fun b hb => (A1 b (by omega)).trans (f1 b hb)
  have f3 : ∀ b, b < x + 1 → M5 b = M b := fun b hb => (B1 b (by omega)).trans (f3 b hb)
  have f4 : ∀ b, x + 1 ≤ b → b < x + 59 + 19 → M5 b = fun _ => 0 := fun b h1 h2 => by
    by_cases c : b < x + 59
    · rw [B1 b c]; exact f4 b h1 (by omega)
    · exact B2 b (by omega) (by omega)
  clear A1 A2 A3 A4 B1 B2 hs
  refine mo_ii1 (pc := 58) X dX4_init_58 rfl (by decide) ?_
  refine mo_goto (pc := 61) (tgt := 36) X dX4_init_61 (by decide) ?_
  show mo_V κ 77 2608 36 [some (.ref x), some (mo_iv 2)] [] G5 M5 _
  refine mo_il1 (pc := 36) X dX4_init_36 ?_
  refine mo_al0 (pc := 37) X dX4_init_37 ?_
  refine mo_f_X4_19 (pc := 38) X dX4_init_38 o p2 ?_
  refine mo_alenQ (pc := 41) X dX4_init_41 q ?_
  refine mo_ic_ge (pc := 42) (tgt := 64) X dX4_init_42 (by decide) (by omega) (by omega) (fun c_42 => by exfalso; omega) (fun c_42 => ?_)
  refine mo_al0 (pc := 45) X dX4_init_45 ?_
  refine mo_f_X4_19 (pc := 46) X dX4_init_46 o p2 ?_
  refine mo_il1 (pc := 49) X dX4_init_49 ?_
  refine mo_new (pc := 50) X mo_in_X2 tyX2_ok (ci := 2) rfl mo_wq_X4_9 mo_wn_X2 mo_wz_X2 rfl (by decide) (mo_nRm Hn (Nat.le_of_ble_eq_true rfl) (Nat.le_of_ble_eq_true rfl)) dX4_init_50 ?_
  refine mo_dup (pc := 53) X dX4_init_53 rfl ?_
  refine mo_callIN (pc := 54) (As := []) X H3.1 mo_wc_yX2_init mo_wz_X2 mo_wi_yX2_init rfl (by decide) dX4_init_54 (ctX2_init (h := x + 78) rfl (mo_gnw_1 _ _ _)) rfl (by decide) (by decide) (Nat.le_of_ble_eq_true rfl) (mo_nRm Hn (Nat.le_of_ble_eq_true rfl) (Nat.le_of_ble_eq_true rfl)) ?_
  rintro v_50 Ga Ma t_50 ⟨rfl, rfl, a1, a2, b1, b2, hs⟩
  have qq : Ga.1 (x + 39) = some (.inr (2, 4)) := by rw [a1 _ (by omega), mo_gnw_1n (by omega)]; exact q
  refine mo_aast (pc := 57) X dX4_init_57 qq (mo_St_o hs) (by decide) (by omega) (by omega) ?_
  show mo_V κ 96 3259 58 [some (.ref x), some (mo_iv 2)] [] (mo_gp Ga (x + 39) 2 (some (x + 78))) Ma (x + 78 + 19)
  obtain ⟨A1, A2, A3, A4⟩ := mo_gs_ok (h := x + 39) (j := 2) (by omega) a1 a2
  obtain ⟨B1, B2⟩ := mo_ms_ok b1 b2
  have hs : mo_St (mo_gp Ga (x + 39) 2 (some (x + 78))) (x + 78) := mo_St_f3 (G := Ga) (fun b h1 h2 => ⟨rfl, mo_gp_n (by omega)⟩) hs
  clear a1 a2 b1 b2 qq
  generalize mo_gp Ga (x + 39) 2 (some (x + 78)) = G6 at A1 A2 A3 A4 hs ⊢
  obtain ⟨M6, rfl⟩ : ∃ q, q = Ma := ⟨_, rfl⟩
  have o : G6.1 x = some (.inl 4) := (A1 x (by omega)).trans o
  have p0 := (congrFun (A2 x (by omega) (by omega)) 0).trans p0
  have p1 := (congrFun (A2 x (by omega) (by omega)) 1).trans p1
  have p2 := (congrFun (A2 x (by omega) (by omega)) 2).trans p2
  have s1 := mo_St_f3 (fun b h1 h2 => ⟨A1 b (by omega), A2 b (by omega) (by omega)⟩) s1
  have s20 := mo_St_f3 (fun b h1 h2 => ⟨A1 b (by omega), A2 b (by omega) (by omega)⟩) s20
  have s40 := mo_St_f3 (fun b h1 h2 => ⟨A1 b (by omega), A2 b (by omega) (by omega)⟩) s40
  have s59 := mo_St_f3 (fun b h1 h2 => ⟨A1 b (by omega), A2 b (by omega) (by omega)⟩) s59
  have q := (A1 _ (by omega)).trans q
  have g0 := (A3 0 (by decide)).trans g0
  have g1 := (A3 1 (by decide)).trans g1
  have g2 := A4
  have f2 : ∀ b, b < x + 1 → b ≠ x → G6.2 b = G.2 b := fun b hb hn => (A2 b (by omega) (by omega)).trans (f2 b hb hn)
  have s78 := hs
  have f1 : ∀ b, b < x + 1 → G6.1 b = G.1 b := fun b hb => (A1 b (by omega)).trans (f1 b hb)
  have f3 : ∀ b, b < x + 1 → M6 b = M b := fun b hb => (B1 b (by omega)).trans (f3 b hb)
  have f4 : ∀ b, x + 1 ≤ b → b < x + 78 + 19 → M6 b = fun _ => 0 := fun b h1 h2 => by
    by_cases c : b < x + 78
    · rw [B1 b c]; exact f4 b h1 (by omega)
    · exact B2 b (by omega) (by omega)
  clear A1 A2 A3 A4 B1 B2 hs
  refine mo_ii1 (pc := 58) X dX4_init_58 rfl (by decide) ?_
  refine mo_goto (pc := 61) (tgt := 36) X dX4_init_61 (by decide) ?_
  show mo_V κ 96 3259 36 [some (.ref x), some (mo_iv 3)] [] G6 M6 _
  refine mo_il1 (pc := 36) X dX4_init_36 ?_
  refine mo_al0 (pc := 37) X dX4_init_37 ?_
  refine mo_f_X4_19 (pc := 38) X dX4_init_38 o p2 ?_
  refine mo_alenQ (pc := 41) X dX4_init_41 q ?_
  refine mo_ic_ge (pc := 42) (tgt := 64) X dX4_init_42 (by decide) (by omega) (by omega) (fun c_42 => by exfalso; omega) (fun c_42 => ?_)
  refine mo_al0 (pc := 45) X dX4_init_45 ?_
  refine mo_f_X4_19 (pc := 46) X dX4_init_46 o p2 ?_
  refine mo_il1 (pc := 49) X dX4_init_49 ?_
  refine mo_new (pc := 50) X mo_in_X2 tyX2_ok (ci := 2) rfl mo_wq_X4_9 mo_wn_X2 mo_wz_X2 rfl (by decide) (mo_nRm Hn (Nat.le_of_ble_eq_true rfl) (Nat.le_of_ble_eq_true rfl)) dX4_init_50 ?_
  refine mo_dup (pc := 53) X dX4_init_53 rfl ?_
  refine mo_callIN (pc := 54) (As := []) X H3.1 mo_wc_yX2_init mo_wz_X2 mo_wi_yX2_init rfl (by decide) dX4_init_54 (ctX2_init (h := x + 97) rfl (mo_gnw_1 _ _ _)) rfl (by decide) (by decide) (Nat.le_of_ble_eq_true rfl) (mo_nRm Hn (Nat.le_of_ble_eq_true rfl) (Nat.le_of_ble_eq_true rfl)) ?_
  rintro v_50 Ga Ma t_50 ⟨rfl, rfl, a1, a2, b1, b2, hs⟩
  have qq : Ga.1 (x + 39) = some (.inr (2, 4)) := by rw [a1 _ (by omega), mo_gnw_1n (by omega)]; exact q
  refine mo_aast (pc := 57) X dX4_init_57 qq (mo_St_o hs) (by decide) (by omega) (by omega) ?_
  show mo_V κ 115 3910 58 [some (.ref x), some (mo_iv 3)] [] (mo_gp Ga (x + 39) 3 (some (x + 97))) Ma (x + 97 + 19)
  obtain ⟨A1, A2, A3, A4⟩ := mo_gs_ok (h := x + 39) (j := 3) (by omega) a1 a2
  obtain ⟨B1, B2⟩ := mo_ms_ok b1 b2
  have hs : mo_St (mo_gp Ga (x + 39) 3 (some (x + 97))) (x + 97) := mo_St_f3 (G := Ga) (fun b h1 h2 => ⟨rfl, mo_gp_n (by omega)⟩) hs
  clear a1 a2 b1 b2 qq
  generalize mo_gp Ga (x + 39) 3 (some (x + 97)) = G7 at A1 A2 A3 A4 hs ⊢
  obtain ⟨M7, rfl⟩ : ∃ q, q = Ma := ⟨_, rfl⟩
  have o : G7.1 x = some (.inl 4) := (A1 x (by omega)).trans o
  have p0 := (congrFun (A2 x (by omega) (by omega)) 0).trans p0
  have p1 := (congrFun (A2 x (by omega) (by omega)) 1).trans p1
  have p2 := (congrFun (A2 x (by omega) (by omega)) 2).trans p2
  have s1 := mo_St_f3 (fun b h1 h2 => ⟨A1 b (by omega), A2 b (by omega) (by omega)⟩) s1
  have s20 := mo_St_f3 (fun b h1 h2 => ⟨A1 b (by omega), A2 b (by omega) (by omega)⟩) s20
  have s40 := mo_St_f3 (fun b h1 h2 => ⟨A1 b (by omega), A2 b (by omega) (by omega)⟩) s40
  have s59 := mo_St_f3 (fun b h1 h2 => ⟨A1 b (by omega), A2 b (by omega) (by omega)⟩) s59
  have s78 := mo_St_f3 (fun b h1 h2 => ⟨A1 b (by omega), A2 b (by omega) (by omega)⟩) s78
  have q := (A1 _ (by omega)).trans q
  have g0 := (A3 0 (by decide)).trans g0
  have g1 := (A3 1 (by decide)).trans g1
  have g2 := (A3 2 (by decide)).trans g2
  have g3 := A4
  have f2 : ∀ b, b < x + 1 → b ≠ x → G7.2 b = G.2 b := fun b hb hn => (A2 b (by omega) (by omega)).trans (f2 b hb hn)
  have s97 := hs
  have f1 : ∀ b, b < x + 1 → G7.1 b = G.1 b := fun b hb => (A1 b (by omega)).trans (f1 b hb)
  have f3 : ∀ b, b < x + 1 → M7 b = M b := fun b hb => (B1 b (by omega)).trans (f3 b hb)
  have f4 : ∀ b, x + 1 ≤ b → b < x + 97 + 19 → M7 b = fun _ => 0 := fun b h1 h2 => by
    by_cases c : b < x + 97
    · rw [B1 b c]; exact f4 b h1 (by omega)
    · exact B2 b (by omega) (by omega)
  clear A1 A2 A3 A4 B1 B2 hs
  refine mo_ii1 (pc := 58) X dX4_init_58 rfl (by decide) ?_
  refine mo_goto (pc := 61) (tgt := 36) X dX4_init_61 (by decide) ?_
  show mo_V κ 115 3910 36 [some (.ref x), some (mo_iv 4)] [] G7 M7 _
  refine mo_il1 (pc := 36) X dX4_init_36 ?_
  refine mo_al0 (pc := 37) X dX4_init_37 ?_
  refine mo_f_X4_19 (pc := 38) X dX4_init_38 o p2 ?_
  refine mo_alenQ (pc := 41) X dX4_init_41 q ?_
  refine mo_ic_ge (pc := 42) (tgt := 64) X dX4_init_42 (by decide) (by omega) (by omega) (fun c_42 => ?_) (fun c_42 => by exfalso; omega)
  refine mo_al0 (pc := 64) X dX4_init_64 ?_
  refine mo_new (pc := 65) X mo_in_X3 tyX3_ok (ci := 3) rfl mo_wq_X4_23 mo_wn_X3 mo_wz_X3 rfl (by decide) (mo_nRm Hn (Nat.le_of_ble_eq_true rfl) (Nat.le_of_ble_eq_true rfl)) dX4_init_65 ?_
  refine mo_dup (pc := 68) X dX4_init_68 rfl ?_
  refine mo_callIN (pc := 69) (As := []) X H3.2.1 mo_wc_yX3_init mo_wz_X3 mo_wi_yX3_init rfl (by decide) dX4_init_69 (ctX3_init (h := x + 116) rfl (mo_gnw_1 _ _ _)) rfl (by decide) (by decide) (Nat.le_of_ble_eq_true rfl) (mo_nRm Hn (Nat.le_of_ble_eq_true rfl) (Nat.le_of_ble_eq_true rfl)) ?_
  rintro v_65 Ga Ma t_65 ⟨rfl, rfl, a1, a2, b1, b2, hs⟩
  have oo : Ga.1 x = some (.inl 4) := by rw [a1 x (by omega), mo_gnw_1n (by omega)]; exact o
  refine mo_pRF (pc := 72) X Hn (ci := 4) (j := 3) rfl mo_in_X4 (by decide) (by decide) mo_wf_X4_26 rfl dX4_init_72 oo tyX4_ok nmX4 rfl rfl (tyX4_ok 3 (by decide)) rfl rfl ?_
  show mo_V κ 126 4091 75 [some (.ref x), some (mo_iv 4)] [] (mo_gp Ga x 3 (some (x + 116))) Ma (x + 116 + 11)
  obtain ⟨A1, A2, A3, A4⟩ := mo_gs_ok (h := x) (j := 3) (by omega) a1 a2
  obtain ⟨B1, B2⟩ := mo_ms_ok b1 b2
  have hs : mo_Bk (mo_gp Ga x 3 (some (x + 116))) (x + 116) := mo_Bk_f3 (G := Ga) (fun b h1 h2 => ⟨rfl, mo_gp_n (by omega)⟩) hs
  clear a1 a2 b1 b2 oo
  generalize mo_gp Ga x 3 (some (x + 116)) = G8 at A1 A2 A3 A4 hs ⊢
  obtain ⟨M8, rfl⟩ : ∃ q, q = Ma := ⟨_, rfl⟩
  have o : G8.1 x = some (.inl 4) := (A1 x (by omega)).trans o
  have p0 := (A3 0 (by decide)).trans p0
  have p1 := (A3 1 (by decide)).trans p1
  have p2 := (A3 2 (by decide)).trans p2
  have p3 := A4
  have s1 := mo_St_f3 (fun b h1 h2 => ⟨A1 b (by omega), A2 b (by omega) (by omega)⟩) s1
  have s20 := mo_St_f3 (fun b h1 h2 => ⟨A1 b (by omega), A2 b (by omega) (by omega)⟩) s20
  have s40 := mo_St_f3 (fun b h1 h2 => ⟨A1 b (by omega), A2 b (by omega) (by omega)⟩) s40
  have s59 := mo_St_f3 (fun b h1 h2 => ⟨A1 b (by omega), A2 b (by omega) (by omega)⟩) s59
  have s78 := mo_St_f3 (fun b h1 h2 => ⟨A1 b (by omega), A2 b (by omega) (by omega)⟩) s78
  have s97 := mo_St_f3 (fun b h1 h2 => ⟨A1 b (by omega), A2 b (by omega) (by omega)⟩) s97
  have q := (A1 _ (by omega)).trans q
  have g0 := (congrFun (A2 _ (by omega) (by omega)) 0).trans g0
  have g1 := (congrFun (A2 _ (by omega) (by omega)) 1).trans g1
  have g2 := (congrFun (A2 _ (by omega) (by omega)) 2).trans g2
  have g3 := (congrFun (A2 _ (by omega) (by omega)) 3).trans g3
  have f2 : ∀ b, b < x + 1 → b ≠ x → G8.2 b = G.2 b := fun b hb hn => (A2 b (by omega) hn).trans (f2 b hb hn)
  have s116 := hs
  have f1 : ∀ b, b < x + 1 → G8.1 b = G.1 b := fun b hb => (A1 b (by omega)).trans (f1 b hb)
  have f3 : ∀ b, b < x + 1 → M8 b = M b := fun b hb => (B1 b (by omega)).trans (f3 b hb)
  have f4 : ∀ b, x + 1 ≤ b → b < x + 116 + 11 → M8 b = fun _ => 0 := fun b h1 h2 => by
    by_cases c : b < x + 116
    · rw [B1 b c]; exact f4 b h1 (by omega)
    · exact B2 b (by omega) (by omega)
  clear A1 A2 A3 A4 B1 B2 hs
  refine mo_al0 (pc := 75) X dX4_init_75 ?_
  refine mo_new (pc := 76) X mo_in_X0 tyX0_ok (ci := 0) rfl mo_wq_X4_30 mo_wn_X0 mo_wz_X0 rfl (by decide) (mo_nRm Hn (Nat.le_of_ble_eq_true rfl) (Nat.le_of_ble_eq_true rfl)) dX4_init_76 ?_
  refine mo_dup (pc := 79) X dX4_init_79 rfl ?_
  refine mo_callIN (pc := 80) (As := []) X H3.2.2.1 mo_wc_yX0_init mo_wz_X0 mo_wi_yX0_init rfl (by decide) dX4_init_80 (ctX0_init (h := x + 127) rfl (mo_gnw_1 _ _ _)) rfl (by decide) (by decide) (Nat.le_of_ble_eq_true rfl) (mo_nRm Hn (Nat.le_of_ble_eq_true rfl) (Nat.le_of_ble_eq_true rfl)) ?_
  rintro v_76 Ga Ma t_76 ⟨rfl, rfl, a1, a2, b1, b2, hs⟩
  have oo : Ga.1 x = some (.inl 4) := by rw [a1 x (by omega), mo_gnw_1n (by omega)]; exact o
  refine mo_pRF (pc := 83) X Hn (ci := 4) (j := 4) rfl mo_in_X4 (by decide) (by decide) mo_wf_X4_33 rfl dX4_init_83 oo tyX4_ok nmX4 rfl rfl (tyX4_ok 4 (by decide)) rfl rfl ?_
  show mo_V κ 137 4404 86 [some (.ref x), some (mo_iv 4)] [] (mo_gp Ga x 4 (some (x + 127))) Ma (x + 127 + 11)
  obtain ⟨A1, A2, A3, A4⟩ := mo_gs_ok (h := x) (j := 4) (by omega) a1 a2
  obtain ⟨B1, B2⟩ := mo_ms_ok b1 b2
  have hs : mo_Tx (mo_gp Ga x 4 (some (x + 127))) (x + 127) := mo_Tx_f3 (G := Ga) (fun b h1 h2 => ⟨rfl, mo_gp_n (by omega)⟩) hs
  clear a1 a2 b1 b2 oo
  generalize mo_gp Ga x 4 (some (x + 127)) = G9 at A1 A2 A3 A4 hs ⊢
  obtain ⟨M9, rfl⟩ : ∃ q, q = Ma := ⟨_, rfl⟩
  have o : G9.1 x = some (.inl 4) := (A1 x (by omega)).trans o
  have p0 := (A3 0 (by decide)).trans p0
  have p1 := (A3 1 (by decide)).trans p1
  have p2 := (A3 2 (by decide)).trans p2
  have p3 := (A3 3 (by decide)).trans p3
  have p4 := A4
  have s1 := mo_St_f3 (fun b h1 h2 => ⟨A1 b (by omega), A2 b (by omega) (by omega)⟩) s1
  have s20 := mo_St_f3 (fun b h1 h2 => ⟨A1 b (by omega), A2 b (by omega) (by omega)⟩) s20
  have s40 := mo_St_f3 (fun b h1 h2 => ⟨A1 b (by omega), A2 b (by omega) (by omega)⟩) s40
  have s59 := mo_St_f3 (fun b h1 h2 => ⟨A1 b (by omega), A2 b (by omega) (by omega)⟩) s59
  have s78 := mo_St_f3 (fun b h1 h2 => ⟨A1 b (by omega), A2 b (by omega) (by omega)⟩) s78
  have s97 := mo_St_f3 (fun b h1 h2 => ⟨A1 b (by omega), A2 b (by omega) (by omega)⟩) s97
  have s116 := mo_Bk_f3 (fun b h1 h2 => ⟨A1 b (by omega), A2 b (by omega) (by omega)⟩) s116
  have q := (A1 _ (by omega)).trans q
  have g0 := (congrFun (A2 _ (by omega) (by omega)) 0).trans g0
  have g1 := (congrFun (A2 _ (by omega) (by omega)) 1).trans g1
  have g2 := (congrFun (A2 _ (by omega) (by omega)) 2).trans g2
  have g3 := (congrFun (A2 _ (by omega) (by omega)) 3).trans g3
  have f2 : ∀ b, b < x + 1 → b ≠ x → G9.2 b = G.2 b := fun b hb hn => (A2 b (by omega) hn).trans (f2 b hb hn)
  have s127 := hs
  have f1 : ∀ b, b < x + 1 → G9.1 b = G.1 b := fun b hb => (A1 b (by omega)).trans (f1 b hb)
  have f3 : ∀ b, b < x + 1 → M9 b = M b := fun b hb => (B1 b (by omega)).trans (f3 b hb)
  have f4 : ∀ b, x + 1 ≤ b → b < x + 127 + 11 → M9 b = fun _ => 0 := fun b h1 h2 => by
    by_cases c : b < x + 127
    · rw [B1 b c]; exact f4 b h1 (by omega)
    · exact B2 b (by omega) (by omega)
  clear A1 A2 A3 A4 B1 B2 hs
  refine mo_al0 (pc := 86) X dX4_init_86 ?_
  refine mo_iconst (pc := 87) X dX4_init_87 ?_
  refine mo_p_X4_37 (pc := 88) X dX4_init_88 o ?_
  refine mo_vret (pc := 91) X Y rfl dX4_init_91 ⟨rfl, rfl, f1, f2, fun b hb hn => by rw [mo_ur_n hn]; exact f3 b hb, by rw [mo_ur_s, mo_up_s], fun b h1 h2 => by rw [mo_ur_n (by omega)]; exact f4 b h1 (by omega), ⟨o, ⟨p0, s1⟩, ⟨p1, s20⟩, ⟨p2, q⟩, ⟨p3, s116⟩, ⟨p4, s127⟩, fun i hi => ?_⟩, fun i hi => ?_⟩
  · rcases (show i = 0 ∨ i = 1 ∨ i = 2 ∨ i = 3 by omega) with rfl | rfl | rfl | rfl
    · exact s40
    · exact s59
    · exact s78
    · exact s97
  · rcases (show i = 0 ∨ i = 1 ∨ i = 2 ∨ i = 3 by omega) with rfl | rfl | rfl | rfl
    · exact g0
    · exact g1
    · exact g2
    · exact g3
