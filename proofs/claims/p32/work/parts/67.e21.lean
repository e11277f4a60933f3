theorem mo_nRm {κ : mo_T} {nm : String} {d kc ks : Nat} (h : mo_nR κ nm (mo_rm d kc ks)) {a b : Nat} (h1 : a ≤ kc) (h2 : b ≤ ks) : mo_Rm κ a b := by
  obtain ⟨⟨p, l, e, R, s⟩, ⟨m, args, below, meth, c⟩, Q, ρ⟩ := κ
  obtain ⟨-, rfl⟩ := h
  exact ⟨h1, h2⟩
def mo_gr (G : mo_G) (T h j n : Nat) : mo_G := mo_gp (mo_gp (mo_gnw (mo_gnw G T (.inl 1)) (T + 1) (.inr (0, n))) T 0 (some (T + 1))) h j (some T)
def mo_mz (M : mo_M) (T : Nat) : mo_M := mo_ur (mo_ur M T (fun _ => 0)) (T + 1) (fun _ => 0)
theorem mo_gp_1 (G : mo_G) (a i : Nat) (v : Option Nat) : (mo_gp G a i v).1 = G.1 := rfl
theorem mo_gp_o {G : mo_G} {a i j : Nat} {v : Option Nat} (h : j ≠ i) : (mo_gp G a i v).2 a j = G.2 a j := by rw [mo_gp_s, mo_up_n h]
theorem mo_gr_ok {G : mo_G} {T h j n : Nat} (hT : h < T) : (∀ b, b < T → (mo_gr G T h j n).1 b = G.1 b) ∧ (∀ b, b < T → b ≠ h → (mo_gr G T h j n).2 b = G.2 b) ∧ (∀ i, i ≠ j → (mo_gr G T h j n).2 h i = G.2 h i) ∧ (mo_gr G T h j n).2 h j = some T ∧ mo_Row (mo_gr G T h j n) T n := by
  unfold mo_gr
  refine ⟨fun b hb => ?_, fun b hb hn => ?_, fun i hi => ?_, ?_, ?_, ?_, ?_⟩
  · rw [mo_gp_1, mo_gp_1, mo_gnw_1n (by omega), mo_gnw_1n (by omega)]
  · rw [mo_gp_n hn, mo_gp_n (by omega), mo_gnw_2n (by omega), mo_gnw_2n (by omega)]
  · rw [mo_gp_o hi, mo_gp_n (by omega), mo_gnw_2n (by omega), mo_gnw_2n (by omega)]
  · rw [mo_gp_s, mo_up_s]
  · rw [mo_gp_1, mo_gp_1, mo_gnw_1n (by omega), mo_gnw_1]
  · rw [mo_gp_n (by omega), mo_gp_s, mo_up_s]
  · rw [mo_gp_1, mo_gp_1, mo_gnw_1]
theorem mo_mz_ok {M : mo_M} {T : Nat} : (∀ b, b < T → mo_mz M T b = M b) ∧ (∀ b, T ≤ b → b < T + 2 → mo_mz M T b = fun _ => 0) := by
  unfold mo_mz
  refine ⟨fun b hb => by rw [mo_ur_n (by omega), mo_ur_n (by omega)], fun b h1 h2 => ?_⟩
  by_cases c : b = T + 1
  · rw [c, mo_ur_s]
  · rw [mo_ur_n c, show b = T by omega, mo_ur_s]
theorem mo_Row_lt {G G' : mo_G} {T h r n : Nat} (A1 : ∀ b, b < T → G'.1 b = G.1 b) (A2 : ∀ b, b < T → b ≠ h → G'.2 b = G.2 b) (q : mo_Row G r n) (h1 : r + 1 < T) (h2 : r ≠ h) : mo_Row G' r n := ⟨(A1 r (by omega)).trans q.1, by rw [A2 r (by omega) h2]; exact q.2.1, (A1 (r + 1) h1).trans q.2.2⟩
theorem mo_uz_ok {M : mo_M} {T : Nat} : (∀ b, b < T → mo_ur M T (fun _ => 0) b = M b) ∧ (∀ b, T ≤ b → b < T + 1 → mo_ur M T (fun _ => 0) b = fun _ => 0) := ⟨fun b hb => mo_ur_n (by omega), fun b h1 h2 => by rw [show b = T by omega, mo_ur_s]⟩
set_option maxHeartbeats 4000000 in
set_option maxRecDepth 100000 in
theorem ctX1_init {lf : Launch} {ρf : mo_E} {G : mo_G} {M : mo_M} {t : Nat} {r N : Nat} (hG : G.1 r = some (.inl 1)) (hrt : r < t) (hN : 0 < N ∧ N ≤ 3000) : mo_Ct lf ρf yX1_init cX1_init 2 none 1 1 N [.ref r, mo_iv N] G M t (fun v G' M' t' => v = none ∧ G' = mo_gp (mo_gnw G t (.inr (0, N))) r 0 (some t) ∧ M' = mo_ur M t (fun _ => 0) ∧ t' = t + 1) := by
  refine mo_ofWC (ls0 := [some (.ref r), some (mo_iv N)]) (by decide) rfl (Nat.le_of_ble_eq_true rfl) ?_
  intro κ X Y Hn
  have X : mo_Cx κ lf ρf cX1_init 2 RX1 none 1 := X
  have Hn : mo_nR κ "<init>" (mo_rm 1 1 N) := Hn
  refine mo_al0 (pc := 0) X dX1_init_0 ?_
  refine mo_objI (pc := 1) X mo_wm_X1_1 dX1_init_1 (by decide) (by decide) ?_
  refine mo_al0 (pc := 4) X dX1_init_4 ?_
  refine mo_il1 (pc := 5) X dX1_init_5 ?_
  refine mo_if_le (pc := 6) (tgt := 13) X dX1_init_6 (by decide) ?_ (fun c_6 => ?_) (fun c_6 => ?_)
  · omega
  · exfalso; omega
  refine mo_il1 (pc := 9) X dX1_init_9 ?_
  refine mo_goto (pc := 10) (tgt := 14) X dX1_init_10 (by decide) ?_
  refine mo_newI (pc := 14) X (by omega) (mo_nRm Hn (by decide) (by omega)) dX1_init_14 ?_
  have hG2 : (mo_gnw G t (.inr (0, N))).1 r = some (.inl 1) := by rw [mo_gnw_1n (by omega)]; exact hG
  refine mo_pRF (pc := 16) X Hn (ci := 1) (j := 0) rfl mo_in_X1 (by decide) (by decide) mo_wf_X1_7 rfl dX1_init_16 hG2 tyX1_ok nmX1 rfl rfl (tyX1_ok 0 (by decide)) rfl rfl ?_
  rw [Nat.zero_add N]
  exact mo_vret (pc := 19) X Y rfl dX1_init_19 ⟨rfl, rfl, rfl, rfl⟩
set_option maxHeartbeats 4000000 in
set_option maxRecDepth 100000 in
theorem ctX2_init {lf : Launch} {ρf : mo_E} {G : mo_G} {M : mo_M} {t : Nat} {h : Nat} (hh : t = h + 1) (hG : G.1 h = some (.inl 2)) : mo_Ct lf ρf yX2_init cX2_init 1 none 2 18 636 [.ref h] G M t (fun v G' M' t' => v = none ∧ t' = t + 18 ∧ (∀ b, b < t → G'.1 b = G.1 b) ∧ (∀ b, b < t → b ≠ h → G'.2 b = G.2 b) ∧ (∀ b, b < t → M' b = M b) ∧ (∀ b, t ≤ b → b < t + 18 → M' b = fun _ => 0) ∧ mo_St G' h) := by
  refine mo_ofWC (ls0 := [some (.ref h)]) (by decide) rfl (Nat.le_of_ble_eq_true rfl) ?_
  intro κ X Y Hn
  have X : mo_Cx κ lf ρf cX2_init 1 RX2 none 2 := X
  have Hn : mo_nR κ "<init>" (mo_rm 2 18 636) := Hn
  subst hh
  refine mo_al0 (pc := 0) X dX2_init_0 ?_
  refine mo_objI (pc := 1) X mo_wm_X2_3 dX2_init_1 (by decide) (by decide) ?_
  have o : G.1 h = some (.inl 2) := hG
  have f1 : ∀ b, b < h + 1 → G.1 b = G.1 b := fun b hb => rfl
  have f2 : ∀ b, b < h + 1 → b ≠ h → G.2 b = G.2 b := fun b hb hn => rfl
  have f3 : ∀ b, b < h + 1 → M b = M b := fun b hb => rfl
  have f4 : ∀ b, h + 1 ≤ b → b < h + 1 → M b = fun _ => 0 := fun b h1 h2 => by omega
  refine mo_al0 (pc := 4) X dX2_init_4 ?_
  refine mo_new (pc := 5) X mo_in_X1 tyX1_ok (ci := 1) rfl mo_wq_X2_9 mo_wn_X1 mo_wz_X1 rfl (by decide) (mo_nRm Hn (Nat.le_of_ble_eq_true rfl) (Nat.le_of_ble_eq_true rfl)) dX2_init_5 ?_
  refine mo_dup (pc := 8) X dX2_init_8 rfl ?_
  refine mo_sipush (pc := 9) X dX2_init_9 (by decide) ?_
  refine mo_callIr (pc := 12) (As := [_]) X mo_k_X2_11 rfl (by decide) dX2_init_12 (ctX1_init (r := h + 1) (N := 160) (mo_gnw_1 _ _ _) (by omega) ⟨by decide, by decide⟩) rfl (by decide) (by decide) (Nat.le_of_ble_eq_true rfl) (mo_nRm Hn (Nat.le_of_ble_eq_true rfl) (Nat.le_of_ble_eq_true rfl)) ?_
  rintro v_12 G_12 M_12 t_12 ⟨rfl, rfl, rfl, rfl⟩
  have oo : (mo_gp (mo_gnw (mo_gnw G (h + 1) (.inl 1)) (h + 1 + 1) (.inr (0, 160))) (h + 1) 0 (some (h + 1 + 1))).1 h = some (.inl 2) := by rw [mo_gp_1, mo_gnw_1n (by omega), mo_gnw_1n (by omega)]; exact o
  refine mo_pRF (pc := 15) X Hn (ci := 2) (j := 6) rfl mo_in_X2 (by decide) (by decide) mo_wf_X2_14 rfl dX2_init_15 oo tyX2_ok nmX2 rfl rfl (tyX2_ok 6 (by decide)) rfl rfl ?_
  show mo_V κ 2 161 18 [some (.ref h)] [] (mo_gr G (h + 1) h 6 160) (mo_mz M (h + 1)) (h + 1 + 2)
  obtain ⟨A1, A2, A3, A4, A5⟩ := mo_gr_ok (G := G) (T := h + 1) (h := h) (j := 6) (n := 160) (by omega)
  obtain ⟨B1, B2⟩ := mo_mz_ok (M := M) (T := h + 1)
  generalize mo_gr G (h + 1) h 6 160 = G1 at A1 A2 A3 A4 A5 ⊢
  generalize mo_mz M (h + 1) = M1 at B1 B2 ⊢
  have o : G1.1 h = some (.inl 2) := (A1 h (by omega)).trans o
  have p6 := A4
  have r6 := A5
  have f1 : ∀ b, b < h + 1 → G1.1 b = G.1 b := fun b hb => (A1 b (by omega)).trans (f1 b hb)
  have f2 : ∀ b, b < h + 1 → b ≠ h → G1.2 b = G.2 b := fun b hb hn => (A2 b (by omega) hn).trans (f2 b hb hn)
  have f3 : ∀ b, b < h + 1 → M1 b = M b := fun b hb => (B1 b (by omega)).trans (f3 b hb)
  have f4 : ∀ b, h + 1 ≤ b → b < h + 1 + 2 → M1 b = fun _ => 0 := fun b h1 h2 => by
    by_cases c : b < h + 1
    · rw [B1 b c]; exact f4 b h1 (by omega)
    · exact B2 b (by omega) h2
  clear A1 A2 A3 A4 A5 B1 B2 oo
  refine mo_al0 (pc := 18) X dX2_init_18 ?_
  refine mo_new (pc := 19) X mo_in_X1 tyX1_ok (ci := 1) rfl mo_wq_X2_9 mo_wn_X1 mo_wz_X1 rfl (by decide) (mo_nRm Hn (Nat.le_of_ble_eq_true rfl) (Nat.le_of_ble_eq_true rfl)) dX2_init_19 ?_
  refine mo_dup (pc := 22) X dX2_init_22 rfl ?_
  refine mo_bipush (pc := 23) X dX2_init_23 (by decide) ?_
  refine mo_callIr (pc := 25) (As := [_]) X mo_k_X2_11 rfl (by decide) dX2_init_25 (ctX1_init (r := h + 3) (N := 8) (mo_gnw_1 _ _ _) (by omega) ⟨by decide, by decide⟩) rfl (by decide) (by decide) (Nat.le_of_ble_eq_true rfl) (mo_nRm Hn (Nat.le_of_ble_eq_true rfl) (Nat.le_of_ble_eq_true rfl)) ?_
  rintro v_25 G_25 M_25 t_25 ⟨rfl, rfl, rfl, rfl⟩
  have oo : (mo_gp (mo_gnw (mo_gnw G1 (h + 3) (.inl 1)) (h + 3 + 1) (.inr (0, 8))) (h + 3) 0 (some (h + 3 + 1))).1 h = some (.inl 2) := by rw [mo_gp_1, mo_gnw_1n (by omega), mo_gnw_1n (by omega)]; exact o
  refine mo_pRF (pc := 28) X Hn (ci := 2) (j := 7) rfl mo_in_X2 (by decide) (by decide) mo_wf_X2_20 rfl dX2_init_28 oo tyX2_ok nmX2 rfl rfl (tyX2_ok 7 (by decide)) rfl rfl ?_
  show mo_V κ 4 170 31 [some (.ref h)] [] (mo_gr G1 (h + 3) h 7 8) (mo_mz M1 (h + 3)) (h + 3 + 2)
  obtain ⟨A1, A2, A3, A4, A5⟩ := mo_gr_ok (G := G1) (T := h + 3) (h := h) (j := 7) (n := 8) (by omega)
  obtain ⟨B1, B2⟩ := mo_mz_ok (M := M1) (T := h + 3)
  generalize mo_gr G1 (h + 3) h 7 8 = G2 at A1 A2 A3 A4 A5 ⊢
  generalize mo_mz M1 (h + 3) = M2 at B1 B2 ⊢
  have o : G2.1 h = some (.inl 2) := (A1 h (by omega)).trans o
  have p6 := (A3 6 (by decide)).trans p6
  have r6 := mo_Row_lt A1 A2 r6 (by omega) (by omega)
  have p7 := A4
  have r7 := A5
  have f1 : ∀ b, b < h + 1 → G2.1 b = G.1 b := fun b hb => (A1 b (by omega)).trans (f1 b hb)
  have f2 : ∀ b, b < h + 1 → b ≠ h → G2.2 b = G.2 b := fun b hb hn => (A2 b (by omega) hn).trans (f2 b hb hn)
  have f3 : ∀ b, b < h + 1 → M2 b = M b := fun b hb => (B1 b (by omega)).trans (f3 b hb)
  have f4 : ∀ b, h + 1 ≤ b → b < h + 3 + 2 → M2 b = fun _ => 0 := fun b h1 h2 => by
    by_cases c : b < h + 3
    · rw [B1 b c]; exact f4 b h1 (by omega)
    · exact B2 b (by omega) h2
  clear A1 A2 A3 A4 A5 B1 B2 oo
  refine mo_al0 (pc := 31) X dX2_init_31 ?_
  refine mo_new (pc := 32) X mo_in_X1 tyX1_ok (ci := 1) rfl mo_wq_X2_9 mo_wn_X1 mo_wz_X1 rfl (by decide) (mo_nRm Hn (Nat.le_of_ble_eq_true rfl) (Nat.le_of_ble_eq_true rfl)) dX2_init_32 ?_
  refine mo_dup (pc := 35) X dX2_init_35 rfl ?_
  refine mo_bipush (pc := 36) X dX2_init_36 (by decide) ?_
  refine mo_callIr (pc := 38) (As := [_]) X mo_k_X2_11 rfl (by decide) dX2_init_38 (ctX1_init (r := h + 5) (N := 8) (mo_gnw_1 _ _ _) (by omega) ⟨by decide, by decide⟩) rfl (by decide) (by decide) (Nat.le_of_ble_eq_true rfl) (mo_nRm Hn (Nat.le_of_ble_eq_true rfl) (Nat.le_of_ble_eq_true rfl)) ?_
  rintro v_38 G_38 M_38 t_38 ⟨rfl, rfl, rfl, rfl⟩
  have oo : (mo_gp (mo_gnw (mo_gnw G2 (h + 5) (.inl 1)) (h + 5 + 1) (.inr (0, 8))) (h + 5) 0 (some (h + 5 + 1))).1 h = some (.inl 2) := by rw [mo_gp_1, mo_gnw_1n (by omega), mo_gnw_1n (by omega)]; exact o
  refine mo_pRF (pc := 41) X Hn (ci := 2) (j := 8) rfl mo_in_X2 (by decide) (by decide) mo_wf_X2_23 rfl dX2_init_41 oo tyX2_ok nmX2 rfl rfl (tyX2_ok 8 (by decide)) rfl rfl ?_
  show mo_V κ 6 179 44 [some (.ref h)] [] (mo_gr G2 (h + 5) h 8 8) (mo_mz M2 (h + 5)) (h + 5 + 2)
  obtain ⟨A1, A2, A3, A4, A5⟩ := mo_gr_ok (G := G2) (T := h + 5) (h := h) (j := 8) (n := 8) (by omega)
  obtain ⟨B1, B2⟩ := mo_mz_ok (M := M2) (T := h + 5)
  generalize mo_gr G2 (h + 5) h 8 8 = G3 at A1 A2 A3 A4 A5 ⊢
  generalize mo_mz M2 (h + 5) = M3 at B1 B2 ⊢
  have o : G3.1 h = some (.inl 2) := (A1 h (by omega)).trans o
  have p6 := (A3 6 (by decide)).trans p6
  have r6 := mo_Row_lt A1 A2 r6 (by omega) (by omega)
  have p7 := (A3 7 (by decide)).trans p7
  have r7 := mo_Row_lt A1 A2 r7 (by omega) (by omega)
  have p8 := A4
  have r8 := A5
  have f1 : ∀ b, b < h + 1 → G3.1 b = G.1 b := fun b hb => (A1 b (by omega)).trans (f1 b hb)
  have f2 : ∀ b, b < h + 1 → b ≠ h → G3.2 b = G.2 b := fun b hb hn => (A2 b (by omega) hn).trans (f2 b hb hn)
  have f3 : ∀ b, b < h + 1 → M3 b = M b := fun b hb => (B1 b (by omega)).trans (f3 b hb)
  have f4 : ∀ b, h + 1 ≤ b → b < h + 5 + 2 → M3 b = fun _ => 0 := fun b h1 h2 => by
    by_cases c : b < h + 5
    · rw [B1 b c]; exact f4 b h1 (by omega)
    · exact B2 b (by omega) h2
  clear A1 A2 A3 A4 A5 B1 B2 oo
  refine mo_al0 (pc := 44) X dX2_init_44 ?_
  refine mo_new (pc := 45) X mo_in_X1 tyX1_ok (ci := 1) rfl mo_wq_X2_9 mo_wn_X1 mo_wz_X1 rfl (by decide) (mo_nRm Hn (Nat.le_of_ble_eq_true rfl) (Nat.le_of_ble_eq_true rfl)) dX2_init_45 ?_
  refine mo_dup (pc := 48) X dX2_init_48 rfl ?_
  refine mo_bipush (pc := 49) X dX2_init_49 (by decide) ?_
  refine mo_callIr (pc := 51) (As := [_]) X mo_k_X2_11 rfl (by decide) dX2_init_51 (ctX1_init (r := h + 7) (N := 8) (mo_gnw_1 _ _ _) (by omega) ⟨by decide, by decide⟩) rfl (by decide) (by decide) (Nat.le_of_ble_eq_true rfl) (mo_nRm Hn (Nat.le_of_ble_eq_true rfl) (Nat.le_of_ble_eq_true rfl)) ?_
  rintro v_51 G_51 M_51 t_51 ⟨rfl, rfl, rfl, rfl⟩
  have oo : (mo_gp (mo_gnw (mo_gnw G3 (h + 7) (.inl 1)) (h + 7 + 1) (.inr (0, 8))) (h + 7) 0 (some (h + 7 + 1))).1 h = some (.inl 2) := by rw [mo_gp_1, mo_gnw_1n (by omega), mo_gnw_1n (by omega)]; exact o
  refine mo_pRF (pc := 54) X Hn (ci := 2) (j := 9) rfl mo_in_X2 (by decide) (by decide) mo_wf_X2_26 rfl dX2_init_54 oo tyX2_ok nmX2 rfl rfl (tyX2_ok 9 (by decide)) rfl rfl ?_
  show mo_V κ 8 188 57 [some (.ref h)] [] (mo_gr G3 (h + 7) h 9 8) (mo_mz M3 (h + 7)) (h + 7 + 2)
  obtain ⟨A1, A2, A3, A4, A5⟩ := mo_gr_ok (G := G3) (T := h + 7) (h := h) (j := 9) (n := 8) (by omega)
  obtain ⟨B1, B2⟩ := mo_mz_ok (M := M3) (T := h + 7)
  generalize mo_gr G3 (h + 7) h 9 8 = G4 at A1 A2 A3 A4 A5 ⊢
  generalize mo_mz M3 (h + 7) = M4 at B1 B2 ⊢
  have o : G4.1 h = some (.inl 2) := (A1 h (by omega)).trans o
  have p6 := (A3 6 (by decide)).trans p6
  have r6 := mo_Row_lt A1 A2 r6 (by omega) (by omega)
  have p7 := (A3 7 (by decide)).trans p7
  have r7 := mo_Row_lt A1 A2 r7 (by omega) (by omega)
  have p8 := (A3 8 (by decide)).trans p8
  have r8 := mo_Row_lt A1 A2 r8 (by omega) (by omega)
  have p9 := A4
  have r9 := A5
  have f1 : ∀ b, b < h + 1 → G4.1 b = G.1 b := fun b hb => (A1 b (by omega)).trans (f1 b hb)
  have f2 : ∀ b, b < h + 1 → b ≠ h → G4.2 b = G.2 b := fun b hb hn => (A2 b (by omega) hn).trans (f2 b hb hn)
  have f3 : ∀ b, b < h + 1 → M4 b = M b := fun b hb => (B1 b (by omega)).trans (f3 b hb)
  have f4 : ∀ b, h + 1 ≤ b → b < h + 7 + 2 → M4 b = fun _ => 0 := fun b h1 h2 => by
    by_cases c : b < h + 7
    · rw [B1 b c]; exact f4 b h1 (by omega)
    · exact B2 b (by omega) h2
  clear A1 A2 A3 A4 A5 B1 B2 oo
  refine mo_al0 (pc := 57) X dX2_init_57 ?_
  refine mo_new (pc := 58) X mo_in_X1 tyX1_ok (ci := 1) rfl mo_wq_X2_9 mo_wn_X1 mo_wz_X1 rfl (by decide) (mo_nRm Hn (Nat.le_of_ble_eq_true rfl) (Nat.le_of_ble_eq_true rfl)) dX2_init_58 ?_
  refine mo_dup (pc := 61) X dX2_init_61 rfl ?_
  refine mo_bipush (pc := 62) X dX2_init_62 (by decide) ?_
  refine mo_callIr (pc := 64) (As := [_]) X mo_k_X2_11 rfl (by decide) dX2_init_64 (ctX1_init (r := h + 9) (N := 6) (mo_gnw_1 _ _ _) (by omega) ⟨by decide, by decide⟩) rfl (by decide) (by decide) (Nat.le_of_ble_eq_true rfl) (mo_nRm Hn (Nat.le_of_ble_eq_true rfl) (Nat.le_of_ble_eq_true rfl)) ?_
  rintro v_64 G_64 M_64 t_64 ⟨rfl, rfl, rfl, rfl⟩
  have oo : (mo_gp (mo_gnw (mo_gnw G4 (h + 9) (.inl 1)) (h + 9 + 1) (.inr (0, 6))) (h + 9) 0 (some (h + 9 + 1))).1 h = some (.inl 2) := by rw [mo_gp_1, mo_gnw_1n (by omega), mo_gnw_1n (by omega)]; exact o
  refine mo_pRF (pc := 67) X Hn (ci := 2) (j := 10) rfl mo_in_X2 (by decide) (by decide) mo_wf_X2_29 rfl dX2_init_67 oo tyX2_ok nmX2 rfl rfl (tyX2_ok 10 (by decide)) rfl rfl ?_
  show mo_V κ 10 195 70 [some (.ref h)] [] (mo_gr G4 (h + 9) h 10 6) (mo_mz M4 (h + 9)) (h + 9 + 2)
  obtain ⟨A1, A2, A3, A4, A5⟩ := mo_gr_ok (G := G4) (T := h + 9) (h := h) (j := 10) (n := 6) (by omega)
  obtain ⟨B1, B2⟩ := mo_mz_ok (M := M4) (T := h + 9)
  generalize mo_gr G4 (h + 9) h 10 6 = G5 at A1 A2 A3 A4 A5 ⊢
  generalize mo_mz M4 (h + 9) = M5 at B1 B2 ⊢
  have o : G5.1 h = some (.inl 2) := (A1 h (by omega)).trans o
  have p6 := (A3 6 (by decide)).trans p6
  have r6 := mo_Row_lt A1 A2 r6 (by omega) (by omega)
  have p7 := (A3 7 (by decide)).trans p7
  have r7 := mo_Row_lt A1 A2 r7 (by omega) (by omega)
  have p8 := (A3 8 (by decide)).trans p8
  have r8 := mo_Row_lt A1 A2 r8 (by omega) (by omega)
  have p9 := (A3 9 (by decide)).trans p9
  have r9 := mo_Row_lt A1 A2 r9 (by omega) (by omega)
  have p10 := A4
  have r10 := A5
  have f1 : ∀ b, b < h + 1 → G5.1 b = G.1 b := fun b hb => (A1 b (by omega)).trans (f1 b hb)
  have f2 : ∀ b, b < h + 1 → b ≠ h → G5.2 b = G.2 b := fun b hb hn => (A2 b (by omega) hn).trans (f2 b hb hn)
  have f3 : ∀ b, b < h + 1 → M5 b = M b := fun b hb => (B1 b (by omega)).trans (f3 b hb)
  have f4 : ∀ b, h + 1 ≤ b → b < h + 9 + 2 → M5 b = fun _ => 0 := fun b h1 h2 => by
    by_cases c : b < h + 9
    · rw [B1 b c]; exact f4 b h1 (by omega)
    · exact B2 b (by omega) h2
  clear A1 A2 A3 A4 A5 B1 B2 oo
  refine mo_al0 (pc := 70) X dX2_init_70 ?_
  refine mo_new (pc := 71) X mo_in_X1 tyX1_ok (ci := 1) rfl mo_wq_X2_9 mo_wn_X1 mo_wz_X1 rfl (by decide) (mo_nRm Hn (Nat.le_of_ble_eq_true rfl) (Nat.le_of_ble_eq_true rfl)) dX2_init_71 ?_
  refine mo_dup (pc := 74) X dX2_init_74 rfl ?_
  refine mo_bipush (pc := 75) X dX2_init_75 (by decide) ?_
  refine mo_callIr (pc := 77) (As := [_]) X mo_k_X2_11 rfl (by decide) dX2_init_77 (ctX1_init (r := h + 11) (N := 6) (mo_gnw_1 _ _ _) (by omega) ⟨by decide, by decide⟩) rfl (by decide) (by decide) (Nat.le_of_ble_eq_true rfl) (mo_nRm Hn (Nat.le_of_ble_eq_true rfl) (Nat.le_of_ble_eq_true rfl)) ?_
  rintro v_77 G_77 M_77 t_77 ⟨rfl, rfl, rfl, rfl⟩
  have oo : (mo_gp (mo_gnw (mo_gnw G5 (h + 11) (.inl 1)) (h + 11 + 1) (.inr (0, 6))) (h + 11) 0 (some (h + 11 + 1))).1 h = some (.inl 2) := by rw [mo_gp_1, mo_gnw_1n (by omega), mo_gnw_1n (by omega)]; exact o
  refine mo_pRF (pc := 80) X Hn (ci := 2) (j := 11) rfl mo_in_X2 (by decide) (by decide) mo_wf_X2_32 rfl dX2_init_80 oo tyX2_ok nmX2 rfl rfl (tyX2_ok 11 (by decide)) rfl rfl ?_
  show mo_V κ 12 202 83 [some (.ref h)] [] (mo_gr G5 (h + 11) h 11 6) (mo_mz M5 (h + 11)) (h + 11 + 2)
  obtain ⟨A1, A2, A3, A4, A5⟩ := mo_gr_ok (G := G5) (T := h + 11) (h := h) (j := 11) (n := 6) (by omega)
  obtain ⟨B1, B2⟩ := mo_mz_ok (M := M5) (T := h + 11)
  generalize mo_gr G5 (h + 11) h 11 6 = G6 at A1 A2 A3 A4 A5 ⊢
  generalize mo_mz M5 (h + 11) = M6 at B1 B2 ⊢
  have o : G6.1 h = some (.inl 2) := (A1 h (by omega)).trans o
  have p6 := (A3 6 (by decide)).trans p6
  have r6 := mo_Row_lt A1 A2 r6 (by omega) (by omega)
  have p7 := (A3 7 (by decide)).trans p7
  have r7 := mo_Row_lt A1 A2 r7 (by omega) (by omega)
  have p8 := (A3 8 (by decide)).trans p8
  have r8 := mo_Row_lt A1 A2 r8 (by omega) (by omega)
  have p9 := (A3 9 (by decide)).trans p9
  have r9 := mo_Row_lt A1 A2 r9 (by omega) (by omega)
  have p10 := (A3 10 (by decide)).trans p10
  have r10 := mo_Row_lt A1 A2 r10 (by omega) (by omega)
  have p11 := A4
  have r11 := A5
  have f1 : ∀ b, b < h + 1 → G6.1 b = G.1 b := fun b hb => (A1 b (by omega)).trans (f1 b hb)
  have f2 : ∀ b, b < h + 1 → b ≠ h → G6.2 b = G.2 b := fun b hb hn => (A2 b (by omega) hn).trans (f2 b hb hn)
  have f3 : ∀ b, b < h + 1 → M6 b = M b := fun b hb => (B1 b (by omega)).trans (f3 b hb)
  have f4 : ∀ b, h + 1 ≤ b → b < h + 11 + 2 → M6 b = fun _ => 0 := fun b h1 h2 => by
    by_cases c : b < h + 11
    · rw [B1 b c]; exact f4 b h1 (by omega)
    · exact B2 b (by omega) h2
  clear A1 A2 A3 A4 A5 B1 B2 oo
  refine mo_al0 (pc := 83) X dX2_init_83 ?_
  refine mo_new (pc := 84) X mo_in_X1 tyX1_ok (ci := 1) rfl mo_wq_X2_9 mo_wn_X1 mo_wz_X1 rfl (by decide) (mo_nRm Hn (Nat.le_of_ble_eq_true rfl) (Nat.le_of_ble_eq_true rfl)) dX2_init_84 ?_
  refine mo_dup (pc := 87) X dX2_init_87 rfl ?_
  refine mo_bipush (pc := 88) X dX2_init_88 (by decide) ?_
  refine mo_callIr (pc := 90) (As := [_]) X mo_k_X2_11 rfl (by decide) dX2_init_90 (ctX1_init (r := h + 13) (N := 6) (mo_gnw_1 _ _ _) (by omega) ⟨by decide, by decide⟩) rfl (by decide) (by decide) (Nat.le_of_ble_eq_true rfl) (mo_nRm Hn (Nat.le_of_ble_eq_true rfl) (Nat.le_of_ble_eq_true rfl)) ?_
  rintro v_90 G_90 M_90 t_90 ⟨rfl, rfl, rfl, rfl⟩
  have oo : (mo_gp (mo_gnw (mo_gnw G6 (h + 13) (.inl 1)) (h + 13 + 1) (.inr (0, 6))) (h + 13) 0 (some (h + 13 + 1))).1 h = some (.inl 2) := by rw [mo_gp_1, mo_gnw_1n (by omega), mo_gnw_1n (by omega)]; exact o
  refine mo_pRF (pc := 93) X Hn (ci := 2) (j := 12) rfl mo_in_X2 (by decide) (by decide) mo_wf_X2_35 rfl dX2_init_93 oo tyX2_ok nmX2 rfl rfl (tyX2_ok 12 (by decide)) rfl rfl ?_
  show mo_V κ 14 209 96 [some (.ref h)] [] (mo_gr G6 (h + 13) h 12 6) (mo_mz M6 (h + 13)) (h + 13 + 2)
  obtain ⟨A1, A2, A3, A4, A5⟩ := mo_gr_ok (G := G6) (T := h + 13) (h := h) (j := 12) (n := 6) (by omega)
  obtain ⟨B1, B2⟩ := mo_mz_ok (M := M6) (T := h + 13)
  generalize mo_gr G6 (h + 13) h 12 6 = G7 at A1 A2 A3 A4 A5 ⊢
  generalize mo_mz M6 (h + 13) = M7 at B1 B2 ⊢
  have o : G7.1 h = some (.inl 2) := (A1 h (by omega)).trans o
  have p6 := (A3 6 (by decide)).trans p6
  have r6 := mo_Row_lt A1 A2 r6 (by omega) (by omega)
  have p7 := (A3 7 (by decide)).trans p7
  have r7 := mo_Row_lt A1 A2 r7 (by omega) (by omega)
  have p8 := (A3 8 (by decide)).trans p8
  have r8 := mo_Row_lt A1 A2 r8 (by omega) (by omega)
  have p9 := (A3 9 (by decide)).trans p9
  have r9 := mo_Row_lt A1 A2 r9 (by omega) (by omega)
  have p10 := (A3 10 (by decide)).trans p10
  have r10 := mo_Row_lt A1 A2 r10 (by omega) (by omega)
  have p11 := (A3 11 (by decide)).trans p11
  have r11 := mo_Row_lt A1 A2 r11 (by omega) (by omega)
  have p12 := A4
  have r12 := A5
  have f1 : ∀ b, b < h + 1 → G7.1 b = G.1 b := fun b hb => (A1 b (by omega)).trans (f1 b hb)
  have f2 : ∀ b, b < h + 1 → b ≠ h → G7.2 b = G.2 b := fun b hb hn => (A2 b (by omega) hn).trans (f2 b hb hn)
  have f3 : ∀ b, b < h + 1 → M7 b = M b := fun b hb => (B1 b (by omega)).trans (f3 b hb)
  have f4 : ∀ b, h + 1 ≤ b → b < h + 13 + 2 → M7 b = fun _ => 0 := fun b h1 h2 => by
    by_cases c : b < h + 13
    · rw [B1 b c]; exact f4 b h1 (by omega)
    · exact B2 b (by omega) h2
  clear A1 A2 A3 A4 A5 B1 B2 oo
  refine mo_al0 (pc := 96) X dX2_init_96 ?_
  refine mo_new (pc := 97) X mo_in_X1 tyX1_ok (ci := 1) rfl mo_wq_X2_9 mo_wn_X1 mo_wz_X1 rfl (by decide) (mo_nRm Hn (Nat.le_of_ble_eq_true rfl) (Nat.le_of_ble_eq_true rfl)) dX2_init_97 ?_
  refine mo_dup (pc := 100) X dX2_init_100 rfl ?_
  refine mo_iconst (pc := 101) X dX2_init_101 ?_
  refine mo_callIr (pc := 102) (As := [_]) X mo_k_X2_11 rfl (by decide) dX2_init_102 (ctX1_init (r := h + 15) (N := 5) (mo_gnw_1 _ _ _) (by omega) ⟨by decide, by decide⟩) rfl (by decide) (by decide) (Nat.le_of_ble_eq_true rfl) (mo_nRm Hn (Nat.le_of_ble_eq_true rfl) (Nat.le_of_ble_eq_true rfl)) ?_
  rintro v_102 G_102 M_102 t_102 ⟨rfl, rfl, rfl, rfl⟩
  have oo : (mo_gp (mo_gnw (mo_gnw G7 (h + 15) (.inl 1)) (h + 15 + 1) (.inr (0, 5))) (h + 15) 0 (some (h + 15 + 1))).1 h = some (.inl 2) := by rw [mo_gp_1, mo_gnw_1n (by omega), mo_gnw_1n (by omega)]; exact o
  refine mo_pRF (pc := 105) X Hn (ci := 2) (j := 13) rfl mo_in_X2 (by decide) (by decide) mo_wf_X2_38 rfl dX2_init_105 oo tyX2_ok nmX2 rfl rfl (tyX2_ok 13 (by decide)) rfl rfl ?_
  show mo_V κ 16 215 108 [some (.ref h)] [] (mo_gr G7 (h + 15) h 13 5) (mo_mz M7 (h + 15)) (h + 15 + 2)
  obtain ⟨A1, A2, A3, A4, A5⟩ := mo_gr_ok (G := G7) (T := h + 15) (h := h) (j := 13) (n := 5) (by omega)
  obtain ⟨B1, B2⟩ := mo_mz_ok (M := M7) (T := h + 15)
  generalize mo_gr G7 (h + 15) h 13 5 = G8 at A1 A2 A3 A4 A5 ⊢
  generalize mo_mz M7 (h + 15) = M8 at B1 B2 ⊢
  have o : G8.1 h = some (.inl 2) := (A1 h (by omega)).trans o
  have p6 := (A3 6 (by decide)).trans p6
  have r6 := mo_Row_lt A1 A2 r6 (by omega) (by omega)
  have p7 := (A3 7 (by decide)).trans p7
  have r7 := mo_Row_lt A1 A2 r7 (by omega) (by omega)
  have p8 := (A3 8 (by decide)).trans p8
  have r8 := mo_Row_lt A1 A2 r8 (by omega) (by omega)
  have p9 := (A3 9 (by decide)).trans p9
  have r9 := mo_Row_lt A1 A2 r9 (by omega) (by omega)
  have p10 := (A3 10 (by decide)).trans p10
  have r10 := mo_Row_lt A1 A2 r10 (by omega) (by omega)
  have p11 := (A3 11 (by decide)).trans p11
  have r11 := mo_Row_lt A1 A2 r11 (by omega) (by omega)
  have p12 := (A3 12 (by decide)).trans p12
  have r12 := mo_Row_lt A1 A2 r12 (by omega) (by omega)
  have p13 := A4
  have r13 := A5
  have f1 : ∀ b, b < h + 1 → G8.1 b = G.1 b := fun b hb => (A1 b (by omega)).trans (f1 b hb)
  have f2 : ∀ b, b < h + 1 → b ≠ h → G8.2 b = G.2 b := fun b hb hn => (A2 b (by omega) hn).trans (f2 b hb hn)
  have f3 : ∀ b, b < h + 1 → M8 b = M b := fun b hb => (B1 b (by omega)).trans (f3 b hb)
  have f4 : ∀ b, h + 1 ≤ b → b < h + 15 + 2 → M8 b = fun _ => 0 := fun b h1 h2 => by
    by_cases c : b < h + 15
    · rw [B1 b c]; exact f4 b h1 (by omega)
    · exact B2 b (by omega) h2
  clear A1 A2 A3 A4 A5 B1 B2 oo
  refine mo_al0 (pc := 108) X dX2_init_108 ?_
  refine mo_new (pc := 109) X mo_in_X1 tyX1_ok (ci := 1) rfl mo_wq_X2_9 mo_wn_X1 mo_wz_X1 rfl (by decide) (mo_nRm Hn (Nat.le_of_ble_eq_true rfl) (Nat.le_of_ble_eq_true rfl)) dX2_init_109 ?_
  refine mo_dup (pc := 112) X dX2_init_112 rfl ?_
  refine mo_sipush (pc := 113) X dX2_init_113 (by decide) ?_
  refine mo_callIr (pc := 116) (As := [_]) X mo_k_X2_11 rfl (by decide) dX2_init_116 (ctX1_init (r := h + 17) (N := 420) (mo_gnw_1 _ _ _) (by omega) ⟨by decide, by decide⟩) rfl (by decide) (by decide) (Nat.le_of_ble_eq_true rfl) (mo_nRm Hn (Nat.le_of_ble_eq_true rfl) (Nat.le_of_ble_eq_true rfl)) ?_
  rintro v_116 G_116 M_116 t_116 ⟨rfl, rfl, rfl, rfl⟩
  have oo : (mo_gp (mo_gnw (mo_gnw G8 (h + 17) (.inl 1)) (h + 17 + 1) (.inr (0, 420))) (h + 17) 0 (some (h + 17 + 1))).1 h = some (.inl 2) := by rw [mo_gp_1, mo_gnw_1n (by omega), mo_gnw_1n (by omega)]; exact o
  refine mo_pRF (pc := 119) X Hn (ci := 2) (j := 14) rfl mo_in_X2 (by decide) (by decide) mo_wf_X2_41 rfl dX2_init_119 oo tyX2_ok nmX2 rfl rfl (tyX2_ok 14 (by decide)) rfl rfl ?_
  show mo_V κ 18 636 122 [some (.ref h)] [] (mo_gr G8 (h + 17) h 14 420) (mo_mz M8 (h + 17)) (h + 17 + 2)
  obtain ⟨A1, A2, A3, A4, A5⟩ := mo_gr_ok (G := G8) (T := h + 17) (h := h) (j := 14) (n := 420) (by omega)
  obtain ⟨B1, B2⟩ := mo_mz_ok (M := M8) (T := h + 17)
  generalize mo_gr G8 (h + 17) h 14 420 = G9 at A1 A2 A3 A4 A5 ⊢
  generalize mo_mz M8 (h + 17) = M9 at B1 B2 ⊢
  have o : G9.1 h = some (.inl 2) := (A1 h (by omega)).trans o
  have p6 := (A3 6 (by decide)).trans p6
  have r6 := mo_Row_lt A1 A2 r6 (by omega) (by omega)
  have p7 := (A3 7 (by decide)).trans p7
  have r7 := mo_Row_lt A1 A2 r7 (by omega) (by omega)
  have p8 := (A3 8 (by decide)).trans p8
  have r8 := mo_Row_lt A1 A2 r8 (by omega) (by omega)
  have p9 := (A3 9 (by decide)).trans p9
  have r9 := mo_Row_lt A1 A2 r9 (by omega) (by omega)
  have p10 := (A3 10 (by decide)).trans p10
  have r10 := mo_Row_lt A1 A2 r10 (by omega) (by omega)
  have p11 := (A3 11 (by decide)).trans p11
  have r11 := mo_Row_lt A1 A2 r11 (by omega) (by omega)
  have p12 := (A3 12 (by decide)).trans p12
  have r12 := mo_Row_lt A1 A2 r12 (by omega) (by omega)
  have p13 := (A3 13 (by decide)).trans p13
  have r13 := mo_Row_lt A1 A2 r13 (by omega) (by omega)
  have p14 := A4
  have r14 := A5
  have f1 : ∀ b, b < h + 1 → G9.1 b = G.1 b := fun b hb => (A1 b (by omega)).trans (f1 b hb)
  have f2 : ∀ b, b < h + 1 → b ≠ h → G9.2 b = G.2 b := fun b hb hn => (A2 b (by omega) hn).trans (f2 b hb hn)
  have f3 : ∀ b, b < h + 1 → M9 b = M b := fun b hb => (B1 b (by omega)).trans (f3 b hb)
  have f4 : ∀ b, h + 1 ≤ b → b < h + 17 + 2 → M9 b = fun _ => 0 := fun b h1 h2 => by
    by_cases c : b < h + 17
    · rw [B1 b c]; exact f4 b h1 (by omega)
    · exact B2 b (by omega) h2
  clear A1 A2 A3 A4 A5 B1 B2 oo
  exact mo_vret (pc := 122) X Y rfl dX2_init_122 ⟨rfl, rfl, f1, f2, f3, fun b h1 h2 => f4 b h1 (by omega), o, ⟨p6, r6⟩, ⟨p7, r7⟩, ⟨p8, r8⟩, ⟨p9, r9⟩, ⟨p10, r10⟩, ⟨p11, r11⟩, ⟨p12, r12⟩, ⟨p13, r13⟩, ⟨p14, r14⟩⟩
set_option maxHeartbeats 4000000 in
set_option maxRecDepth 100000 in
theorem ctX3_init {lf : Launch} {ρf : mo_E} {G : mo_G} {M : mo_M} {t : Nat} {h : Nat} (hh : t = h + 1) (hG : G.1 h = some (.inl 3)) : mo_Ct lf ρf yX3_init cX3_init 1 none 2 10 173 [.ref h] G M t (fun v G' M' t' => v = none ∧ t' = t + 10 ∧ (∀ b, b < t → G'.1 b = G.1 b) ∧ (∀ b, b < t → b ≠ h → G'.2 b = G.2 b) ∧ (∀ b, b < t → M' b = M b) ∧ (∀ b, t ≤ b → b < t + 10 → M' b = fun _ => 0) ∧ mo_Bk G' h) := by
  refine mo_ofWC (ls0 := [some (.ref h)]) (by decide) rfl (Nat.le_of_ble_eq_true rfl) ?_
  intro κ X Y Hn
  have X : mo_Cx κ lf ρf cX3_init 1 RX3 none 2 := X
  have Hn : mo_nR κ "<init>" (mo_rm 2 10 173) := Hn
  subst hh
  refine mo_al0 (pc := 0) X dX3_init_0 ?_
  refine mo_objI (pc := 1) X mo_wm_X3_3 dX3_init_1 (by decide) (by decide) ?_
  have o : G.1 h = some (.inl 3) := hG
  have f1 : ∀ b, b < h + 1 → G.1 b = G.1 b := fun b hb => rfl
  have f2 : ∀ b, b < h + 1 → b ≠ h → G.2 b = G.2 b := fun b hb hn => rfl
  have f3 : ∀ b, b < h + 1 → M b = M b := fun b hb => rfl
  have f4 : ∀ b, h + 1 ≤ b → b < h + 1 → M b = fun _ => 0 := fun b h1 h2 => by omega
  refine mo_al0 (pc := 4) X dX3_init_4 ?_
  refine mo_new (pc := 5) X mo_in_X1 tyX1_ok (ci := 1) rfl mo_wq_X3_9 mo_wn_X1 mo_wz_X1 rfl (by decide) (mo_nRm Hn (Nat.le_of_ble_eq_true rfl) (Nat.le_of_ble_eq_true rfl)) dX3_init_5 ?_
  refine mo_dup (pc := 8) X dX3_init_8 rfl ?_
  refine mo_bipush (pc := 9) X dX3_init_9 (by decide) ?_
  refine mo_callIr (pc := 11) (As := [_]) X mo_k_X3_11 rfl (by decide) dX3_init_11 (ctX1_init (r := h + 1) (N := 8) (mo_gnw_1 _ _ _) (by omega) ⟨by decide, by decide⟩) rfl (by decide) (by decide) (Nat.le_of_ble_eq_true rfl) (mo_nRm Hn (Nat.le_of_ble_eq_true rfl) (Nat.le_of_ble_eq_true rfl)) ?_
  rintro v_11 G_11 M_11 t_11 ⟨rfl, rfl, rfl, rfl⟩
  have oo : (mo_gp (mo_gnw (mo_gnw G (h + 1) (.inl 1)) (h + 1 + 1) (.inr (0, 8))) (h + 1) 0 (some (h + 1 + 1))).1 h = some (.inl 3) := by rw [mo_gp_1, mo_gnw_1n (by omega), mo_gnw_1n (by omega)]; exact o
  refine mo_pRF (pc := 14) X Hn (ci := 3) (j := 0) rfl mo_in_X3 (by decide) (by decide) mo_wf_X3_14 rfl dX3_init_14 oo tyX3_ok nmX3 rfl rfl (tyX3_ok 0 (by decide)) rfl rfl ?_
  show mo_V κ 2 9 17 [some (.ref h)] [] (mo_gr G (h + 1) h 0 8) (mo_mz M (h + 1)) (h + 1 + 2)
  obtain ⟨A1, A2, A3, A4, A5⟩ := mo_gr_ok (G := G) (T := h + 1) (h := h) (j := 0) (n := 8) (by omega)
  obtain ⟨B1, B2⟩ := mo_mz_ok (M := M) (T := h + 1)
  generalize mo_gr G (h + 1) h 0 8 = G1 at A1 A2 A3 A4 A5 ⊢
  generalize mo_mz M (h + 1) = M1 at B1 B2 ⊢
  have o : G1.1 h = some (.inl 3) := (A1 h (by omega)).trans o
  have p0 := A4
  have r0 := A5
  have f1 : ∀ b, b < h + 1 → G1.1 b = G.1 b := fun b hb => (A1 b (by omega)).trans (f1 b hb)
  have f2 : ∀ b, b < h + 1 → b ≠ h → G1.2 b = G.2 b := fun b hb hn => (A2 b (by omega) hn).trans (f2 b hb hn)
  have f3 : ∀ b, b < h + 1 → M1 b = M b := fun b hb => (B1 b (by omega)).trans (f3 b hb)
  have f4 : ∀ b, h + 1 ≤ b → b < h + 1 + 2 → M1 b = fun _ => 0 := fun b h1 h2 => by
    by_cases c : b < h + 1
    · rw [B1 b c]; exact f4 b h1 (by omega)
    · exact B2 b (by omega) h2
  clear A1 A2 A3 A4 A5 B1 B2 oo
  refine mo_al0 (pc := 17) X dX3_init_17 ?_
  refine mo_new (pc := 18) X mo_in_X1 tyX1_ok (ci := 1) rfl mo_wq_X3_9 mo_wn_X1 mo_wz_X1 rfl (by decide) (mo_nRm Hn (Nat.le_of_ble_eq_true rfl) (Nat.le_of_ble_eq_true rfl)) dX3_init_18 ?_
  refine mo_dup (pc := 21) X dX3_init_21 rfl ?_
  refine mo_bipush (pc := 22) X dX3_init_22 (by decide) ?_
  refine mo_callIr (pc := 24) (As := [_]) X mo_k_X3_11 rfl (by decide) dX3_init_24 (ctX1_init (r := h + 3) (N := 6) (mo_gnw_1 _ _ _) (by omega) ⟨by decide, by decide⟩) rfl (by decide) (by decide) (Nat.le_of_ble_eq_true rfl) (mo_nRm Hn (Nat.le_of_ble_eq_true rfl) (Nat.le_of_ble_eq_true rfl)) ?_
  rintro v_24 G_24 M_24 t_24 ⟨rfl, rfl, rfl, rfl⟩
  have oo : (mo_gp (mo_gnw (mo_gnw G1 (h + 3) (.inl 1)) (h + 3 + 1) (.inr (0, 6))) (h + 3) 0 (some (h + 3 + 1))).1 h = some (.inl 3) := by rw [mo_gp_1, mo_gnw_1n (by omega), mo_gnw_1n (by omega)]; exact o
  refine mo_pRF (pc := 27) X Hn (ci := 3) (j := 1) rfl mo_in_X3 (by decide) (by decide) mo_wf_X3_20 rfl dX3_init_27 oo tyX3_ok nmX3 rfl rfl (tyX3_ok 1 (by decide)) rfl rfl ?_
  show mo_V κ 4 16 30 [some (.ref h)] [] (mo_gr G1 (h + 3) h 1 6) (mo_mz M1 (h + 3)) (h + 3 + 2)
  obtain ⟨A1, A2, A3, A4, A5⟩ := mo_gr_ok (G := G1) (T := h + 3) (h := h) (j := 1) (n := 6) (by omega)
  obtain ⟨B1, B2⟩ := mo_mz_ok (M := M1) (T := h + 3)
  generalize mo_gr G1 (h + 3) h 1 6 = G2 at A1 A2 A3 A4 A5 ⊢
  generalize mo_mz M1 (h + 3) = M2 at B1 B2 ⊢
  have o : G2.1 h = some (.inl 3) := (A1 h (by omega)).trans o
  have p0 := (A3 0 (by decide)).trans p0
  have r0 := mo_Row_lt A1 A2 r0 (by omega) (by omega)
  have p1 := A4
  have r1 := A5
  have f1 : ∀ b, b < h + 1 → G2.1 b = G.1 b := fun b hb => (A1 b (by omega)).trans (f1 b hb)
  have f2 : ∀ b, b < h + 1 → b ≠ h → G2.2 b = G.2 b := fun b hb hn => (A2 b (by omega) hn).trans (f2 b hb hn)
  have f3 : ∀ b, b < h + 1 → M2 b = M b := fun b hb => (B1 b (by omega)).trans (f3 b hb)
  have f4 : ∀ b, h + 1 ≤ b → b < h + 3 + 2 → M2 b = fun _ => 0 := fun b h1 h2 => by
    by_cases c : b < h + 3
    · rw [B1 b c]; exact f4 b h1 (by omega)
    · exact B2 b (by omega) h2
  clear A1 A2 A3 A4 A5 B1 B2 oo
  refine mo_al0 (pc := 30) X dX3_init_30 ?_
  refine mo_new (pc := 31) X mo_in_X1 tyX1_ok (ci := 1) rfl mo_wq_X3_9 mo_wn_X1 mo_wz_X1 rfl (by decide) (mo_nRm Hn (Nat.le_of_ble_eq_true rfl) (Nat.le_of_ble_eq_true rfl)) dX3_init_31 ?_
  refine mo_dup (pc := 34) X dX3_init_34 rfl ?_
  refine mo_bipush (pc := 35) X dX3_init_35 (by decide) ?_
  refine mo_callIr (pc := 37) (As := [_]) X mo_k_X3_11 rfl (by decide) dX3_init_37 (ctX1_init (r := h + 5) (N := 6) (mo_gnw_1 _ _ _) (by omega) ⟨by decide, by decide⟩) rfl (by decide) (by decide) (Nat.le_of_ble_eq_true rfl) (mo_nRm Hn (Nat.le_of_ble_eq_true rfl) (Nat.le_of_ble_eq_true rfl)) ?_
  rintro v_37 G_37 M_37 t_37 ⟨rfl, rfl, rfl, rfl⟩
  have oo : (mo_gp (mo_gnw (mo_gnw G2 (h + 5) (.inl 1)) (h + 5 + 1) (.inr (0, 6))) (h + 5) 0 (some (h + 5 + 1))).1 h = some (.inl 3) := by rw [mo_gp_1, mo_gnw_1n (by omega), mo_gnw_1n (by omega)]; exact o
  refine mo_pRF (pc := 40) X Hn (ci := 3) (j := 2) rfl mo_in_X3 (by decide) (by decide) mo_wf_X3_23 rfl dX3_init_40 oo tyX3_ok nmX3 rfl rfl (tyX3_ok 2 (by decide)) rfl rfl ?_
  show mo_V κ 6 23 43 [some (.ref h)] [] (mo_gr G2 (h + 5) h 2 6) (mo_mz M2 (h + 5)) (h + 5 + 2)
  obtain ⟨A1, A2, A3, A4, A5⟩ := mo_gr_ok (G := G2) (T := h + 5) (h := h) (j := 2) (n := 6) (by omega)
  obtain ⟨B1, B2⟩ := mo_mz_ok (M := M2) (T := h + 5)
  generalize mo_gr G2 (h + 5) h 2 6 = G3 at A1 A2 A3 A4 A5 ⊢
  generalize mo_mz M2 (h + 5) = M3 at B1 B2 ⊢
  have o : G3.1 h = some (.inl 3) := (A1 h (by omega)).trans o
  have p0 := (A3 0 (by decide)).trans p0
  have r0 := mo_Row_lt A1 A2 r0 (by omega) (by omega)
  have p1 := (A3 1 (by decide)).trans p1
  have r1 := mo_Row_lt A1 A2 r1 (by omega) (by omega)
  have p2 := A4
  have r2 := A5
  have f1 : ∀ b, b < h + 1 → G3.1 b = G.1 b := fun b hb => (A1 b (by omega)).trans (f1 b hb)
  have f2 : ∀ b, b < h + 1 → b ≠ h → G3.2 b = G.2 b := fun b hb hn => (A2 b (by omega) hn).trans (f2 b hb hn)
  have f3 : ∀ b, b < h + 1 → M3 b = M b := fun b hb => (B1 b (by omega)).trans (f3 b hb)
  have f4 : ∀ b, h + 1 ≤ b → b < h + 5 + 2 → M3 b = fun _ => 0 := fun b h1 h2 => by
    by_cases c : b < h + 5
    · rw [B1 b c]; exact f4 b h1 (by omega)
    · exact B2 b (by omega) h2
  clear A1 A2 A3 A4 A5 B1 B2 oo
  refine mo_al0 (pc := 43) X dX3_init_43 ?_
  refine mo_new (pc := 44) X mo_in_X1 tyX1_ok (ci := 1) rfl mo_wq_X3_9 mo_wn_X1 mo_wz_X1 rfl (by decide) (mo_nRm Hn (Nat.le_of_ble_eq_true rfl) (Nat.le_of_ble_eq_true rfl)) dX3_init_44 ?_
  refine mo_dup (pc := 47) X dX3_init_47 rfl ?_
  refine mo_sipush (pc := 48) X dX3_init_48 (by decide) ?_
  refine mo_callIr (pc := 51) (As := [_]) X mo_k_X3_11 rfl (by decide) dX3_init_51 (ctX1_init (r := h + 7) (N := 140) (mo_gnw_1 _ _ _) (by omega) ⟨by decide, by decide⟩) rfl (by decide) (by decide) (Nat.le_of_ble_eq_true rfl) (mo_nRm Hn (Nat.le_of_ble_eq_true rfl) (Nat.le_of_ble_eq_true rfl)) ?_
  rintro v_51 G_51 M_51 t_51 ⟨rfl, rfl, rfl, rfl⟩
  have oo : (mo_gp (mo_gnw (mo_gnw G3 (h + 7) (.inl 1)) (h + 7 + 1) (.inr (0, 140))) (h + 7) 0 (some (h + 7 + 1))).1 h = some (.inl 3) := by rw [mo_gp_1, mo_gnw_1n (by omega), mo_gnw_1n (by omega)]; exact o
  refine mo_pRF (pc := 54) X Hn (ci := 3) (j := 3) rfl mo_in_X3 (by decide) (by decide) mo_wf_X3_26 rfl dX3_init_54 oo tyX3_ok nmX3 rfl rfl (tyX3_ok 3 (by decide)) rfl rfl ?_
  show mo_V κ 8 164 57 [some (.ref h)] [] (mo_gr G3 (h + 7) h 3 140) (mo_mz M3 (h + 7)) (h + 7 + 2)
  obtain ⟨A1, A2, A3, A4, A5⟩ := mo_gr_ok (G := G3) (T := h + 7) (h := h) (j := 3) (n := 140) (by omega)
  obtain ⟨B1, B2⟩ := mo_mz_ok (M := M3) (T := h + 7)
  generalize mo_gr G3 (h + 7) h 3 140 = G4 at A1 A2 A3 A4 A5 ⊢
  generalize mo_mz M3 (h + 7) = M4 at B1 B2 ⊢
  have o : G4.1 h = some (.inl 3) := (A1 h (by omega)).trans o
  have p0 := (A3 0 (by decide)).trans p0
  have r0 := mo_Row_lt A1 A2 r0 (by omega) (by omega)
  have p1 := (A3 1 (by decide)).trans p1
  have r1 := mo_Row_lt A1 A2 r1 (by omega) (by omega)
  have p2 := (A3 2 (by decide)).trans p2
  have r2 := mo_Row_lt A1 A2 r2 (by omega) (by omega)
  have p3 := A4
  have r3 := A5
  have f1 : ∀ b, b < h + 1 → G4.1 b = G.1 b := fun b hb => (A1 b (by omega)).trans (f1 b hb)
  have f2 : ∀ b, b < h + 1 → b ≠ h → G4.2 b = G.2 b := fun b hb hn => (A2 b (by omega) hn).trans (f2 b hb hn)
  have f3 : ∀ b, b < h + 1 → M4 b = M b := fun b hb => (B1 b (by omega)).trans (f3 b hb)
  have f4 : ∀ b, h + 1 ≤ b → b < h + 7 + 2 → M4 b = fun _ => 0 := fun b h1 h2 => by
    by_cases c : b < h + 7
    · rw [B1 b c]; exact f4 b h1 (by omega)
    · exact B2 b (by omega) h2
  clear A1 A2 A3 A4 A5 B1 B2 oo
  refine mo_al0 (pc := 57) X dX3_init_57 ?_
  refine mo_new (pc := 58) X mo_in_X1 tyX1_ok (ci := 1) rfl mo_wq_X3_9 mo_wn_X1 mo_wz_X1 rfl (by decide) (mo_nRm Hn (Nat.le_of_ble_eq_true rfl) (Nat.le_of_ble_eq_true rfl)) dX3_init_58 ?_
  refine mo_dup (pc := 61) X dX3_init_61 rfl ?_
  refine mo_bipush (pc := 62) X dX3_init_62 (by decide) ?_
  refine mo_callIr (pc := 64) (As := [_]) X mo_k_X3_11 rfl (by decide) dX3_init_64 (ctX1_init (r := h + 9) (N := 8) (mo_gnw_1 _ _ _) (by omega) ⟨by decide, by decide⟩) rfl (by decide) (by decide) (Nat.le_of_ble_eq_true rfl) (mo_nRm Hn (Nat.le_of_ble_eq_true rfl) (Nat.le_of_ble_eq_true rfl)) ?_
  rintro v_64 G_64 M_64 t_64 ⟨rfl, rfl, rfl, rfl⟩
  have oo : (mo_gp (mo_gnw (mo_gnw G4 (h + 9) (.inl 1)) (h + 9 + 1) (.inr (0, 8))) (h + 9) 0 (some (h + 9 + 1))).1 h = some (.inl 3) := by rw [mo_gp_1, mo_gnw_1n (by omega), mo_gnw_1n (by omega)]; exact o
  refine mo_pRF (pc := 67) X Hn (ci := 3) (j := 4) rfl mo_in_X3 (by decide) (by decide) mo_wf_X3_29 rfl dX3_init_67 oo tyX3_ok nmX3 rfl rfl (tyX3_ok 4 (by decide)) rfl rfl ?_
  show mo_V κ 10 173 70 [some (.ref h)] [] (mo_gr G4 (h + 9) h 4 8) (mo_mz M4 (h + 9)) (h + 9 + 2)
  obtain ⟨A1, A2, A3, A4, A5⟩ := mo_gr_ok (G := G4) (T := h + 9) (h := h) (j := 4) (n := 8) (by omega)
  obtain ⟨B1, B2⟩ := mo_mz_ok (M := M4) (T := h + 9)
  generalize mo_gr G4 (h + 9) h 4 8 = G5 at A1 A2 A3 A4 A5 ⊢
  generalize mo_mz M4 (h + 9) = M5 at B1 B2 ⊢
  have o : G5.1 h = some (.inl 3) := (A1 h (by omega)).trans o
  have p0 := (A3 0 (by decide)).trans p0
  have r0 := mo_Row_lt A1 A2 r0 (by omega) (by omega)
  have p1 := (A3 1 (by decide)).trans p1
  have r1 := mo_Row_lt A1 A2 r1 (by omega) (by omega)
  have p2 := (A3 2 (by decide)).trans p2
  have r2 := mo_Row_lt A1 A2 r2 (by omega) (by omega)
  have p3 := (A3 3 (by decide)).trans p3
  have r3 := mo_Row_lt A1 A2 r3 (by omega) (by omega)
  have p4 := A4
  have r4 := A5
  have f1 : ∀ b, b < h + 1 → G5.1 b = G.1 b := fun b hb => (A1 b (by omega)).trans (f1 b hb)
  have f2 : ∀ b, b < h + 1 → b ≠ h → G5.2 b = G.2 b := fun b hb hn => (A2 b (by omega) hn).trans (f2 b hb hn)
  have f3 : ∀ b, b < h + 1 → M5 b = M b := fun b hb => (B1 b (by omega)).trans (f3 b hb)
  have f4 : ∀ b, h + 1 ≤ b → b < h + 9 + 2 → M5 b = fun _ => 0 := fun b h1 h2 => by
    by_cases c : b < h + 9
    · rw [B1 b c]; exact f4 b h1 (by omega)
    · exact B2 b (by omega) h2
  clear A1 A2 A3 A4 A5 B1 B2 oo
  exact mo_vret (pc := 70) X Y rfl dX3_init_70 ⟨rfl, rfl, f1, f2, f3, fun b h1 h2 => f4 b h1 (by omega), o, ⟨p0, r0⟩, ⟨p1, r1⟩, ⟨p2, r2⟩, ⟨p3, r3⟩, ⟨p4, r4⟩⟩
set_option maxHeartbeats 4000000 in
set_option maxRecDepth 100000 in
theorem ctX0_init {lf : Launch} {ρf : mo_E} {G : mo_G} {M : mo_M} {t : Nat} {h : Nat} (hh : t = h + 1) (hG : G.1 h = some (.inl 0)) : mo_Ct lf ρf yX0_init cX0_init 1 none 2 10 305 [.ref h] G M t (fun v G' M' t' => v = none ∧ t' = t + 10 ∧ (∀ b, b < t → G'.1 b = G.1 b) ∧ (∀ b, b < t → b ≠ h → G'.2 b = G.2 b) ∧ (∀ b, b < t → M' b = M b) ∧ (∀ b, t ≤ b → b < t + 10 → M' b = fun _ => 0) ∧ mo_Tx G' h) := by
  refine mo_ofWC (ls0 := [some (.ref h)]) (by decide) rfl (Nat.le_of_ble_eq_true rfl) ?_
  intro κ X Y Hn
  have X : mo_Cx κ lf ρf cX0_init 1 RX0 none 2 := X
  have Hn : mo_nR κ "<init>" (mo_rm 2 10 305) := Hn
  subst hh
  refine mo_al0 (pc := 0) X dX0_init_0 ?_
  refine mo_objI (pc := 1) X mo_wm_X0_3 dX0_init_1 (by decide) (by decide) ?_
  have o : G.1 h = some (.inl 0) := hG
  have f1 : ∀ b, b < h + 1 → G.1 b = G.1 b := fun b hb => rfl
  have f2 : ∀ b, b < h + 1 → b ≠ h → G.2 b = G.2 b := fun b hb hn => rfl
  have f3 : ∀ b, b < h + 1 → M b = M b := fun b hb => rfl
  have f4 : ∀ b, h + 1 ≤ b → b < h + 1 → M b = fun _ => 0 := fun b h1 h2 => by omega
  refine mo_al0 (pc := 4) X dX0_init_4 ?_
  refine mo_new (pc := 5) X mo_in_X1 tyX1_ok (ci := 1) rfl mo_wq_X0_9 mo_wn_X1 mo_wz_X1 rfl (by decide) (mo_nRm Hn (Nat.le_of_ble_eq_true rfl) (Nat.le_of_ble_eq_true rfl)) dX0_init_5 ?_
  refine mo_dup (pc := 8) X dX0_init_8 rfl ?_
  refine mo_bipush (pc := 9) X dX0_init_9 (by decide) ?_
  refine mo_callIr (pc := 11) (As := [_]) X mo_k_X0_11 rfl (by decide) dX0_init_11 (ctX1_init (r := h + 1) (N := 100) (mo_gnw_1 _ _ _) (by omega) ⟨by decide, by decide⟩) rfl (by decide) (by decide) (Nat.le_of_ble_eq_true rfl) (mo_nRm Hn (Nat.le_of_ble_eq_true rfl) (Nat.le_of_ble_eq_true rfl)) ?_
  rintro v_11 G_11 M_11 t_11 ⟨rfl, rfl, rfl, rfl⟩
  have oo : (mo_gp (mo_gnw (mo_gnw G (h + 1) (.inl 1)) (h + 1 + 1) (.inr (0, 100))) (h + 1) 0 (some (h + 1 + 1))).1 h = some (.inl 0) := by rw [mo_gp_1, mo_gnw_1n (by omega), mo_gnw_1n (by omega)]; exact o
  refine mo_pRF (pc := 14) X Hn (ci := 0) (j := 0) rfl mo_in_X0 (by decide) (by decide) mo_wf_X0_14 rfl dX0_init_14 oo tyX0_ok nmX0 rfl rfl (tyX0_ok 0 (by decide)) rfl rfl ?_
  show mo_V κ 2 101 17 [some (.ref h)] [] (mo_gr G (h + 1) h 0 100) (mo_mz M (h + 1)) (h + 1 + 2)
  obtain ⟨A1, A2, A3, A4, A5⟩ := mo_gr_ok (G := G) (T := h + 1) (h := h) (j := 0) (n := 100) (by omega)
  obtain ⟨B1, B2⟩ := mo_mz_ok (M := M) (T := h + 1)
  generalize mo_gr G (h + 1) h 0 100 = G1 at A1 A2 A3 A4 A5 ⊢
  generalize mo_mz M (h + 1) = M1 at B1 B2 ⊢
  have o : G1.1 h = some (.inl 0) := (A1 h (by omega)).trans o
  have p0 := A4
  have r0 := A5
  have f1 : ∀ b, b < h + 1 → G1.1 b = G.1 b := fun b hb => (A1 b (by omega)).trans (f1 b hb)
  have f2 : ∀ b, b < h + 1 → b ≠ h → G1.2 b = G.2 b := fun b hb hn => (A2 b (by omega) hn).trans (f2 b hb hn)
  have f3 : ∀ b, b < h + 1 → M1 b = M b := fun b hb => (B1 b (by omega)).trans (f3 b hb)
  have f4 : ∀ b, h + 1 ≤ b → b < h + 1 + 2 → M1 b = fun _ => 0 := fun b h1 h2 => by
    by_cases c : b < h + 1
    · rw [B1 b c]; exact f4 b h1 (by omega)
    · exact B2 b (by omega) h2
  clear A1 A2 A3 A4 A5 B1 B2 oo
  refine mo_al0 (pc := 17) X dX0_init_17 ?_
  refine mo_new (pc := 18) X mo_in_X1 tyX1_ok (ci := 1) rfl mo_wq_X0_9 mo_wn_X1 mo_wz_X1 rfl (by decide) (mo_nRm Hn (Nat.le_of_ble_eq_true rfl) (Nat.le_of_ble_eq_true rfl)) dX0_init_18 ?_
  refine mo_dup (pc := 21) X dX0_init_21 rfl ?_
  refine mo_bipush (pc := 22) X dX0_init_22 (by decide) ?_
  refine mo_callIr (pc := 24) (As := [_]) X mo_k_X0_11 rfl (by decide) dX0_init_24 (ctX1_init (r := h + 3) (N := 50) (mo_gnw_1 _ _ _) (by omega) ⟨by decide, by decide⟩) rfl (by decide) (by decide) (Nat.le_of_ble_eq_true rfl) (mo_nRm Hn (Nat.le_of_ble_eq_true rfl) (Nat.le_of_ble_eq_true rfl)) ?_
  rintro v_24 G_24 M_24 t_24 ⟨rfl, rfl, rfl, rfl⟩
  have oo : (mo_gp (mo_gnw (mo_gnw G1 (h + 3) (.inl 1)) (h + 3 + 1) (.inr (0, 50))) (h + 3) 0 (some (h + 3 + 1))).1 h = some (.inl 0) := by rw [mo_gp_1, mo_gnw_1n (by omega), mo_gnw_1n (by omega)]; exact o
  refine mo_pRF (pc := 27) X Hn (ci := 0) (j := 1) rfl mo_in_X0 (by decide) (by decide) mo_wf_X0_20 rfl dX0_init_27 oo tyX0_ok nmX0 rfl rfl (tyX0_ok 1 (by decide)) rfl rfl ?_
  show mo_V κ 4 152 30 [some (.ref h)] [] (mo_gr G1 (h + 3) h 1 50) (mo_mz M1 (h + 3)) (h + 3 + 2)
  obtain ⟨A1, A2, A3, A4, A5⟩ := mo_gr_ok (G := G1) (T := h + 3) (h := h) (j := 1) (n := 50) (by omega)
  obtain ⟨B1, B2⟩ := mo_mz_ok (M := M1) (T := h + 3)
  generalize mo_gr G1 (h + 3) h 1 50 = G2 at A1 A2 A3 A4 A5 ⊢
  generalize mo_mz M1 (h + 3) = M2 at B1 B2 ⊢
  have o : G2.1 h = some (.inl 0) := (A1 h (by omega)).trans o
  have p0 := (A3 0 (by decide)).trans p0
  have r0 := mo_Row_lt A1 A2 r0 (by omega) (by omega)
  have p1 := A4
  have r1 := A5
  have f1 : ∀ b, b < h + 1 → G2.1 b = G.1 b := fun b hb => (A1 b (by omega)).trans (f1 b hb)
  have f2 : ∀ b, b < h + 1 → b ≠ h → G2.2 b = G.2 b := fun b hb hn => (A2 b (by omega) hn).trans (f2 b hb hn)
  have f3 : ∀ b, b < h + 1 → M2 b = M b := fun b hb => (B1 b (by omega)).trans (f3 b hb)
  have f4 : ∀ b, h + 1 ≤ b → b < h + 3 + 2 → M2 b = fun _ => 0 := fun b h1 h2 => by
    by_cases c : b < h + 3
    · rw [B1 b c]; exact f4 b h1 (by omega)
    · exact B2 b (by omega) h2
  clear A1 A2 A3 A4 A5 B1 B2 oo
  refine mo_al0 (pc := 30) X dX0_init_30 ?_
  refine mo_new (pc := 31) X mo_in_X1 tyX1_ok (ci := 1) rfl mo_wq_X0_9 mo_wn_X1 mo_wz_X1 rfl (by decide) (mo_nRm Hn (Nat.le_of_ble_eq_true rfl) (Nat.le_of_ble_eq_true rfl)) dX0_init_31 ?_
  refine mo_dup (pc := 34) X dX0_init_34 rfl ?_
  refine mo_bipush (pc := 35) X dX0_init_35 (by decide) ?_
  refine mo_callIr (pc := 37) (As := [_]) X mo_k_X0_11 rfl (by decide) dX0_init_37 (ctX1_init (r := h + 5) (N := 50) (mo_gnw_1 _ _ _) (by omega) ⟨by decide, by decide⟩) rfl (by decide) (by decide) (Nat.le_of_ble_eq_true rfl) (mo_nRm Hn (Nat.le_of_ble_eq_true rfl) (Nat.le_of_ble_eq_true rfl)) ?_
  rintro v_37 G_37 M_37 t_37 ⟨rfl, rfl, rfl, rfl⟩
  have oo : (mo_gp (mo_gnw (mo_gnw G2 (h + 5) (.inl 1)) (h + 5 + 1) (.inr (0, 50))) (h + 5) 0 (some (h + 5 + 1))).1 h = some (.inl 0) := by rw [mo_gp_1, mo_gnw_1n (by omega), mo_gnw_1n (by omega)]; exact o
  refine mo_pRF (pc := 40) X Hn (ci := 0) (j := 2) rfl mo_in_X0 (by decide) (by decide) mo_wf_X0_23 rfl dX0_init_40 oo tyX0_ok nmX0 rfl rfl (tyX0_ok 2 (by decide)) rfl rfl ?_
  show mo_V κ 6 203 43 [some (.ref h)] [] (mo_gr G2 (h + 5) h 2 50) (mo_mz M2 (h + 5)) (h + 5 + 2)
  obtain ⟨A1, A2, A3, A4, A5⟩ := mo_gr_ok (G := G2) (T := h + 5) (h := h) (j := 2) (n := 50) (by omega)
  obtain ⟨B1, B2⟩ := mo_mz_ok (M := M2) (T := h + 5)
  generalize mo_gr G2 (h + 5) h 2 50 = G3 at A1 A2 A3 A4 A5 ⊢
  generalize mo_mz M2 (h + 5) = M3 at B1 B2 ⊢
  have o : G3.1 h = some (.inl 0) := (A1 h (by omega)).trans o
  have p0 := (A3 0 (by decide)).trans p0
  have r0 := mo_Row_lt A1 A2 r0 (by omega) (by omega)
  have p1 := (A3 1 (by decide)).trans p1
  have r1 := mo_Row_lt A1 A2 r1 (by omega) (by omega)
  have p2 := A4
  have r2 := A5
  have f1 : ∀ b, b < h + 1 → G3.1 b = G.1 b := fun b hb => (A1 b (by omega)).trans (f1 b hb)
  have f2 : ∀ b, b < h + 1 → b ≠ h → G3.2 b = G.2 b := fun b hb hn => (A2 b (by omega) hn).trans (f2 b hb hn)
  have f3 : ∀ b, b < h + 1 → M3 b = M b := fun b hb => (B1 b (by omega)).trans (f3 b hb)
  have f4 : ∀ b, h + 1 ≤ b → b < h + 5 + 2 → M3 b = fun _ => 0 := fun b h1 h2 => by
    by_cases c : b < h + 5
    · rw [B1 b c]; exact f4 b h1 (by omega)
    · exact B2 b (by omega) h2
  clear A1 A2 A3 A4 A5 B1 B2 oo
  refine mo_al0 (pc := 43) X dX0_init_43 ?_
  refine mo_new (pc := 44) X mo_in_X1 tyX1_ok (ci := 1) rfl mo_wq_X0_9 mo_wn_X1 mo_wz_X1 rfl (by decide) (mo_nRm Hn (Nat.le_of_ble_eq_true rfl) (Nat.le_of_ble_eq_true rfl)) dX0_init_44 ?_
  refine mo_dup (pc := 47) X dX0_init_47 rfl ?_
  refine mo_bipush (pc := 48) X dX0_init_48 (by decide) ?_
  refine mo_callIr (pc := 50) (As := [_]) X mo_k_X0_11 rfl (by decide) dX0_init_50 (ctX1_init (r := h + 7) (N := 50) (mo_gnw_1 _ _ _) (by omega) ⟨by decide, by decide⟩) rfl (by decide) (by decide) (Nat.le_of_ble_eq_true rfl) (mo_nRm Hn (Nat.le_of_ble_eq_true rfl) (Nat.le_of_ble_eq_true rfl)) ?_
  rintro v_50 G_50 M_50 t_50 ⟨rfl, rfl, rfl, rfl⟩
  have oo : (mo_gp (mo_gnw (mo_gnw G3 (h + 7) (.inl 1)) (h + 7 + 1) (.inr (0, 50))) (h + 7) 0 (some (h + 7 + 1))).1 h = some (.inl 0) := by rw [mo_gp_1, mo_gnw_1n (by omega), mo_gnw_1n (by omega)]; exact o
  refine mo_pRF (pc := 53) X Hn (ci := 0) (j := 3) rfl mo_in_X0 (by decide) (by decide) mo_wf_X0_26 rfl dX0_init_53 oo tyX0_ok nmX0 rfl rfl (tyX0_ok 3 (by decide)) rfl rfl ?_
  show mo_V κ 8 254 56 [some (.ref h)] [] (mo_gr G3 (h + 7) h 3 50) (mo_mz M3 (h + 7)) (h + 7 + 2)
  obtain ⟨A1, A2, A3, A4, A5⟩ := mo_gr_ok (G := G3) (T := h + 7) (h := h) (j := 3) (n := 50) (by omega)
  obtain ⟨B1, B2⟩ := mo_mz_ok (M := M3) (T := h + 7)
  generalize mo_gr G3 (h + 7) h 3 50 = G4 at A1 A2 A3 A4 A5 ⊢
  generalize mo_mz M3 (h + 7) = M4 at B1 B2 ⊢
  have o : G4.1 h = some (.inl 0) := (A1 h (by omega)).trans o
  have p0 := (A3 0 (by decide)).trans p0
  have r0 := mo_Row_lt A1 A2 r0 (by omega) (by omega)
  have p1 := (A3 1 (by decide)).trans p1
  have r1 := mo_Row_lt A1 A2 r1 (by omega) (by omega)
  have p2 := (A3 2 (by decide)).trans p2
  have r2 := mo_Row_lt A1 A2 r2 (by omega) (by omega)
  have p3 := A4
  have r3 := A5
  have f1 : ∀ b, b < h + 1 → G4.1 b = G.1 b := fun b hb => (A1 b (by omega)).trans (f1 b hb)
  have f2 : ∀ b, b < h + 1 → b ≠ h → G4.2 b = G.2 b := fun b hb hn => (A2 b (by omega) hn).trans (f2 b hb hn)
  have f3 : ∀ b, b < h + 1 → M4 b = M b := fun b hb => (B1 b (by omega)).trans (f3 b hb)
  have f4 : ∀ b, h + 1 ≤ b → b < h + 7 + 2 → M4 b = fun _ => 0 := fun b h1 h2 => by
    by_cases c : b < h + 7
    · rw [B1 b c]; exact f4 b h1 (by omega)
    · exact B2 b (by omega) h2
  clear A1 A2 A3 A4 A5 B1 B2 oo
  refine mo_al0 (pc := 56) X dX0_init_56 ?_
  refine mo_new (pc := 57) X mo_in_X1 tyX1_ok (ci := 1) rfl mo_wq_X0_9 mo_wn_X1 mo_wz_X1 rfl (by decide) (mo_nRm Hn (Nat.le_of_ble_eq_true rfl) (Nat.le_of_ble_eq_true rfl)) dX0_init_57 ?_
  refine mo_dup (pc := 60) X dX0_init_60 rfl ?_
  refine mo_bipush (pc := 61) X dX0_init_61 (by decide) ?_
  refine mo_callIr (pc := 63) (As := [_]) X mo_k_X0_11 rfl (by decide) dX0_init_63 (ctX1_init (r := h + 9) (N := 50) (mo_gnw_1 _ _ _) (by omega) ⟨by decide, by decide⟩) rfl (by decide) (by decide) (Nat.le_of_ble_eq_true rfl) (mo_nRm Hn (Nat.le_of_ble_eq_true rfl) (Nat.le_of_ble_eq_true rfl)) ?_
  rintro v_63 G_63 M_63 t_63 ⟨rfl, rfl, rfl, rfl⟩
  have oo : (mo_gp (mo_gnw (mo_gnw G4 (h + 9) (.inl 1)) (h + 9 + 1) (.inr (0, 50))) (h + 9) 0 (some (h + 9 + 1))).1 h = some (.inl 0) := by rw [mo_gp_1, mo_gnw_1n (by omega), mo_gnw_1n (by omega)]; exact o
  refine mo_pRF (pc := 66) X Hn (ci := 0) (j := 4) rfl mo_in_X0 (by decide) (by decide) mo_wf_X0_29 rfl dX0_init_66 oo tyX0_ok nmX0 rfl rfl (tyX0_ok 4 (by decide)) rfl rfl ?_
  show mo_V κ 10 305 69 [some (.ref h)] [] (mo_gr G4 (h + 9) h 4 50) (mo_mz M4 (h + 9)) (h + 9 + 2)
  obtain ⟨A1, A2, A3, A4, A5⟩ := mo_gr_ok (G := G4) (T := h + 9) (h := h) (j := 4) (n := 50) (by omega)
  obtain ⟨B1, B2⟩ := mo_mz_ok (M := M4) (T := h + 9)
  generalize mo_gr G4 (h + 9) h 4 50 = G5 at A1 A2 A3 A4 A5 ⊢
  generalize mo_mz M4 (h + 9) = M5 at B1 B2 ⊢
  have o : G5.1 h = some (.inl 0) := (A1 h (by omega)).trans o
  have p0 := (A3 0 (by decide)).trans p0
  have r0 := mo_Row_lt A1 A2 r0 (by omega) (by omega)
  have p1 := (A3 1 (by decide)).trans p1
  have r1 := mo_Row_lt A1 A2 r1 (by omega) (by omega)
  have p2 := (A3 2 (by decide)).trans p2
  have r2 := mo_Row_lt A1 A2 r2 (by omega) (by omega)
  have p3 := (A3 3 (by decide)).trans p3
  have r3 := mo_Row_lt A1 A2 r3 (by omega) (by omega)
  have p4 := A4
  have r4 := A5
  have f1 : ∀ b, b < h + 1 → G5.1 b = G.1 b := fun b hb => (A1 b (by omega)).trans (f1 b hb)
  have f2 : ∀ b, b < h + 1 → b ≠ h → G5.2 b = G.2 b := fun b hb hn => (A2 b (by omega) hn).trans (f2 b hb hn)
  have f3 : ∀ b, b < h + 1 → M5 b = M b := fun b hb => (B1 b (by omega)).trans (f3 b hb)
  have f4 : ∀ b, h + 1 ≤ b → b < h + 9 + 2 → M5 b = fun _ => 0 := fun b h1 h2 => by
    by_cases c : b < h + 9
    · rw [B1 b c]; exact f4 b h1 (by omega)
    · exact B2 b (by omega) h2
  clear A1 A2 A3 A4 A5 B1 B2 oo
  exact mo_vret (pc := 69) X Y rfl dX0_init_69 ⟨rfl, rfl, f1, f2, f3, fun b h1 h2 => f4 b h1 (by omega), o, ⟨p0, r0⟩, ⟨p1, r1⟩, ⟨p2, r2⟩, ⟨p3, r3⟩, ⟨p4, r4⟩⟩
