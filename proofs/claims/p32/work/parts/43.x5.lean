theorem mo_St_fr {G G' : mo_G} {h : Nat} (h1 : G'.1 = G.1) (h2 : ∀ b, h ≤ b → b ≤ h + 18 → G'.2 b = G.2 b) (q : mo_St G h) : mo_St G' h := by
  unfold mo_St mo_Row
  rw [h1, h2 h (by omega) (by omega), h2 (h + 1) (by omega) (by omega), h2 (h + 3) (by omega) (by omega), h2 (h + 5) (by omega) (by omega), h2 (h + 7) (by omega) (by omega), h2 (h + 9) (by omega) (by omega), h2 (h + 11) (by omega) (by omega), h2 (h + 13) (by omega) (by omega), h2 (h + 15) (by omega) (by omega), h2 (h + 17) (by omega) (by omega)]
  exact q
theorem mo_Bk_fr {G G' : mo_G} {h : Nat} (h1 : G'.1 = G.1) (h2 : ∀ b, h ≤ b → b ≤ h + 10 → G'.2 b = G.2 b) (q : mo_Bk G h) : mo_Bk G' h := by
  unfold mo_Bk mo_Row
  rw [h1, h2 h (by omega) (by omega), h2 (h + 1) (by omega) (by omega), h2 (h + 3) (by omega) (by omega), h2 (h + 5) (by omega) (by omega), h2 (h + 7) (by omega) (by omega), h2 (h + 9) (by omega) (by omega)]
  exact q
theorem mo_Tx_fr {G G' : mo_G} {h : Nat} (h1 : G'.1 = G.1) (h2 : ∀ b, h ≤ b → b ≤ h + 10 → G'.2 b = G.2 b) (q : mo_Tx G h) : mo_Tx G' h := by
  unfold mo_Tx mo_Row
  rw [h1, h2 h (by omega) (by omega), h2 (h + 1) (by omega) (by omega), h2 (h + 3) (by omega) (by omega), h2 (h + 5) (by omega) (by omega), h2 (h + 7) (by omega) (by omega), h2 (h + 9) (by omega) (by omega)]
  exact q
theorem mo_Ms_fr {G G' : mo_G} {x : Nat} (h1 : G'.1 = G.1) (h2 : ∀ b, b ≠ x + 39 → G'.2 b = G.2 b) (q : mo_Ms G x) : mo_Ms G' x := by
  refine ⟨by rw [h1]; exact q.1, ⟨by rw [h2 _ (by omega)]; exact mo_Ms_p0 q, mo_St_fr h1 (fun b a c => h2 b (by omega)) (mo_Ms_r0 q)⟩, ⟨by rw [h2 _ (by omega)]; exact mo_Ms_p1 q, mo_St_fr h1 (fun b a c => h2 b (by omega)) (mo_Ms_r1 q)⟩, ⟨by rw [h2 _ (by omega)]; exact mo_Ms_p2 q, by rw [h1]; exact mo_Ms_r2 q⟩, ⟨by rw [h2 _ (by omega)]; exact mo_Ms_p3 q, mo_Bk_fr h1 (fun b a c => h2 b (by omega)) (mo_Ms_r3 q)⟩, ⟨by rw [h2 _ (by omega)]; exact mo_Ms_p4 q, mo_Tx_fr h1 (fun b a c => h2 b (by omega)) (mo_Ms_r4 q)⟩, fun i hi => mo_St_fr h1 (fun b a c => h2 b (by omega)) (mo_Ms_s q hi)⟩
theorem mo_gp_n {G : mo_G} {a i b : Nat} {v : Option Nat} (h : b ≠ a) : (mo_gp G a i v).2 b = G.2 b := by simp [mo_gp, h]
theorem mo_gp_s (G : mo_G) (a i : Nat) (v : Option Nat) : (mo_gp G a i v).2 a = va_up (G.2 a) i v := by simp [mo_gp]
/-- the saved States, turned by s -/
def mo_Sg (G : mo_G) (x s : Nat) : Prop := ∀ i, i < 4 → G.2 (x + 39) i = some (x + 40 + 19 * ((i + s) % 4))
def mo_Sq (G G' : mo_G) (M M' : mo_M) (x n s : Nat) (g : Nat → Int) : Prop := ∃ s', (s' = if n = 4 then s + 1 else s) ∧ mo_Ms G' x ∧ mo_Sg G' x s' ∧ (G'.1 = G.1 ∧ ∀ b, b ≠ x + 39 → G'.2 b = G.2 b) ∧ M' x 5 = ((mo_svq n + 1 : Nat) : Int) ∧ (∀ j, j ≠ 5 → M' x j = M x j) ∧ mo_SR M' (x + 40 + 19 * ((mo_svq n + s') % 4)) g ∧ ∀ a, a ≠ x → mo_out (x + 40 + 19 * ((mo_svq n + s') % 4)) a → M' a = M a
set_option maxHeartbeats 4000000 in
set_option maxRecDepth 100000 in
theorem ct4_save {lf : Launch} {ρf : mo_E} {G : mo_G} {M : mo_M} {t : Nat} {x : Nat} (hx : mo_Ms G x) {n s : Nat} (hg : mo_Sg G x s) (hn : n ≤ 4) (h5 : M x 5 = n) {g : Nat → Int} {B : Int} (hS : mo_SR M (x + 1) g) (hI : mo_Iv g B) : mo_Ct lf ρf yX4_save cX4_save 3 none 3 0 0 [.ref x] G M t (fun v G' M' t' => v = none ∧ t' = t ∧ mo_Sq G G' M M' x n s g) := by
  refine mo_ofW (ls0 := [some (.ref x), none, none]) (by decide) rfl (Nat.le_of_ble_eq_true rfl) ?_
  intro κ X Y
  have X : mo_Cx κ lf ρf cX4_save 3 RX4 none 3 := X
  have k74 : ∀ (G1 : mo_G) (hx : mo_Ms G1 x) (M1 : mo_M) (n1 s1 : Nat) (l1 l2 : Option Value), mo_Sg G1 x s1 → n1 = mo_svq n → n1 < 4 → (s1 = if n = 4 then s + 1 else s) → (G1.1 = G.1 ∧ ∀ b, b ≠ x + 39 → G1.2 b = G.2 b) → M1 x 5 = n1 → (∀ j, j ≠ 5 → M1 x j = M x j) → (∀ a, a ≠ x → M1 a = M a) → mo_V κ 0 0 74 [some (.ref x), l1, l2] [] G1 M1 t := by
    intro G1 hx M1 n1 s1 l1 l2 hg1 hn1 hn2 hs1 hG1 h51 hj1 ha1
    obtain ⟨q, hq⟩ : ∃ q, (n1 + s1) % 4 = q := ⟨_, rfl⟩
    have hq4 : q < 4 := by omega
    have hst : mo_St G1 (x + 40 + 19 * q) := mo_Ms_s hx hq4
    have hgq : G1.2 (x + 39) ((n1 : Int)).toNat = some (x + 40 + 19 * q) := by rw [Int.toNat_natCast, hg1 n1 hn2, hq]
    refine mo_al0 (pc := 74) X dX4_save_74 ?_
    refine mo_f_X4_37 (pc := 75) X dX4_save_75 (mo_Ms_o hx) ?_
    rw [h51]
    refine mo_if_ge (pc := 78) (tgt := 82) X dX4_save_78 (by decide) ?_ (fun c_78 => ?_) (fun c_78 => ?_)
    · omega
    · skip
      refine mo_al0 (pc := 82) X dX4_save_82 ?_
      refine mo_f_X4_19 (pc := 83) X dX4_save_83 (mo_Ms_o hx) (mo_Ms_p2 hx) ?_
      refine mo_al0 (pc := 86) X dX4_save_86 ?_
      refine mo_f_X4_37 (pc := 87) X dX4_save_87 (mo_Ms_o hx) ?_
      rw [h51]
      refine mo_aald (pc := 90) X dX4_save_90 (mo_Ms_r2 hx) (by decide) (by omega) (by omega) hgq ?_
      refine mo_as1 (pc := 91) X dX4_save_91 rfl (by decide) ?_
      refine mo_al1 (pc := 92) X dX4_save_92 ?_
      refine mo_ifnull (pc := 93) X dX4_save_93 ?_
      refine mo_al1 (pc := 96) X dX4_save_96 ?_
      refine mo_al0 (pc := 97) X dX4_save_97 ?_
      refine mo_f_X4_12 (pc := 98) X dX4_save_98 (mo_Ms_o hx) (mo_Ms_p0 hx) ?_
      refine mo_cVV (pc := 101) (As := [_]) X mo_k_X4_269 mo_y_yX2_copyFrom rfl dX4_save_101 (ct2_copyFrom hst (mo_Ms_r0 hx) (by omega) (mo_SR_fr hS (fun a a1 a2 => ha1 a (by omega))) hI) (mo_St_o hst) rfl (by decide) (by decide) (Nat.le_of_ble_eq_true rfl) ?_
      rintro M_101 ⟨s_101, f_101⟩
      refine mo_al0 (pc := 104) X dX4_save_104 ?_
      refine mo_dup (pc := 105) X dX4_save_105 rfl ?_
      refine mo_f_X4_37 (pc := 106) X dX4_save_106 (mo_Ms_o hx) ?_
      rw [f_101 _ (by omega), h51]
      refine mo_iconst (pc := 109) X dX4_save_109 ?_
      refine mo_iadd (pc := 110) X dX4_save_110 ?_
      refine mo_p_X4_37 (pc := 111) X dX4_save_111 (mo_Ms_o hx) ?_
      refine mo_vret (pc := 114) X Y rfl dX4_save_114 ⟨rfl, rfl, s1, hs1, hx, hg1, hG1, ?_, fun j hj => ?_, ?_, fun a a1 a2 => ?_⟩
      · rw [mo_ur_s, mo_up_s, hn1]; rfl
      · rw [mo_ur_s, mo_up_n hj, f_101 _ (by omega), hj1 j hj]
      · rw [← hn1, hq]
        exact mo_SR_fr s_101 fun a a1 a2 => mo_ur_n (by omega)
      · rw [← hn1, hq] at a2
        rw [mo_ur_n a1, f_101 a a2, ha1 a a1]
    · exfalso
      omega
  have lp1 : n = 4 → ∀ (z i : Nat) (v : Int) (G1 : mo_G) (hx : mo_Ms G1 x), i + z = 4 → 1 ≤ i → v = i → (G1.1 = G.1 ∧ ∀ b, b ≠ x + 39 → G1.2 b = G.2 b) → (∀ j, j < 4 → G1.2 (x + 39) j = some (x + 40 + 19 * (((if j + 1 < i then j + 1 else j) + s) % 4))) → mo_V κ 0 0 21 [some (.ref x), some (.ref (x + 40 + 19 * (s % 4))), some (mo_iv v)] [] G1 M t := by
    intro hn4 z
    induction z with
    | zero =>
      intro i v G1 hx hi hi1 hv hG1 hg1
      subst hv
      obtain rfl : i = 4 := by omega
      have hold : mo_St G1 (x + 40 + 19 * (s % 4)) := mo_Ms_s hx (by omega)
      refine mo_il2 (pc := 21) X dX4_save_21 ?_
      refine mo_al0 (pc := 22) X dX4_save_22 ?_
      refine mo_f_X4_19 (pc := 23) X dX4_save_23 (mo_Ms_o hx) (mo_Ms_p2 hx) ?_
      refine mo_alenQ (pc := 26) X dX4_save_26 (mo_Ms_r2 hx) ?_
      refine mo_ic_ge (pc := 27) (tgt := 50) X dX4_save_27 (by decide) ?_ ?_ (fun c_27 => ?_) (fun c_27 => ?_)
      · omega
      · omega
      · skip
        refine mo_al0 (pc := 50) X dX4_save_50 ?_
        refine mo_f_X4_19 (pc := 51) X dX4_save_51 (mo_Ms_o hx) (mo_Ms_p2 hx) ?_
        refine mo_al0 (pc := 54) X dX4_save_54 ?_
        refine mo_f_X4_19 (pc := 55) X dX4_save_55 (mo_Ms_o hx) (mo_Ms_p2 hx) ?_
        refine mo_alenQ (pc := 58) X dX4_save_58 (mo_Ms_r2 hx) ?_
        refine mo_iconst (pc := 59) X dX4_save_59 ?_
        refine mo_isub (pc := 60) X dX4_save_60 ?_
        refine mo_al1 (pc := 61) X dX4_save_61 ?_
        refine mo_aast (pc := 62) X dX4_save_62 (mo_Ms_r2 hx) (mo_St_o hold) (by decide) (by omega) (by omega) ?_
        have hx0 := hx
        have hx := mo_Ms_fr (G := G1) (x := x) (G' := mo_gp G1 (x + 39) (((4 : Nat) : Int) - 1).toNat (some (x + 40 + 19 * (s % 4)))) rfl (fun b hb => mo_gp_n hb) hx0
        refine mo_al0 (pc := 63) X dX4_save_63 ?_
        refine mo_al0 (pc := 64) X dX4_save_64 ?_
        refine mo_f_X4_19 (pc := 65) X dX4_save_65 (mo_Ms_o hx) (mo_Ms_p2 hx) ?_
        refine mo_alenQ (pc := 68) X dX4_save_68 (mo_Ms_r2 hx) ?_
        refine mo_iconst (pc := 69) X dX4_save_69 ?_
        refine mo_isub (pc := 70) X dX4_save_70 ?_
        refine mo_p_X4_37 (pc := 71) X dX4_save_71 (mo_Ms_o hx) ?_
        refine k74 _ hx _ 3 (s + 1) _ _ (fun j hj => ?_) (by unfold mo_svq; rw [if_pos hn4]) (by omega) (by rw [if_pos hn4]) ⟨hG1.1, fun b hb => by rw [mo_gp_n hb]; exact hG1.2 b hb⟩ ?_ (fun j hj => ?_) (fun a ha => ?_)
        · rw [mo_gp_s]
          by_cases c : j = 3
          · rw [c, show (((4 : Nat) : Int) - 1).toNat = 3 from rfl, mo_up_s, show (3 + (s + 1)) % 4 = s % 4 by omega]
          · rw [show (((4 : Nat) : Int) - 1).toNat = 3 from rfl, mo_up_n c, hg1 j hj, if_pos (by omega), show (j + 1 + s) % 4 = (j + (s + 1)) % 4 by omega]
        · rw [mo_ur_s, mo_up_s]; rfl
        · rw [mo_ur_s, mo_up_n hj]
        · rw [mo_ur_n ha]
      · exfalso
        omega
    | succ z ih =>
      intro i v G1 hx hi hi1 hv hG1 hg1
      subst hv
      have hold : mo_St G1 (x + 40 + 19 * (s % 4)) := mo_Ms_s hx (by omega)
      have hgi : G1.2 (x + 39) ((i : Int)).toNat = some (x + 40 + 19 * ((i + s) % 4)) := by rw [Int.toNat_natCast, hg1 i (by omega), if_neg (by omega)]
      have hsi : mo_St G1 (x + 40 + 19 * ((i + s) % 4)) := mo_Ms_s hx (by omega)
      refine mo_il2 (pc := 21) X dX4_save_21 ?_
      refine mo_al0 (pc := 22) X dX4_save_22 ?_
      refine mo_f_X4_19 (pc := 23) X dX4_save_23 (mo_Ms_o hx) (mo_Ms_p2 hx) ?_
      refine mo_alenQ (pc := 26) X dX4_save_26 (mo_Ms_r2 hx) ?_
      refine mo_ic_ge (pc := 27) (tgt := 50) X dX4_save_27 (by decide) ?_ ?_ (fun c_27 => ?_) (fun c_27 => ?_)
      · omega
      · omega
      · exfalso
        omega
      · skip
        refine mo_al0 (pc := 30) X dX4_save_30 ?_
        refine mo_f_X4_19 (pc := 31) X dX4_save_31 (mo_Ms_o hx) (mo_Ms_p2 hx) ?_
        refine mo_il2 (pc := 34) X dX4_save_34 ?_
        refine mo_iconst (pc := 35) X dX4_save_35 ?_
        refine mo_isub (pc := 36) X dX4_save_36 ?_
        refine mo_al0 (pc := 37) X dX4_save_37 ?_
        refine mo_f_X4_19 (pc := 38) X dX4_save_38 (mo_Ms_o hx) (mo_Ms_p2 hx) ?_
        refine mo_il2 (pc := 41) X dX4_save_41 ?_
        refine mo_aald (pc := 42) X dX4_save_42 (mo_Ms_r2 hx) (by decide) (by omega) (by omega) hgi ?_
        refine mo_aast (pc := 43) X dX4_save_43 (mo_Ms_r2 hx) (mo_St_o hsi) (by decide) (by omega) (by omega) ?_
        have hx0 := hx
        have hx := mo_Ms_fr (G := G1) (x := x) (G' := mo_gp G1 (x + 39) (((i : Nat) : Int) - 1).toNat (some (x + 40 + 19 * ((i + s) % 4)))) rfl (fun b hb => mo_gp_n hb) hx0
        refine mo_ii2 (pc := 44) X dX4_save_44 rfl (by decide) ?_
        refine mo_goto (pc := 47) (tgt := 21) X dX4_save_47 (by decide) ?_
        refine ih (i + 1) _ _ hx (by omega) (by omega) (by omega) ⟨hG1.1, fun b hb => by rw [mo_gp_n hb]; exact hG1.2 b hb⟩ fun j hj => ?_
        rw [mo_gp_s, show (((i : Nat) : Int) - 1).toNat = i - 1 by omega]
        by_cases c : j = i - 1
        · rw [c, mo_up_s, if_pos (by omega), show i - 1 + 1 = i by omega]
        · rw [mo_up_n c, hg1 j hj]
          by_cases d : j + 1 < i
          · rw [if_pos d, if_pos (by omega)]
          · rw [if_neg d, if_neg (by omega)]
  have hst0 : mo_St G (x + 40 + 19 * (s % 4)) := mo_Ms_s hx (by omega)
  have hg0 : G.2 (x + 39) ((0 : Int)).toNat = some (x + 40 + 19 * (s % 4)) := by rw [show ((0 : Int)).toNat = 0 from rfl, hg 0 (by omega), Nat.zero_add]
  refine mo_al0 (pc := 0) X dX4_save_0 ?_
  refine mo_f_X4_37 (pc := 1) X dX4_save_1 (mo_Ms_o hx) ?_
  rw [h5]
  refine mo_al0 (pc := 4) X dX4_save_4 ?_
  refine mo_f_X4_19 (pc := 5) X dX4_save_5 (mo_Ms_o hx) (mo_Ms_p2 hx) ?_
  refine mo_alenQ (pc := 8) X dX4_save_8 (mo_Ms_r2 hx) ?_
  refine mo_ic_lt (pc := 9) (tgt := 74) X dX4_save_9 (by decide) ?_ ?_ (fun c_9 => ?_) (fun c_9 => ?_)
  · omega
  · omega
  · skip
    exact k74 G hx M n s _ _ hg (by unfold mo_svq; rw [if_neg (by omega)]) (by omega) (by rw [if_neg (by omega)]) ⟨rfl, fun b hb => rfl⟩ h5 (fun j hj => rfl) (fun a ha => rfl)
  · skip
    refine mo_al0 (pc := 12) X dX4_save_12 ?_
    refine mo_f_X4_19 (pc := 13) X dX4_save_13 (mo_Ms_o hx) (mo_Ms_p2 hx) ?_
    refine mo_iconst (pc := 16) X dX4_save_16 ?_
    refine mo_aald (pc := 17) X dX4_save_17 (mo_Ms_r2 hx) (by decide) (by omega) (by omega) hg0 ?_
    refine mo_as1 (pc := 18) X dX4_save_18 rfl (by decide) ?_
    refine mo_iconst (pc := 19) X dX4_save_19 ?_
    refine mo_is2 (pc := 20) X dX4_save_20 rfl (by decide) ?_
    refine lp1 (by omega) 3 1 1 G hx rfl (by omega) rfl ⟨rfl, fun b hb => rfl⟩ fun j hj => ?_
    rw [hg j hj]
    by_cases d : j + 1 < 1
    · omega
    · rw [if_neg d]
