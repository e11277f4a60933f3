theorem mo_p32 {g : Nat → Int} {B : Int} (h : mo_Iv g B) : (2 : Int) ^ (g 6).toNat ≤ 32 := by
  have h6 := h.2.2.2.2.2.2.1
  obtain ⟨q, hq⟩ : ∃ q, (g 6).toNat = q := ⟨_, rfl⟩
  have hq5 : q ≤ 5 := by omega
  rw [hq]
  rcases (show q = 0 ∨ q = 1 ∨ q = 2 ∨ q = 3 ∨ q = 4 ∨ q = 5 by omega) with rfl | rfl | rfl | rfl | rfl | rfl <;> decide
set_option maxHeartbeats 1000000 in
theorem lj_addOrder {G : mo_G} {M : mo_M} {t x m ou n sv s : Nat} {B : Int} {A0 A1 : Int} {G1 : mo_G} {M1 : mo_M} {t1 : Nat} {k : Int} {g T : Nat → Int} {S : Nat → Nat → Int} (L : mo_LI G M x m ou n sv s B) (hg : g = M (m + 1)) (hT : T = M (m + 8)) (hS : S = fun i k => M (m + 2) (640 * i + k)) (hk : (k = 0 ∧ ∃ Mo, (fun u G' M' t' => (G'.1 = G.1 ∧ ∀ b, b ≠ x + 39 → G'.2 b = G.2 b) ∧ t' = t ∧ ((0 ≤ A0 ∧ A0 ≤ 7) ∧ (0 ≤ A1 ∧ A1 < 2 ^ (g 6).toNat)) ∧ (g 4 < 8) ∧ u = some (mo_iv (g 4)) ∧ (∀ a, mo_oz x a → M' a = M a) ∧ ∃ s', mo_CI G' M' x (mo_gAO g A0 A1) n T (mo_svq sv + 1) (mo_Sn sv g S) s') (some (mo_iv (g 4))) G1 Mo t1 ∧ M1 = mo_ur Mo ou (va_up (Mo ou) 0 ((g 4).bmod (2 ^ 32)))) ∨ ∃ E, (fun E G' M' t' => G' = G ∧ (M' = M) ∧ t ≤ t' ∧ ((E = mo_IAE ∧ ¬ ((0 ≤ A0 ∧ A0 ≤ 7) ∧ (0 ≤ A1 ∧ A1 < 2 ^ (g 6).toNat))) ∨ (E = mo_ISE ∧ ((0 ≤ A0 ∧ A0 ≤ 7) ∧ (0 ≤ A1 ∧ A1 < 2 ^ (g 6).toNat)) ∧ ¬ (g 4 < 8)))) E G1 M1 t1 ∧ ((E = mo_IAE ∧ k = 1) ∨ (E = mo_ISE ∧ k = 2))) : mo_L1 G G1 M M1 x ou ∧ ∀ (b : Int) (M2 : mo_M), (fun x M' => (¬ ((0 ≤ A0 ∧ A0 ≤ 7) ∧ (0 ≤ A1 ∧ A1 < 2 ^ (M1 (m + 1) 6).toNat)) ∧ x = 0 ∧ mo_Qr M1 M' m 1) ∨ (((0 ≤ A0 ∧ A0 ≤ 7) ∧ (0 ≤ A1 ∧ A1 < 2 ^ (M1 (m + 1) 6).toNat)) ∧ ¬ (M1 (m + 1) 4 < 8) ∧ x = 0 ∧ mo_Qr M1 M' m 2) ∨ (((0 ≤ A0 ∧ A0 ≤ 7) ∧ (0 ≤ A1 ∧ A1 < 2 ^ (M1 (m + 1) 6).toNat)) ∧ (M1 (m + 1) 4 < 8) ∧ x = M1 (m + 1) 4 ∧ mo_Ur M1 M' m sv (mo_gAO (M1 (m + 1)) A0 A1))) b M2 → mo_L2 G1 M2 x m ou (B + 4000) k b := by
  obtain ⟨L1, L2, L3, L4, L5, L6, L7, L8, L9, L10, L11, L12⟩ := id L
  obtain ⟨hI0, hI1, hI2, hI3, hI4, hI5, hI6, hI7, -⟩ := id L8
  subst hg hT hS
  rcases hk with ⟨hk0, Mo, hp, hM1⟩ | ⟨E, hp, hE⟩
  · obtain ⟨hgeo, ht1, c1, c2, -, hfr, s1, hci⟩ := hp
    have hL1 : mo_L1 G G1 M M1 x ou := ⟨hgeo, fun a h1 h2 => by rw [hM1, mo_ur_n h2]; exact hfr a h1⟩
    have hCI := mo_CI_ou (ou := ou) (f := va_up (Mo ou) 0 (((M (m + 1)) 4).bmod (2 ^ 32))) hci (by omega)
    rw [← hM1] at hCI
    refine ⟨hL1, fun b M2 hb => ?_⟩
    have e1 : M1 (m + 1) = M (m + 1) := hL1.2 (m + 1) (by omega) (by omega)
    rw [e1] at hb
    rcases hb with ⟨np1, hb1, hb2⟩ | ⟨p1, np2, hb1, hb2⟩ | ⟨p1, p2, hb1, hb2⟩
    · exact absurd c1 np1
    · exact absurd c2 np2
    · exact mo_endU L hL1 hCI (mo_Iv_mono (mo_Iv_AO c2 c1.1 ⟨c1.2.1, by have := mo_p32 L8; omega⟩ L8) (by omega)) hb2 hk0 (by rw [hM1, mo_ur_s, mo_up_s, hb1])
  · obtain ⟨hG1, hMM, ht1, hd⟩ := hp
    have hL1 : mo_L1 G G1 M M1 x ou := ⟨⟨by rw [hG1], fun b hb => by rw [hG1]⟩, fun a h1 h2 => by rw [hMM]⟩
    have hCI : mo_CI G1 M1 x (M (m + 1)) n (M (m + 8)) sv (fun i k => M (m + 2) (640 * i + k)) s := by rw [hMM, hG1]; exact L3
    rcases hd with ⟨d1, nd1⟩ | ⟨d2, c1, nd2⟩
    · rcases hE with ⟨f1, hk0⟩ | ⟨f2, hk0⟩
      · skip
        refine ⟨hL1, fun b M2 hb => ?_⟩
        have e1 : M1 (m + 1) = M (m + 1) := hL1.2 (m + 1) (by omega) (by omega)
        rw [e1] at hb
        rcases hb with ⟨np1, hb1, hb2⟩ | ⟨p1, np2, hb1, hb2⟩ | ⟨p1, p2, hb1, hb2⟩
        · exact mo_endQ L hL1 hCI hb2 hk0 (by omega) (fun h => by omega)
        · exact absurd p1 nd1
        · exact absurd p1 nd1
      · exact absurd (d1.symm.trans f2) mo_neAT
    · rcases hE with ⟨f1, hk0⟩ | ⟨f2, hk0⟩
      · exact absurd (d2.symm.trans f1) mo_neAT.symm
      · skip
        refine ⟨hL1, fun b M2 hb => ?_⟩
        have e1 : M1 (m + 1) = M (m + 1) := hL1.2 (m + 1) (by omega) (by omega)
        rw [e1] at hb
        rcases hb with ⟨np1, hb1, hb2⟩ | ⟨p1, np2, hb1, hb2⟩ | ⟨p1, p2, hb1, hb2⟩
        · exact absurd c1 np1
        · exact mo_endQ L hL1 hCI hb2 hk0 (by omega) (fun h => by omega)
        · exact absurd p2 nd2
set_option maxHeartbeats 1000000 in
theorem lj_change {G : mo_G} {M : mo_M} {t x m ou n sv s : Nat} {B : Int} {A0 A1 A2 : Int} {G1 : mo_G} {M1 : mo_M} {t1 : Nat} {k : Int} {g T : Nat → Int} {S : Nat → Nat → Int} (L : mo_LI G M x m ou n sv s B) (hg : g = M (m + 1)) (hT : T = M (m + 8)) (hS : S = fun i k => M (m + 2) (640 * i + k)) (hk : (k = 0 ∧ ∃ Mo, (fun u G' M' t' => (G'.1 = G.1 ∧ ∀ b, b ≠ x + 39 → G'.2 b = G.2 b) ∧ t' = t ∧ (0 ≤ A0 ∧ A0 < g 4) ∧ ((g 0 ≤ A1 ∧ A1 ≤ 19) ∧ (0 ≤ A2 ∧ A2 ≤ 7)) ∧ u = some (mo_iv (g (8 + 20 * A0.toNat + A1.toNat))) ∧ (∀ a, mo_oz x a → M' a = M a) ∧ ∃ s', mo_CI G' M' x (mo_gCH g A0.toNat A1.toNat A2) n T (mo_svq sv + 1) (mo_Sn sv g S) s') (some (mo_iv (g (8 + 20 * A0.toNat + A1.toNat)))) G1 Mo t1 ∧ M1 = mo_ur Mo ou (va_up (Mo ou) 0 ((g (8 + 20 * A0.toNat + A1.toNat)).bmod (2 ^ 32)))) ∨ ∃ E, (fun E G' M' t' => G' = G ∧ (M' = M) ∧ t ≤ t' ∧ ((E = mo_IOE ∧ ¬ (0 ≤ A0 ∧ A0 < g 4)) ∨ (E = mo_IAE ∧ (0 ≤ A0 ∧ A0 < g 4) ∧ ¬ ((g 0 ≤ A1 ∧ A1 ≤ 19) ∧ (0 ≤ A2 ∧ A2 ≤ 7))))) E G1 M1 t1 ∧ ((E = mo_IOE ∧ k = 1) ∨ (E = mo_IAE ∧ k = 2))) : mo_L1 G G1 M M1 x ou ∧ ∀ (b : Int) (M2 : mo_M), (fun x M' => (¬ (0 ≤ A0 ∧ A0 < M1 (m + 1) 4) ∧ x = 0 ∧ mo_Qr M1 M' m 1) ∨ ((0 ≤ A0 ∧ A0 < M1 (m + 1) 4) ∧ ¬ ((M1 (m + 1) 0 ≤ A1 ∧ A1 ≤ 19) ∧ (0 ≤ A2 ∧ A2 ≤ 7)) ∧ x = 0 ∧ mo_Qr M1 M' m 2) ∨ ((0 ≤ A0 ∧ A0 < M1 (m + 1) 4) ∧ ((M1 (m + 1) 0 ≤ A1 ∧ A1 ≤ 19) ∧ (0 ≤ A2 ∧ A2 ≤ 7)) ∧ x = M1 (m + 1) (8 + 20 * A0.toNat + A1.toNat) ∧ mo_Ur M1 M' m sv (mo_gCH (M1 (m + 1)) A0.toNat A1.toNat A2))) b M2 → mo_L2 G1 M2 x m ou (B + 4000) k b := by
  obtain ⟨L1, L2, L3, L4, L5, L6, L7, L8, L9, L10, L11, L12⟩ := id L
  obtain ⟨hI0, hI1, hI2, hI3, hI4, hI5, hI6, hI7, -⟩ := id L8
  subst hg hT hS
  rcases hk with ⟨hk0, Mo, hp, hM1⟩ | ⟨E, hp, hE⟩
  · obtain ⟨hgeo, ht1, c1, c2, -, hfr, s1, hci⟩ := hp
    have hL1 : mo_L1 G G1 M M1 x ou := ⟨hgeo, fun a h1 h2 => by rw [hM1, mo_ur_n h2]; exact hfr a h1⟩
    have hCI := mo_CI_ou (ou := ou) (f := va_up (Mo ou) 0 (((M (m + 1)) (8 + 20 * A0.toNat + A1.toNat)).bmod (2 ^ 32))) hci (by omega)
    rw [← hM1] at hCI
    refine ⟨hL1, fun b M2 hb => ?_⟩
    have e1 : M1 (m + 1) = M (m + 1) := hL1.2 (m + 1) (by omega) (by omega)
    rw [e1] at hb
    rcases hb with ⟨np1, hb1, hb2⟩ | ⟨p1, np2, hb1, hb2⟩ | ⟨p1, p2, hb1, hb2⟩
    · exact absurd c1 np1
    · exact absurd c2 np2
    · exact mo_endU L hL1 hCI (mo_Iv_mono (mo_Iv_CH L8 (o := A0.toNat) (by omega) c2.2) (by omega)) hb2 hk0 (by rw [hM1, mo_ur_s, mo_up_s, hb1])
  · obtain ⟨hG1, hMM, ht1, hd⟩ := hp
    have hL1 : mo_L1 G G1 M M1 x ou := ⟨⟨by rw [hG1], fun b hb => by rw [hG1]⟩, fun a h1 h2 => by rw [hMM]⟩
    have hCI : mo_CI G1 M1 x (M (m + 1)) n (M (m + 8)) sv (fun i k => M (m + 2) (640 * i + k)) s := by rw [hMM, hG1]; exact L3
    rcases hd with ⟨d1, nd1⟩ | ⟨d2, c1, nd2⟩
    · rcases hE with ⟨f1, hk0⟩ | ⟨f2, hk0⟩
      · skip
        refine ⟨hL1, fun b M2 hb => ?_⟩
        have e1 : M1 (m + 1) = M (m + 1) := hL1.2 (m + 1) (by omega) (by omega)
        rw [e1] at hb
        rcases hb with ⟨np1, hb1, hb2⟩ | ⟨p1, np2, hb1, hb2⟩ | ⟨p1, p2, hb1, hb2⟩
        · exact mo_endQ L hL1 hCI hb2 hk0 (by omega) (fun h => by omega)
        · exact absurd p1 nd1
        · exact absurd p1 nd1
      · exact absurd (d1.symm.trans f2) mo_neIA
    · rcases hE with ⟨f1, hk0⟩ | ⟨f2, hk0⟩
      · exact absurd (d2.symm.trans f1) mo_neIA.symm
      · skip
        refine ⟨hL1, fun b M2 hb => ?_⟩
        have e1 : M1 (m + 1) = M (m + 1) := hL1.2 (m + 1) (by omega) (by omega)
        rw [e1] at hb
        rcases hb with ⟨np1, hb1, hb2⟩ | ⟨p1, np2, hb1, hb2⟩ | ⟨p1, p2, hb1, hb2⟩
        · exact absurd c1 np1
        · exact mo_endQ L hL1 hCI hb2 hk0 (by omega) (fun h => by omega)
        · exact absurd p2 nd2
set_option maxHeartbeats 1000000 in
theorem lj_allow {G : mo_G} {M : mo_M} {t x m ou n sv s : Nat} {B : Int} {A0 A1 : Int} {G1 : mo_G} {M1 : mo_M} {t1 : Nat} {k : Int} {g T : Nat → Int} {S : Nat → Nat → Int} (L : mo_LI G M x m ou n sv s B) (hg : g = M (m + 1)) (hT : T = M (m + 8)) (hS : S = fun i k => M (m + 2) (640 * i + k)) (hk : (k = 0 ∧ ∃ Mo, (fun u G' M' t' => (G'.1 = G.1 ∧ ∀ b, b ≠ x + 39 → G'.2 b = G.2 b) ∧ t' = t ∧ (0 ≤ A0 ∧ A0 < g 4) ∧ (0 ≤ A1 ∧ A1 < 2 ^ (g 6).toNat) ∧ u = some (mo_iv (g (168 + A0.toNat))) ∧ (∀ a, mo_oz x a → M' a = M a) ∧ ∃ s', mo_CI G' M' x (va_up g (168 + A0.toNat) A1) n T (mo_svq sv + 1) (mo_Sn sv g S) s') (some (mo_iv (g (168 + A0.toNat)))) G1 Mo t1 ∧ M1 = mo_ur Mo ou (va_up (Mo ou) 0 ((g (168 + A0.toNat)).bmod (2 ^ 32)))) ∨ ∃ E, (fun E G' M' t' => G' = G ∧ (M' = M) ∧ t ≤ t' ∧ ((E = mo_IOE ∧ ¬ (0 ≤ A0 ∧ A0 < g 4)) ∨ (E = mo_IAE ∧ (0 ≤ A0 ∧ A0 < g 4) ∧ ¬ (0 ≤ A1 ∧ A1 < 2 ^ (g 6).toNat)))) E G1 M1 t1 ∧ ((E = mo_IOE ∧ k = 1) ∨ (E = mo_IAE ∧ k = 2))) : mo_L1 G G1 M M1 x ou ∧ ∀ (b : Int) (M2 : mo_M), (fun x M' => (¬ (0 ≤ A0 ∧ A0 < M1 (m + 1) 4) ∧ x = 0 ∧ mo_Qr M1 M' m 1) ∨ ((0 ≤ A0 ∧ A0 < M1 (m + 1) 4) ∧ ¬ (0 ≤ A1 ∧ A1 < 2 ^ (M1 (m + 1) 6).toNat) ∧ x = 0 ∧ mo_Qr M1 M' m 2) ∨ ((0 ≤ A0 ∧ A0 < M1 (m + 1) 4) ∧ (0 ≤ A1 ∧ A1 < 2 ^ (M1 (m + 1) 6).toNat) ∧ x = M1 (m + 1) (168 + A0.toNat) ∧ mo_Ur M1 M' m sv (va_up (M1 (m + 1)) (168 + A0.toNat) A1))) b M2 → mo_L2 G1 M2 x m ou (B + 4000) k b := by
  obtain ⟨L1, L2, L3, L4, L5, L6, L7, L8, L9, L10, L11, L12⟩ := id L
  obtain ⟨hI0, hI1, hI2, hI3, hI4, hI5, hI6, hI7, -⟩ := id L8
  subst hg hT hS
  rcases hk with ⟨hk0, Mo, hp, hM1⟩ | ⟨E, hp, hE⟩
  · obtain ⟨hgeo, ht1, c1, c2, -, hfr, s1, hci⟩ := hp
    have hL1 : mo_L1 G G1 M M1 x ou := ⟨hgeo, fun a h1 h2 => by rw [hM1, mo_ur_n h2]; exact hfr a h1⟩
    have hCI := mo_CI_ou (ou := ou) (f := va_up (Mo ou) 0 (((M (m + 1)) (168 + A0.toNat)).bmod (2 ^ 32))) hci (by omega)
    rw [← hM1] at hCI
    refine ⟨hL1, fun b M2 hb => ?_⟩
    have e1 : M1 (m + 1) = M (m + 1) := hL1.2 (m + 1) (by omega) (by omega)
    rw [e1] at hb
    rcases hb with ⟨np1, hb1, hb2⟩ | ⟨p1, np2, hb1, hb2⟩ | ⟨p1, p2, hb1, hb2⟩
    · exact absurd c1 np1
    · exact absurd c2 np2
    · exact mo_endU L hL1 hCI (mo_Iv_mono (mo_Iv_u168 (by omega) ⟨c2.1, by have := mo_p32 L8; omega⟩ L8) (by omega)) hb2 hk0 (by rw [hM1, mo_ur_s, mo_up_s, hb1])
  · obtain ⟨hG1, hMM, ht1, hd⟩ := hp
    have hL1 : mo_L1 G G1 M M1 x ou := ⟨⟨by rw [hG1], fun b hb => by rw [hG1]⟩, fun a h1 h2 => by rw [hMM]⟩
    have hCI : mo_CI G1 M1 x (M (m + 1)) n (M (m + 8)) sv (fun i k => M (m + 2) (640 * i + k)) s := by rw [hMM, hG1]; exact L3
    rcases hd with ⟨d1, nd1⟩ | ⟨d2, c1, nd2⟩
    · rcases hE with ⟨f1, hk0⟩ | ⟨f2, hk0⟩
      · skip
        refine ⟨hL1, fun b M2 hb => ?_⟩
        have e1 : M1 (m + 1) = M (m + 1) := hL1.2 (m + 1) (by omega) (by omega)
        rw [e1] at hb
        rcases hb with ⟨np1, hb1, hb2⟩ | ⟨p1, np2, hb1, hb2⟩ | ⟨p1, p2, hb1, hb2⟩
        · exact mo_endQ L hL1 hCI hb2 hk0 (by omega) (fun h => by omega)
        · exact absurd p1 nd1
        · exact absurd p1 nd1
      · exact absurd (d1.symm.trans f2) mo_neIA
    · rcases hE with ⟨f1, hk0⟩ | ⟨f2, hk0⟩
      · exact absurd (d2.symm.trans f1) mo_neIA.symm
      · skip
        refine ⟨hL1, fun b M2 hb => ?_⟩
        have e1 : M1 (m + 1) = M (m + 1) := hL1.2 (m + 1) (by omega) (by omega)
        rw [e1] at hb
        rcases hb with ⟨np1, hb1, hb2⟩ | ⟨p1, np2, hb1, hb2⟩ | ⟨p1, p2, hb1, hb2⟩
        · exact absurd c1 np1
        · exact mo_endQ L hL1 hCI hb2 hk0 (by omega) (fun h => by omega)
        · exact absurd p2 nd2
set_option maxHeartbeats 1000000 in
theorem lj_addEscort {G : mo_G} {M : mo_M} {t x m ou n sv s : Nat} {B : Int} {A0 A1 : Int} {G1 : mo_G} {M1 : mo_M} {t1 : Nat} {k : Int} {g T : Nat → Int} {S : Nat → Nat → Int} (L : mo_LI G M x m ou n sv s B) (hg : g = M (m + 1)) (hT : T = M (m + 8)) (hS : S = fun i k => M (m + 2) (640 * i + k)) (hk : (k = 0 ∧ ∃ Mo, (fun u G' M' t' => (G'.1 = G.1 ∧ ∀ b, b ≠ x + 39 → G'.2 b = G.2 b) ∧ t' = t ∧ ((0 ≤ A0 ∧ A0 ≤ 268435455) ∧ (1 ≤ A1 ∧ A1 ≤ 20)) ∧ (g 5 < 6) ∧ u = some (mo_iv (g 5)) ∧ (∀ a, mo_oz x a → M' a = M a) ∧ ∃ s', mo_CI G' M' x (mo_gAE g A0 A1) n T (mo_svq sv + 1) (mo_Sn sv g S) s') (some (mo_iv (g 5))) G1 Mo t1 ∧ M1 = mo_ur Mo ou (va_up (Mo ou) 0 ((g 5).bmod (2 ^ 32)))) ∨ ∃ E, (fun E G' M' t' => G' = G ∧ M' = M ∧ t ≤ t' ∧ ((E = mo_IAE ∧ ¬ ((0 ≤ A0 ∧ A0 ≤ 268435455) ∧ (1 ≤ A1 ∧ A1 ≤ 20))) ∨ (E = mo_ISE ∧ ((0 ≤ A0 ∧ A0 ≤ 268435455) ∧ (1 ≤ A1 ∧ A1 ≤ 20)) ∧ ¬ (g 5 < 6)))) E G1 M1 t1 ∧ ((E = mo_IAE ∧ k = 1) ∨ (E = mo_ISE ∧ k = 2))) : mo_L1 G G1 M M1 x ou ∧ ∀ (b : Int) (M2 : mo_M), (fun x M' => (¬ ((0 ≤ A0 ∧ A0 ≤ 268435455) ∧ (1 ≤ A1 ∧ A1 ≤ 20)) ∧ x = 0 ∧ mo_Qr M1 M' m 1) ∨ (((0 ≤ A0 ∧ A0 ≤ 268435455) ∧ (1 ≤ A1 ∧ A1 ≤ 20)) ∧ ¬ (M1 (m + 1) 5 < 6) ∧ x = 0 ∧ mo_Qr M1 M' m 2) ∨ (((0 ≤ A0 ∧ A0 ≤ 268435455) ∧ (1 ≤ A1 ∧ A1 ≤ 20)) ∧ (M1 (m + 1) 5 < 6) ∧ x = M1 (m + 1) 5 ∧ mo_Ur M1 M' m sv (mo_gAE (M1 (m + 1)) A0 A1))) b M2 → mo_L2 G1 M2 x m ou (B + 4000) k b := by
  obtain ⟨L1, L2, L3, L4, L5, L6, L7, L8, L9, L10, L11, L12⟩ := id L
  obtain ⟨hI0, hI1, hI2, hI3, hI4, hI5, hI6, hI7, -⟩ := id L8
  subst hg hT hS
  rcases hk with ⟨hk0, Mo, hp, hM1⟩ | ⟨E, hp, hE⟩
  · obtain ⟨hgeo, ht1, c1, c2, -, hfr, s1, hci⟩ := hp
    have hL1 : mo_L1 G G1 M M1 x ou := ⟨hgeo, fun a h1 h2 => by rw [hM1, mo_ur_n h2]; exact hfr a h1⟩
    have hCI := mo_CI_ou (ou := ou) (f := va_up (Mo ou) 0 (((M (m + 1)) 5).bmod (2 ^ 32))) hci (by omega)
    rw [← hM1] at hCI
    refine ⟨hL1, fun b M2 hb => ?_⟩
    have e1 : M1 (m + 1) = M (m + 1) := hL1.2 (m + 1) (by omega) (by omega)
    rw [e1] at hb
    rcases hb with ⟨np1, hb1, hb2⟩ | ⟨p1, np2, hb1, hb2⟩ | ⟨p1, p2, hb1, hb2⟩
    · exact absurd c1 np1
    · exact absurd c2 np2
    · exact mo_endU L hL1 hCI (mo_Iv_mono (mo_Iv_AE c2 ⟨by omega, by omega⟩ ⟨by omega, by omega⟩ L8) (by omega)) hb2 hk0 (by rw [hM1, mo_ur_s, mo_up_s, hb1])
  · obtain ⟨hG1, hMM, ht1, hd⟩ := hp
    have hL1 : mo_L1 G G1 M M1 x ou := ⟨⟨by rw [hG1], fun b hb => by rw [hG1]⟩, fun a h1 h2 => by rw [hMM]⟩
    have hCI : mo_CI G1 M1 x (M (m + 1)) n (M (m + 8)) sv (fun i k => M (m + 2) (640 * i + k)) s := by rw [hMM, hG1]; exact L3
    rcases hd with ⟨d1, nd1⟩ | ⟨d2, c1, nd2⟩
    · rcases hE with ⟨f1, hk0⟩ | ⟨f2, hk0⟩
      · skip
        refine ⟨hL1, fun b M2 hb => ?_⟩
        have e1 : M1 (m + 1) = M (m + 1) := hL1.2 (m + 1) (by omega) (by omega)
        rw [e1] at hb
        rcases hb with ⟨np1, hb1, hb2⟩ | ⟨p1, np2, hb1, hb2⟩ | ⟨p1, p2, hb1, hb2⟩
        · exact mo_endQ L hL1 hCI hb2 hk0 (by omega) (fun h => by omega)
        · exact absurd p1 nd1
        · exact absurd p1 nd1
      · exact absurd (d1.symm.trans f2) mo_neAT
    · rcases hE with ⟨f1, hk0⟩ | ⟨f2, hk0⟩
      · exact absurd (d2.symm.trans f1) mo_neAT.symm
      · skip
        refine ⟨hL1, fun b M2 hb => ?_⟩
        have e1 : M1 (m + 1) = M (m + 1) := hL1.2 (m + 1) (by omega) (by omega)
        rw [e1] at hb
        rcases hb with ⟨np1, hb1, hb2⟩ | ⟨p1, np2, hb1, hb2⟩ | ⟨p1, p2, hb1, hb2⟩
        · exact absurd c1 np1
        · exact mo_endQ L hL1 hCI hb2 hk0 (by omega) (fun h => by omega)
        · exact absurd p2 nd2
set_option maxHeartbeats 1000000 in
theorem lj_setSlots {G : mo_G} {M : mo_M} {t x m ou n sv s : Nat} {B : Int} {A0 A1 : Int} {G1 : mo_G} {M1 : mo_M} {t1 : Nat} {k : Int} {g T : Nat → Int} {S : Nat → Nat → Int} (L : mo_LI G M x m ou n sv s B) (hg : g = M (m + 1)) (hT : T = M (m + 8)) (hS : S = fun i k => M (m + 2) (640 * i + k)) (hk : (k = 0 ∧ ∃ Mo, (fun u G' M' t' => (G'.1 = G.1 ∧ ∀ b, b ≠ x + 39 → G'.2 b = G.2 b) ∧ t' = t ∧ (0 ≤ A0 ∧ A0 < g 5) ∧ (0 ≤ A1 ∧ A1 ≤ 268435455) ∧ u = some (mo_iv (g (192 + A0.toNat))) ∧ (∀ a, mo_oz x a → M' a = M a) ∧ ∃ s', mo_CI G' M' x (va_up g (192 + A0.toNat) A1) n T (mo_svq sv + 1) (mo_Sn sv g S) s') (some (mo_iv (g (192 + A0.toNat)))) G1 Mo t1 ∧ M1 = mo_ur Mo ou (va_up (Mo ou) 0 ((g (192 + A0.toNat)).bmod (2 ^ 32)))) ∨ ∃ E, (fun E G' M' t' => G' = G ∧ M' = M ∧ t ≤ t' ∧ ((E = mo_IOE ∧ ¬ (0 ≤ A0 ∧ A0 < g 5)) ∨ (E = mo_IAE ∧ (0 ≤ A0 ∧ A0 < g 5) ∧ ¬ (0 ≤ A1 ∧ A1 ≤ 268435455)))) E G1 M1 t1 ∧ ((E = mo_IOE ∧ k = 1) ∨ (E = mo_IAE ∧ k = 2))) : mo_L1 G G1 M M1 x ou ∧ ∀ (b : Int) (M2 : mo_M), (fun x M' => (¬ (0 ≤ A0 ∧ A0 < M1 (m + 1) 5) ∧ x = 0 ∧ mo_Qr M1 M' m 1) ∨ ((0 ≤ A0 ∧ A0 < M1 (m + 1) 5) ∧ ¬ (0 ≤ A1 ∧ A1 ≤ 268435455) ∧ x = 0 ∧ mo_Qr M1 M' m 2) ∨ ((0 ≤ A0 ∧ A0 < M1 (m + 1) 5) ∧ (0 ≤ A1 ∧ A1 ≤ 268435455) ∧ x = M1 (m + 1) (192 + A0.toNat) ∧ mo_Ur M1 M' m sv (va_up (M1 (m + 1)) (192 + A0.toNat) A1))) b M2 → mo_L2 G1 M2 x m ou (B + 4000) k b := by
  obtain ⟨L1, L2, L3, L4, L5, L6, L7, L8, L9, L10, L11, L12⟩ := id L
  obtain ⟨hI0, hI1, hI2, hI3, hI4, hI5, hI6, hI7, -⟩ := id L8
  subst hg hT hS
  rcases hk with ⟨hk0, Mo, hp, hM1⟩ | ⟨E, hp, hE⟩
  · obtain ⟨hgeo, ht1, c1, c2, -, hfr, s1, hci⟩ := hp
    have hL1 : mo_L1 G G1 M M1 x ou := ⟨hgeo, fun a h1 h2 => by rw [hM1, mo_ur_n h2]; exact hfr a h1⟩
    have hCI := mo_CI_ou (ou := ou) (f := va_up (Mo ou) 0 (((M (m + 1)) (192 + A0.toNat)).bmod (2 ^ 32))) hci (by omega)
    rw [← hM1] at hCI
    refine ⟨hL1, fun b M2 hb => ?_⟩
    have e1 : M1 (m + 1) = M (m + 1) := hL1.2 (m + 1) (by omega) (by omega)
    rw [e1] at hb
    rcases hb with ⟨np1, hb1, hb2⟩ | ⟨p1, np2, hb1, hb2⟩ | ⟨p1, p2, hb1, hb2⟩
    · exact absurd c1 np1
    · exact absurd c2 np2
    · exact mo_endU L hL1 hCI (mo_Iv_mono (mo_Iv_u192 (by omega) ⟨by omega, by omega⟩ L8) (by omega)) hb2 hk0 (by rw [hM1, mo_ur_s, mo_up_s, hb1])
  · obtain ⟨hG1, hMM, ht1, hd⟩ := hp
    have hL1 : mo_L1 G G1 M M1 x ou := ⟨⟨by rw [hG1], fun b hb => by rw [hG1]⟩, fun a h1 h2 => by rw [hMM]⟩
    have hCI : mo_CI G1 M1 x (M (m + 1)) n (M (m + 8)) sv (fun i k => M (m + 2) (640 * i + k)) s := by rw [hMM, hG1]; exact L3
    rcases hd with ⟨d1, nd1⟩ | ⟨d2, c1, nd2⟩
    · rcases hE with ⟨f1, hk0⟩ | ⟨f2, hk0⟩
      · skip
        refine ⟨hL1, fun b M2 hb => ?_⟩
        have e1 : M1 (m + 1) = M (m + 1) := hL1.2 (m + 1) (by omega) (by omega)
        rw [e1] at hb
        rcases hb with ⟨np1, hb1, hb2⟩ | ⟨p1, np2, hb1, hb2⟩ | ⟨p1, p2, hb1, hb2⟩
        · exact mo_endQ L hL1 hCI hb2 hk0 (by omega) (fun h => by omega)
        · exact absurd p1 nd1
        · exact absurd p1 nd1
      · exact absurd (d1.symm.trans f2) mo_neIA
    · rcases hE with ⟨f1, hk0⟩ | ⟨f2, hk0⟩
      · exact absurd (d2.symm.trans f1) mo_neIA.symm
      · skip
        refine ⟨hL1, fun b M2 hb => ?_⟩
        have e1 : M1 (m + 1) = M (m + 1) := hL1.2 (m + 1) (by omega) (by omega)
        rw [e1] at hb
        rcases hb with ⟨np1, hb1, hb2⟩ | ⟨p1, np2, hb1, hb2⟩ | ⟨p1, p2, hb1, hb2⟩
        · exact absurd c1 np1
        · exact mo_endQ L hL1 hCI hb2 hk0 (by omega) (fun h => by omega)
        · exact absurd p2 nd2
set_option maxHeartbeats 1000000 in
theorem lj_addVenue {G : mo_G} {M : mo_M} {t x m ou n sv s : Nat} {B : Int} {A0 : Int} {G1 : mo_G} {M1 : mo_M} {t1 : Nat} {k : Int} {g T : Nat → Int} {S : Nat → Nat → Int} (L : mo_LI G M x m ou n sv s B) (hg : g = M (m + 1)) (hT : T = M (m + 8)) (hS : S = fun i k => M (m + 2) (640 * i + k)) (hk : (k = 0 ∧ ∃ Mo, (fun u G' M' t' => (G'.1 = G.1 ∧ ∀ b, b ≠ x + 39 → G'.2 b = G.2 b) ∧ t' = t ∧ (1 ≤ A0 ∧ A0 ≤ 4) ∧ (g 6 < 5) ∧ u = some (mo_iv (g 6)) ∧ (∀ a, mo_oz x a → M' a = M a) ∧ ∃ s', mo_CI G' M' x (mo_gAV g A0) n T (mo_svq sv + 1) (mo_Sn sv g S) s') (some (mo_iv (g 6))) G1 Mo t1 ∧ M1 = mo_ur Mo ou (va_up (Mo ou) 0 ((g 6).bmod (2 ^ 32)))) ∨ ∃ E, (fun E G' M' t' => G' = G ∧ M' = M ∧ t ≤ t' ∧ ((E = mo_IAE ∧ ¬ (1 ≤ A0 ∧ A0 ≤ 4)) ∨ (E = mo_ISE ∧ (1 ≤ A0 ∧ A0 ≤ 4) ∧ ¬ (g 6 < 5)))) E G1 M1 t1 ∧ ((E = mo_IAE ∧ k = 1) ∨ (E = mo_ISE ∧ k = 2))) : mo_L1 G G1 M M1 x ou ∧ ∀ (b : Int) (M2 : mo_M), (fun x M' => (¬ (1 ≤ A0 ∧ A0 ≤ 4) ∧ x = 0 ∧ mo_Qr M1 M' m 1) ∨ ((1 ≤ A0 ∧ A0 ≤ 4) ∧ ¬ (M1 (m + 1) 6 < 5) ∧ x = 0 ∧ mo_Qr M1 M' m 2) ∨ ((1 ≤ A0 ∧ A0 ≤ 4) ∧ (M1 (m + 1) 6 < 5) ∧ x = M1 (m + 1) 6 ∧ mo_Ur M1 M' m sv (mo_gAV (M1 (m + 1)) A0))) b M2 → mo_L2 G1 M2 x m ou (B + 4000) k b := by
  obtain ⟨L1, L2, L3, L4, L5, L6, L7, L8, L9, L10, L11, L12⟩ := id L
  obtain ⟨hI0, hI1, hI2, hI3, hI4, hI5, hI6, hI7, -⟩ := id L8
  subst hg hT hS
  rcases hk with ⟨hk0, Mo, hp, hM1⟩ | ⟨E, hp, hE⟩
  · obtain ⟨hgeo, ht1, c1, c2, -, hfr, s1, hci⟩ := hp
    have hL1 : mo_L1 G G1 M M1 x ou := ⟨hgeo, fun a h1 h2 => by rw [hM1, mo_ur_n h2]; exact hfr a h1⟩
    have hCI := mo_CI_ou (ou := ou) (f := va_up (Mo ou) 0 (((M (m + 1)) 6).bmod (2 ^ 32))) hci (by omega)
    rw [← hM1] at hCI
    refine ⟨hL1, fun b M2 hb => ?_⟩
    have e1 : M1 (m + 1) = M (m + 1) := hL1.2 (m + 1) (by omega) (by omega)
    rw [e1] at hb
    rcases hb with ⟨np1, hb1, hb2⟩ | ⟨p1, np2, hb1, hb2⟩ | ⟨p1, p2, hb1, hb2⟩
    · exact absurd c1 np1
    · exact absurd c2 np2
    · exact mo_endU L hL1 hCI (mo_Iv_mono (mo_Iv_AV c2 ⟨by omega, by omega⟩ L8) (by omega)) hb2 hk0 (by rw [hM1, mo_ur_s, mo_up_s, hb1])
  · obtain ⟨hG1, hMM, ht1, hd⟩ := hp
    have hL1 : mo_L1 G G1 M M1 x ou := ⟨⟨by rw [hG1], fun b hb => by rw [hG1]⟩, fun a h1 h2 => by rw [hMM]⟩
    have hCI : mo_CI G1 M1 x (M (m + 1)) n (M (m + 8)) sv (fun i k => M (m + 2) (640 * i + k)) s := by rw [hMM, hG1]; exact L3
    rcases hd with ⟨d1, nd1⟩ | ⟨d2, c1, nd2⟩
    · rcases hE with ⟨f1, hk0⟩ | ⟨f2, hk0⟩
      · skip
        refine ⟨hL1, fun b M2 hb => ?_⟩
        have e1 : M1 (m + 1) = M (m + 1) := hL1.2 (m + 1) (by omega) (by omega)
        rw [e1] at hb
        rcases hb with ⟨np1, hb1, hb2⟩ | ⟨p1, np2, hb1, hb2⟩ | ⟨p1, p2, hb1, hb2⟩
        · exact mo_endQ L hL1 hCI hb2 hk0 (by omega) (fun h => by omega)
        · exact absurd p1 nd1
        · exact absurd p1 nd1
      · exact absurd (d1.symm.trans f2) mo_neAT
    · rcases hE with ⟨f1, hk0⟩ | ⟨f2, hk0⟩
      · exact absurd (d2.symm.trans f1) mo_neAT.symm
      · skip
        refine ⟨hL1, fun b M2 hb => ?_⟩
        have e1 : M1 (m + 1) = M (m + 1) := hL1.2 (m + 1) (by omega) (by omega)
        rw [e1] at hb
        rcases hb with ⟨np1, hb1, hb2⟩ | ⟨p1, np2, hb1, hb2⟩ | ⟨p1, p2, hb1, hb2⟩
        · exact absurd c1 np1
        · exact mo_endQ L hL1 hCI hb2 hk0 (by omega) (fun h => by omega)
        · exact absurd p2 nd2
set_option maxHeartbeats 1000000 in
theorem lj_plan {G : mo_G} {M : mo_M} {t x m ou n sv s : Nat} {B : Int} {A0 A1 A2 A3 A4 : Int} {G1 : mo_G} {M1 : mo_M} {t1 : Nat} {k : Int} {g T : Nat → Int} {S : Nat → Nat → Int} (L : mo_LI G M x m ou n sv s B) (hg : g = M (m + 1)) (hT : T = M (m + 8)) (hS : S = fun i k => M (m + 2) (640 * i + k)) (hk : (k = 0 ∧ ∃ Mo, (fun u G' M' t' => (G'.1 = G.1 ∧ ∀ b, b ≠ x + 39 → G'.2 b = G.2 b) ∧ t' = t ∧ ((0 ≤ A0 ∧ A0 < g 4) ∧ (0 ≤ A3 ∧ A3 < g 5) ∧ (0 ≤ A4 ∧ A4 < g 6)) ∧ ((0 ≤ A1 ∧ A1 ≤ 19) ∧ (0 ≤ A2 ∧ A2 ≤ 27)) ∧ (mo_rs g A0.toNat A1.toNat A2.toNat A3.toNat A4.toNat = 0) ∧ u = some (mo_iv (g 1)) ∧ (∀ A0, mo_oz x A0 → M' A0 = M A0) ∧ ∃ s', mo_CI G' M' x (mo_ly g A0 A1 A2 A3 A4) n T (mo_svq sv + 1) (mo_Sn sv g S) s') (some (mo_iv (g 1))) G1 Mo t1 ∧ M1 = mo_ur Mo ou (va_up (Mo ou) 0 ((g 1).bmod (2 ^ 32)))) ∨ ∃ E, (fun E G' M' t' => G' = G ∧ (∀ A0, (A0 < x + 118 ∨ x + 124 < A0) → M' A0 = M A0) ∧ t ≤ t' ∧ ((E = mo_IOE ∧ ¬ ((0 ≤ A0 ∧ A0 < g 4) ∧ (0 ≤ A3 ∧ A3 < g 5) ∧ (0 ≤ A4 ∧ A4 < g 6))) ∨ (E = mo_IAE ∧ ((0 ≤ A0 ∧ A0 < g 4) ∧ (0 ≤ A3 ∧ A3 < g 5) ∧ (0 ≤ A4 ∧ A4 < g 6)) ∧ ¬ ((0 ≤ A1 ∧ A1 ≤ 19) ∧ (0 ≤ A2 ∧ A2 ≤ 27))) ∨ (E = mo_ISE ∧ ((0 ≤ A0 ∧ A0 < g 4) ∧ (0 ≤ A3 ∧ A3 < g 5) ∧ (0 ≤ A4 ∧ A4 < g 6)) ∧ ((0 ≤ A1 ∧ A1 ≤ 19) ∧ (0 ≤ A2 ∧ A2 ≤ 27)) ∧ ¬ (mo_rs g A0.toNat A1.toNat A2.toNat A3.toNat A4.toNat = 0)))) E G1 M1 t1 ∧ ((E = mo_IOE ∧ k = 1) ∨ (E = mo_IAE ∧ k = 2) ∨ (E = mo_ISE ∧ k = 3))) : mo_L1 G G1 M M1 x ou ∧ ∀ (b : Int) (M2 : mo_M), (fun x M' => (¬ ((0 ≤ A0 ∧ A0 < M1 (m + 1) 4) ∧ (0 ≤ A3 ∧ A3 < M1 (m + 1) 5) ∧ (0 ≤ A4 ∧ A4 < M1 (m + 1) 6)) ∧ x = 0 ∧ mo_Qr M1 M' m 1) ∨ (((0 ≤ A0 ∧ A0 < M1 (m + 1) 4) ∧ (0 ≤ A3 ∧ A3 < M1 (m + 1) 5) ∧ (0 ≤ A4 ∧ A4 < M1 (m + 1) 6)) ∧ ¬ ((0 ≤ A1 ∧ A1 ≤ 19) ∧ (0 ≤ A2 ∧ A2 ≤ 27)) ∧ x = 0 ∧ mo_Qr M1 M' m 2) ∨ (((0 ≤ A0 ∧ A0 < M1 (m + 1) 4) ∧ (0 ≤ A3 ∧ A3 < M1 (m + 1) 5) ∧ (0 ≤ A4 ∧ A4 < M1 (m + 1) 6)) ∧ ((0 ≤ A1 ∧ A1 ≤ 19) ∧ (0 ≤ A2 ∧ A2 ≤ 27)) ∧ mo_rs (M1 (m + 1)) A0.toNat A1.toNat A2.toNat A3.toNat A4.toNat ≠ 0 ∧ x = 0 ∧ mo_Qr M1 M' m 3) ∨ (((0 ≤ A0 ∧ A0 < M1 (m + 1) 4) ∧ (0 ≤ A3 ∧ A3 < M1 (m + 1) 5) ∧ (0 ≤ A4 ∧ A4 < M1 (m + 1) 6)) ∧ ((0 ≤ A1 ∧ A1 ≤ 19) ∧ (0 ≤ A2 ∧ A2 ≤ 27)) ∧ mo_rs (M1 (m + 1)) A0.toNat A1.toNat A2.toNat A3.toNat A4.toNat = 0 ∧ x = M1 (m + 1) 1 ∧ mo_Ur M1 M' m sv (mo_ly (M1 (m + 1)) A0 A1 A2 A3 A4))) b M2 → mo_L2 G1 M2 x m ou (B + 4000) k b := by
  obtain ⟨L1, L2, L3, L4, L5, L6, L7, L8, L9, L10, L11, L12⟩ := id L
  obtain ⟨hI0, hI1, hI2, hI3, hI4, hI5, hI6, hI7, -⟩ := id L8
  subst hg hT hS
  rcases hk with ⟨hk0, Mo, hp, hM1⟩ | ⟨E, hp, hE⟩
  · obtain ⟨hgeo, ht1, c1, c2, c3, -, hfr, s1, hci⟩ := hp
    have hL1 : mo_L1 G G1 M M1 x ou := ⟨hgeo, fun a h1 h2 => by rw [hM1, mo_ur_n h2]; exact hfr a h1⟩
    have hCI := mo_CI_ou (ou := ou) (f := va_up (Mo ou) 0 (((M (m + 1)) 1).bmod (2 ^ 32))) hci (by omega)
    rw [← hM1] at hCI
    refine ⟨hL1, fun b M2 hb => ?_⟩
    have e1 : M1 (m + 1) = M (m + 1) := hL1.2 (m + 1) (by omega) (by omega)
    rw [e1] at hb
    rcases hb with ⟨np1, hb1, hb2⟩ | ⟨p1, np2, hb1, hb2⟩ | ⟨p1, p2, np3, hb1, hb2⟩ | ⟨p1, p2, p3, hb1, hb2⟩
    · exact absurd c1 np1
    · exact absurd c2 np2
    · exact absurd c3 np3
    · exact mo_endU L hL1 hCI (mo_Iv_mono (mo_Iv_ly L8 c1.1 c2.1 c2.2 c1.2.1 c1.2.2 (mo_rs_7 L8 c3)) (by omega)) hb2 hk0 (by rw [hM1, mo_ur_s, mo_up_s, hb1])
  · obtain ⟨hG1, hMM, ht1, hd⟩ := hp
    have hL1 : mo_L1 G G1 M M1 x ou := ⟨⟨by rw [hG1], fun b hb => by rw [hG1]⟩, fun a h1 h2 => hMM a (by omega)⟩
    have hCI : mo_CI G1 M1 x (M (m + 1)) n (M (m + 8)) sv (fun i k => M (m + 2) (640 * i + k)) s := by rw [hG1]; exact mo_CI_up L3 (mo_SR_fr L3.2.2.1 fun a a1 a2 => hMM a (by omega)) fun a a1 a2 => hMM a (by omega)
    rcases hd with ⟨d1, nd1⟩ | ⟨d2, c1, nd2⟩ | ⟨d3, c1, c2, nd3⟩
    · rcases hE with ⟨f1, hk0⟩ | ⟨f2, hk0⟩ | ⟨f3, hk0⟩
      · skip
        refine ⟨hL1, fun b M2 hb => ?_⟩
        have e1 : M1 (m + 1) = M (m + 1) := hL1.2 (m + 1) (by omega) (by omega)
        rw [e1] at hb
        rcases hb with ⟨np1, hb1, hb2⟩ | ⟨p1, np2, hb1, hb2⟩ | ⟨p1, p2, np3, hb1, hb2⟩ | ⟨p1, p2, p3, hb1, hb2⟩
        · exact mo_endQ L hL1 hCI hb2 hk0 (by omega) (fun h => by omega)
        · exact absurd p1 nd1
        · exact absurd p1 nd1
        · exact absurd p1 nd1
      · exact absurd (d1.symm.trans f2) mo_neIA
      · exact absurd (d1.symm.trans f3) mo_neIT
    · rcases hE with ⟨f1, hk0⟩ | ⟨f2, hk0⟩ | ⟨f3, hk0⟩
      · exact absurd (d2.symm.trans f1) mo_neIA.symm
      · skip
        refine ⟨hL1, fun b M2 hb => ?_⟩
        have e1 : M1 (m + 1) = M (m + 1) := hL1.2 (m + 1) (by omega) (by omega)
        rw [e1] at hb
        rcases hb with ⟨np1, hb1, hb2⟩ | ⟨p1, np2, hb1, hb2⟩ | ⟨p1, p2, np3, hb1, hb2⟩ | ⟨p1, p2, p3, hb1, hb2⟩
        · exact absurd c1 np1
        · exact mo_endQ L hL1 hCI hb2 hk0 (by omega) (fun h => by omega)
        · exact absurd p2 nd2
        · exact absurd p2 nd2
      · exact absurd (d2.symm.trans f3) mo_neAT
    · rcases hE with ⟨f1, hk0⟩ | ⟨f2, hk0⟩ | ⟨f3, hk0⟩
      · exact absurd (d3.symm.trans f1) mo_neIT.symm
      · exact absurd (d3.symm.trans f2) mo_neAT.symm
      · skip
        refine ⟨hL1, fun b M2 hb => ?_⟩
        have e1 : M1 (m + 1) = M (m + 1) := hL1.2 (m + 1) (by omega) (by omega)
        rw [e1] at hb
        rcases hb with ⟨np1, hb1, hb2⟩ | ⟨p1, np2, hb1, hb2⟩ | ⟨p1, p2, np3, hb1, hb2⟩ | ⟨p1, p2, p3, hb1, hb2⟩
        · exact absurd c1 np1
        · exact absurd c2 np2
        · exact mo_endQ L hL1 hCI hb2 hk0 (by omega) (fun h => by omega)
        · exact absurd p3 nd3
set_option maxHeartbeats 1000000 in
theorem lj_planWeek {G : mo_G} {M : mo_M} {t x m ou n sv s : Nat} {B : Int} {A0 : Int} {G1 : mo_G} {M1 : mo_M} {t1 : Nat} {k : Int} {g T : Nat → Int} {S : Nat → Nat → Int} (L : mo_LI G M x m ou n sv s B) (hg : g = M (m + 1)) (hT : T = M (m + 8)) (hS : S = fun i k => M (m + 2) (640 * i + k)) (hk : (k = 0 ∧ ∃ Mo, (fun u G' M' t' => (G'.1 = G.1 ∧ ∀ b, b ≠ x + 39 → G'.2 b = G.2 b) ∧ t' = t ∧ (0 ≤ A0 ∧ A0 ≤ 19) ∧ (g 0 ≤ A0) ∧ u = some (mo_iv ((mo_pl A0.toNat 61 g).1)) ∧ (∀ a, mo_oz x a → M' a = M a) ∧ ∃ s', mo_CI G' M' x ((mo_pl A0.toNat 61 g).2) n T (mo_svq sv + 1) (mo_Sn sv g S) s') (some (mo_iv ((mo_pl A0.toNat 61 g).1))) G1 Mo t1 ∧ M1 = mo_ur Mo ou (va_up (Mo ou) 0 (((mo_pl A0.toNat 61 g).1).bmod (2 ^ 32)))) ∨ ∃ E, (fun E G' M' t' => G' = G ∧ M' = M ∧ t ≤ t' ∧ ((E = mo_IAE ∧ ¬ (0 ≤ A0 ∧ A0 ≤ 19)) ∨ (E = mo_ISE ∧ (0 ≤ A0 ∧ A0 ≤ 19) ∧ ¬ (g 0 ≤ A0)))) E G1 M1 t1 ∧ ((E = mo_IAE ∧ k = 1) ∨ (E = mo_ISE ∧ k = 2))) : mo_L1 G G1 M M1 x ou ∧ ∀ (b : Int) (M2 : mo_M), (fun x M' => (¬ (0 ≤ A0 ∧ A0 ≤ 19) ∧ x = 0 ∧ mo_Qr M1 M' m 1) ∨ ((0 ≤ A0 ∧ A0 ≤ 19) ∧ ¬ (M1 (m + 1) 0 ≤ A0) ∧ x = 0 ∧ mo_Qr M1 M' m 2) ∨ ((0 ≤ A0 ∧ A0 ≤ 19) ∧ (M1 (m + 1) 0 ≤ A0) ∧ x = (mo_pl A0.toNat 61 (M1 (m + 1))).1 ∧ mo_Ur M1 M' m sv ((mo_pl A0.toNat 61 (M1 (m + 1))).2))) b M2 → mo_L2 G1 M2 x m ou (B + 4000) k b := by
  obtain ⟨L1, L2, L3, L4, L5, L6, L7, L8, L9, L10, L11, L12⟩ := id L
  obtain ⟨hI0, hI1, hI2, hI3, hI4, hI5, hI6, hI7, -⟩ := id L8
  subst hg hT hS
  rcases hk with ⟨hk0, Mo, hp, hM1⟩ | ⟨E, hp, hE⟩
  · obtain ⟨hgeo, ht1, c1, c2, -, hfr, s1, hci⟩ := hp
    have hL1 : mo_L1 G G1 M M1 x ou := ⟨hgeo, fun a h1 h2 => by rw [hM1, mo_ur_n h2]; exact hfr a h1⟩
    have hCI := mo_CI_ou (ou := ou) (f := va_up (Mo ou) 0 (((mo_pl A0.toNat 61 (M (m + 1))).1).bmod (2 ^ 32))) hci (by omega)
    rw [← hM1] at hCI
    refine ⟨hL1, fun b M2 hb => ?_⟩
    have e1 : M1 (m + 1) = M (m + 1) := hL1.2 (m + 1) (by omega) (by omega)
    rw [e1] at hb
    rcases hb with ⟨np1, hb1, hb2⟩ | ⟨p1, np2, hb1, hb2⟩ | ⟨p1, p2, hb1, hb2⟩
    · exact absurd c1 np1
    · exact absurd c2 np2
    · exact mo_endU L hL1 hCI (mo_Iv_mono (mo_pl_Iv (w := A0.toNat) (by omega) 61 L8).1 (by omega)) hb2 hk0 (by rw [hM1, mo_ur_s, mo_up_s, hb1])
  · obtain ⟨hG1, hMM, ht1, hd⟩ := hp
    have hL1 : mo_L1 G G1 M M1 x ou := ⟨⟨by rw [hG1], fun b hb => by rw [hG1]⟩, fun a h1 h2 => by rw [hMM]⟩
    have hCI : mo_CI G1 M1 x (M (m + 1)) n (M (m + 8)) sv (fun i k => M (m + 2) (640 * i + k)) s := by rw [hMM, hG1]; exact L3
    rcases hd with ⟨d1, nd1⟩ | ⟨d2, c1, nd2⟩
    · rcases hE with ⟨f1, hk0⟩ | ⟨f2, hk0⟩
      · skip
        refine ⟨hL1, fun b M2 hb => ?_⟩
        have e1 : M1 (m + 1) = M (m + 1) := hL1.2 (m + 1) (by omega) (by omega)
        rw [e1] at hb
        rcases hb with ⟨np1, hb1, hb2⟩ | ⟨p1, np2, hb1, hb2⟩ | ⟨p1, p2, hb1, hb2⟩
        · exact mo_endQ L hL1 hCI hb2 hk0 (by omega) (fun h => by omega)
        · exact absurd p1 nd1
        · exact absurd p1 nd1
      · exact absurd (d1.symm.trans f2) mo_neAT
    · rcases hE with ⟨f1, hk0⟩ | ⟨f2, hk0⟩
      · exact absurd (d2.symm.trans f1) mo_neAT.symm
      · skip
        refine ⟨hL1, fun b M2 hb => ?_⟩
        have e1 : M1 (m + 1) = M (m + 1) := hL1.2 (m + 1) (by omega) (by omega)
        rw [e1] at hb
        rcases hb with ⟨np1, hb1, hb2⟩ | ⟨p1, np2, hb1, hb2⟩ | ⟨p1, p2, hb1, hb2⟩
        · exact absurd c1 np1
        · exact mo_endQ L hL1 hCI hb2 hk0 (by omega) (fun h => by omega)
        · exact absurd p2 nd2
set_option maxHeartbeats 1000000 in
theorem lj_cancel {G : mo_G} {M : mo_M} {t x m ou n sv s : Nat} {B : Int} {A0 : Int} {pl : Int} {G1 : mo_G} {M1 : mo_M} {t1 : Nat} {k : Int} {g T : Nat → Int} {S : Nat → Nat → Int} (L : mo_LI G M x m ou n sv s B) (hg : g = M (m + 1)) (hT : T = M (m + 8)) (hS : S = fun i k => M (m + 2) (640 * i + k)) (hpl : pl = mo_ff (fun k => decide (mo_fld g k 0 = A0)) (mo_nk g)) (hk : (k = 0 ∧ ∃ Mo, (fun u G' M' t' => (G'.1 = G.1 ∧ ∀ b, b ≠ x + 39 → G'.2 b = G.2 b) ∧ t' = t ∧ (pl ≠ -1) ∧ (mo_fld g pl.toNat 6 = 0) ∧ u = some (mo_iv (mo_fld g pl.toNat 2)) ∧ (∀ a, mo_oz x a → M' a = M a) ∧ ∃ s', mo_CI G' M' x (mo_to g pl.toNat) n T (mo_svq sv + 1) (mo_Sn sv g S) s') (some (mo_iv (mo_fld g pl.toNat 2))) G1 Mo t1 ∧ M1 = mo_ur Mo ou (va_up (Mo ou) 0 ((mo_fld g pl.toNat 2).bmod (2 ^ 32)))) ∨ ∃ E, (fun E G' M' t' => G' = G ∧ M' = M ∧ t ≤ t' ∧ ((E = mo_IOE ∧ ¬ (pl ≠ -1)) ∨ (E = mo_ISE ∧ (pl ≠ -1) ∧ ¬ (mo_fld g pl.toNat 6 = 0)))) E G1 M1 t1 ∧ ((E = mo_IOE ∧ k = 1) ∨ (E = mo_ISE ∧ k = 2))) : mo_L1 G G1 M M1 x ou ∧ ∀ (b : Int) (M2 : mo_M), (fun x M' => (¬ (pl ≠ -1) ∧ x = 0 ∧ mo_Qr M1 M' m 1) ∨ ((pl ≠ -1) ∧ ¬ (mo_fld (M1 (m + 1)) pl.toNat 6 = 0) ∧ x = 0 ∧ mo_Qr M1 M' m 2) ∨ ((pl ≠ -1) ∧ (mo_fld (M1 (m + 1)) pl.toNat 6 = 0) ∧ x = mo_fld (M1 (m + 1)) pl.toNat 2 ∧ mo_Ur M1 M' m sv (mo_to (M1 (m + 1)) pl.toNat))) b M2 → mo_L2 G1 M2 x m ou (B + 4000) k b := by
  obtain ⟨L1, L2, L3, L4, L5, L6, L7, L8, L9, L10, L11, L12⟩ := id L
  obtain ⟨hI0, hI1, hI2, hI3, hI4, hI5, hI6, hI7, -⟩ := id L8
  subst hg hT hS
  have hplb : pl = -1 ∨ (0 ≤ pl ∧ pl < M (m + 1) 7) := by
    have hnk : ((mo_nk (M (m + 1)) : Nat) : Int) = M (m + 1) 7 := by unfold mo_nk; omega
    rw [hpl]
    rcases mo_ff_cases (fun k => decide (mo_fld (M (m + 1)) k 0 = A0)) (mo_nk (M (m + 1))) with ⟨pf1, pf2⟩ | ⟨pk, pf1, pf2, pf3, pf4⟩
    · exact Or.inl pf1
    · exact Or.inr (by omega)
  rcases hk with ⟨hk0, Mo, hp, hM1⟩ | ⟨E, hp, hE⟩
  · obtain ⟨hgeo, ht1, c1, c2, -, hfr, s1, hci⟩ := hp
    have hL1 : mo_L1 G G1 M M1 x ou := ⟨hgeo, fun a h1 h2 => by rw [hM1, mo_ur_n h2]; exact hfr a h1⟩
    have hCI := mo_CI_ou (ou := ou) (f := va_up (Mo ou) 0 ((mo_fld (M (m + 1)) pl.toNat 2).bmod (2 ^ 32))) hci (by omega)
    rw [← hM1] at hCI
    refine ⟨hL1, fun b M2 hb => ?_⟩
    have e1 : M1 (m + 1) = M (m + 1) := hL1.2 (m + 1) (by omega) (by omega)
    rw [e1] at hb
    rcases hb with ⟨np1, hb1, hb2⟩ | ⟨p1, np2, hb1, hb2⟩ | ⟨p1, p2, hb1, hb2⟩
    · exact absurd c1 np1
    · exact absurd c2 np2
    · exact mo_endU L hL1 hCI (mo_Iv_mono (mo_Iv_to L8 (by omega)) (by omega)) hb2 hk0 (by rw [hM1, mo_ur_s, mo_up_s, hb1])
  · obtain ⟨hG1, hMM, ht1, hd⟩ := hp
    have hL1 : mo_L1 G G1 M M1 x ou := ⟨⟨by rw [hG1], fun b hb => by rw [hG1]⟩, fun a h1 h2 => by rw [hMM]⟩
    have hCI : mo_CI G1 M1 x (M (m + 1)) n (M (m + 8)) sv (fun i k => M (m + 2) (640 * i + k)) s := by rw [hMM, hG1]; exact L3
    rcases hd with ⟨d1, nd1⟩ | ⟨d2, c1, nd2⟩
    · rcases hE with ⟨f1, hk0⟩ | ⟨f2, hk0⟩
      · skip
        refine ⟨hL1, fun b M2 hb => ?_⟩
        have e1 : M1 (m + 1) = M (m + 1) := hL1.2 (m + 1) (by omega) (by omega)
        rw [e1] at hb
        rcases hb with ⟨np1, hb1, hb2⟩ | ⟨p1, np2, hb1, hb2⟩ | ⟨p1, p2, hb1, hb2⟩
        · exact mo_endQ L hL1 hCI hb2 hk0 (by omega) (fun h => by omega)
        · exact absurd p1 nd1
        · exact absurd p1 nd1
      · exact absurd (d1.symm.trans f2) mo_neIT
    · rcases hE with ⟨f1, hk0⟩ | ⟨f2, hk0⟩
      · exact absurd (d2.symm.trans f1) mo_neIT.symm
      · skip
        refine ⟨hL1, fun b M2 hb => ?_⟩
        have e1 : M1 (m + 1) = M (m + 1) := hL1.2 (m + 1) (by omega) (by omega)
        rw [e1] at hb
        rcases hb with ⟨np1, hb1, hb2⟩ | ⟨p1, np2, hb1, hb2⟩ | ⟨p1, p2, hb1, hb2⟩
        · exact absurd c1 np1
        · exact mo_endQ L hL1 hCI hb2 hk0 (by omega) (fun h => by omega)
        · exact absurd p2 nd2
set_option maxHeartbeats 1000000 in
theorem lj_tell {G : mo_G} {M : mo_M} {t x m ou n sv s : Nat} {B : Int} {A0 A1 : Int} {pl : Int} {G1 : mo_G} {M1 : mo_M} {t1 : Nat} {k : Int} {g T : Nat → Int} {S : Nat → Nat → Int} (L : mo_LI G M x m ou n sv s B) (hg : g = M (m + 1)) (hT : T = M (m + 8)) (hS : S = fun i k => M (m + 2) (640 * i + k)) (hpl : pl = mo_ff (fun k => decide (mo_fld g k 0 = A0)) (mo_nk g)) (hk : (k = 0 ∧ ∃ Mo, (fun u G' M' t' => (G'.1 = G.1 ∧ ∀ b, b ≠ x + 39 → G'.2 b = G.2 b) ∧ t' = t ∧ (pl ≠ -1) ∧ (mo_op g pl.toNat = true) ∧ u = some (mo_iv (mo_ow (if A1 = 0 then mo_ms g pl.toNat else mo_hd g pl.toNat) (mo_fld g pl.toNat 1).toNat (g 0).toNat)) ∧ (∀ a, mo_oz x a → M' a = M a) ∧ ∃ s', mo_CI G' M' x ((if A1 = 0 then mo_ms g pl.toNat else mo_hd g pl.toNat)) n T (mo_svq sv + 1) (mo_Sn sv g S) s') (some (mo_iv (mo_ow (if A1 = 0 then mo_ms g pl.toNat else mo_hd g pl.toNat) (mo_fld g pl.toNat 1).toNat (g 0).toNat))) G1 Mo t1 ∧ M1 = mo_ur Mo ou (va_up (Mo ou) 0 ((mo_ow (if A1 = 0 then mo_ms g pl.toNat else mo_hd g pl.toNat) (mo_fld g pl.toNat 1).toNat (g 0).toNat).bmod (2 ^ 32)))) ∨ ∃ E, (fun E G' M' t' => G' = G ∧ (M' = M) ∧ t ≤ t' ∧ ((E = mo_IOE ∧ ¬ (pl ≠ -1)) ∨ (E = mo_ISE ∧ (pl ≠ -1) ∧ ¬ (mo_op g pl.toNat = true)))) E G1 M1 t1 ∧ ((E = mo_IOE ∧ k = 1) ∨ (E = mo_ISE ∧ k = 2))) : mo_L1 G G1 M M1 x ou ∧ ∀ (b : Int) (M2 : mo_M), (fun x M' => (¬ (pl ≠ -1) ∧ x = 0 ∧ mo_Qr M1 M' m 1) ∨ ((pl ≠ -1) ∧ ¬ (mo_op (M1 (m + 1)) pl.toNat = true) ∧ x = 0 ∧ mo_Qr M1 M' m 2) ∨ ((pl ≠ -1) ∧ (mo_op (M1 (m + 1)) pl.toNat = true) ∧ x = mo_ow (if A1 = 0 then mo_ms (M1 (m + 1)) pl.toNat else mo_hd (M1 (m + 1)) pl.toNat) (mo_fld (M1 (m + 1)) pl.toNat 1).toNat (M1 (m + 1) 0).toNat ∧ mo_Ur M1 M' m sv (if A1 = 0 then mo_ms (M1 (m + 1)) pl.toNat else mo_hd (M1 (m + 1)) pl.toNat))) b M2 → mo_L2 G1 M2 x m ou (B + 4000) k b := by
  obtain ⟨L1, L2, L3, L4, L5, L6, L7, L8, L9, L10, L11, L12⟩ := id L
  obtain ⟨hI0, hI1, hI2, hI3, hI4, hI5, hI6, hI7, -⟩ := id L8
  subst hg hT hS
  have hplb : pl = -1 ∨ (0 ≤ pl ∧ pl < M (m + 1) 7) := by
    have hnk : ((mo_nk (M (m + 1)) : Nat) : Int) = M (m + 1) 7 := by unfold mo_nk; omega
    rw [hpl]
    rcases mo_ff_cases (fun k => decide (mo_fld (M (m + 1)) k 0 = A0)) (mo_nk (M (m + 1))) with ⟨pf1, pf2⟩ | ⟨pk, pf1, pf2, pf3, pf4⟩
    · exact Or.inl pf1
    · exact Or.inr (by omega)
  rcases hk with ⟨hk0, Mo, hp, hM1⟩ | ⟨E, hp, hE⟩
  · obtain ⟨hgeo, ht1, c1, c2, -, hfr, s1, hci⟩ := hp
    have hL1 : mo_L1 G G1 M M1 x ou := ⟨hgeo, fun a h1 h2 => by rw [hM1, mo_ur_n h2]; exact hfr a h1⟩
    have hCI := mo_CI_ou (ou := ou) (f := va_up (Mo ou) 0 ((mo_ow (if A1 = 0 then mo_ms (M (m + 1)) pl.toNat else mo_hd (M (m + 1)) pl.toNat) (mo_fld (M (m + 1)) pl.toNat 1).toNat ((M (m + 1)) 0).toNat).bmod (2 ^ 32))) hci (by omega)
    rw [← hM1] at hCI
    refine ⟨hL1, fun b M2 hb => ?_⟩
    have e1 : M1 (m + 1) = M (m + 1) := hL1.2 (m + 1) (by omega) (by omega)
    rw [e1] at hb
    rcases hb with ⟨np1, hb1, hb2⟩ | ⟨p1, np2, hb1, hb2⟩ | ⟨p1, p2, hb1, hb2⟩
    · exact absurd c1 np1
    · exact absurd c2 np2
    · exact mo_endU L hL1 hCI ((by split; { exact mo_Iv_mono (mo_Iv_ms L8 (by omega)) (by omega) }; { exact mo_Iv_mono (mo_Iv_hd L8 (by omega)) (by omega) })) hb2 hk0 (by rw [hM1, mo_ur_s, mo_up_s, hb1])
  · obtain ⟨hG1, hMM, ht1, hd⟩ := hp
    have hL1 : mo_L1 G G1 M M1 x ou := ⟨⟨by rw [hG1], fun b hb => by rw [hG1]⟩, fun a h1 h2 => by rw [hMM]⟩
    have hCI : mo_CI G1 M1 x (M (m + 1)) n (M (m + 8)) sv (fun i k => M (m + 2) (640 * i + k)) s := by rw [hMM, hG1]; exact L3
    rcases hd with ⟨d1, nd1⟩ | ⟨d2, c1, nd2⟩
    · rcases hE with ⟨f1, hk0⟩ | ⟨f2, hk0⟩
      · skip
        refine ⟨hL1, fun b M2 hb => ?_⟩
        have e1 : M1 (m + 1) = M (m + 1) := hL1.2 (m + 1) (by omega) (by omega)
        rw [e1] at hb
        rcases hb with ⟨np1, hb1, hb2⟩ | ⟨p1, np2, hb1, hb2⟩ | ⟨p1, p2, hb1, hb2⟩
        · exact mo_endQ L hL1 hCI hb2 hk0 (by omega) (fun h => by omega)
        · exact absurd p1 nd1
        · exact absurd p1 nd1
      · exact absurd (d1.symm.trans f2) mo_neIT
    · rcases hE with ⟨f1, hk0⟩ | ⟨f2, hk0⟩
      · exact absurd (d2.symm.trans f1) mo_neIT.symm
      · skip
        refine ⟨hL1, fun b M2 hb => ?_⟩
        have e1 : M1 (m + 1) = M (m + 1) := hL1.2 (m + 1) (by omega) (by omega)
        rw [e1] at hb
        rcases hb with ⟨np1, hb1, hb2⟩ | ⟨p1, np2, hb1, hb2⟩ | ⟨p1, p2, hb1, hb2⟩
        · exact absurd c1 np1
        · exact mo_endQ L hL1 hCI hb2 hk0 (by omega) (fun h => by omega)
        · exact absurd p2 nd2
set_option maxHeartbeats 1000000 in
theorem lj_endWeek {G : mo_G} {M : mo_M} {t x m ou n sv s : Nat} {B : Int} {G1 : mo_G} {M1 : mo_M} {t1 : Nat} {k : Int} {g T : Nat → Int} {S : Nat → Nat → Int} (L : mo_LI G M x m ou n sv s B) (hg : g = M (m + 1)) (hT : T = M (m + 8)) (hS : S = fun i k => M (m + 2) (640 * i + k)) (hk : (k = 0 ∧ ∃ Mo, (fun u G' M' t' => (G'.1 = G.1 ∧ ∀ b, b ≠ x + 39 → G'.2 b = G.2 b) ∧ t' = t ∧ g 0 < 19 ∧ u = some (mo_iv (mo_eN g)) ∧ (∀ a, mo_oz x a → M' a = M a) ∧ ∃ s', mo_CI G' M' x (mo_eR g) n T (mo_svq sv + 1) (mo_Sn sv g S) s') (some (mo_iv (mo_eN g))) G1 Mo t1 ∧ M1 = mo_ur Mo ou (va_up (Mo ou) 0 ((mo_eN g).bmod (2 ^ 32)))) ∨ ∃ E, (fun E G' M' t' => G' = G ∧ M' = M ∧ t ≤ t' ∧ E = mo_ISE ∧ ¬ (g 0 < 19)) E G1 M1 t1 ∧ ((E = mo_ISE ∧ k = 1))) : mo_L1 G G1 M M1 x ou ∧ ∀ (b : Int) (M2 : mo_M), (fun x M' => (¬ (M1 (m + 1) 0 < 19) ∧ x = 0 ∧ mo_Qr M1 M' m 1) ∨ (M1 (m + 1) 0 < 19 ∧ x = mo_eN (M1 (m + 1)) ∧ mo_Ur M1 M' m sv (mo_eR (M1 (m + 1))))) b M2 → mo_L2 G1 M2 x m ou (B + 4000) k b := by
  obtain ⟨L1, L2, L3, L4, L5, L6, L7, L8, L9, L10, L11, L12⟩ := id L
  obtain ⟨hI0, hI1, hI2, hI3, hI4, hI5, hI6, hI7, -⟩ := id L8
  subst hg hT hS
  rcases hk with ⟨hk0, Mo, hp, hM1⟩ | ⟨E, hp, hE⟩
  · obtain ⟨hgeo, ht1, c1, -, hfr, s1, hci⟩ := hp
    have hL1 : mo_L1 G G1 M M1 x ou := ⟨hgeo, fun a h1 h2 => by rw [hM1, mo_ur_n h2]; exact hfr a h1⟩
    have hCI := mo_CI_ou (ou := ou) (f := va_up (Mo ou) 0 ((mo_eN (M (m + 1))).bmod (2 ^ 32))) hci (by omega)
    rw [← hM1] at hCI
    refine ⟨hL1, fun b M2 hb => ?_⟩
    have e1 : M1 (m + 1) = M (m + 1) := hL1.2 (m + 1) (by omega) (by omega)
    rw [e1] at hb
    rcases hb with ⟨np1, hb1, hb2⟩ | ⟨p1, hb1, hb2⟩
    · exact absurd c1 np1
    · exact mo_endU L hL1 hCI (mo_Iv_mono (mo_e_b L8 c1).1 (by omega)) hb2 hk0 (by rw [hM1, mo_ur_s, mo_up_s, hb1])
  · obtain ⟨hG1, hMM, ht1, hd⟩ := hp
    have hL1 : mo_L1 G G1 M M1 x ou := ⟨⟨by rw [hG1], fun b hb => by rw [hG1]⟩, fun a h1 h2 => by rw [hMM]⟩
    have hCI : mo_CI G1 M1 x (M (m + 1)) n (M (m + 8)) sv (fun i k => M (m + 2) (640 * i + k)) s := by rw [hMM, hG1]; exact L3
    rcases hd with ⟨d1, nd1⟩
    · rcases hE with ⟨f1, hk0⟩
      · skip
        refine ⟨hL1, fun b M2 hb => ?_⟩
        have e1 : M1 (m + 1) = M (m + 1) := hL1.2 (m + 1) (by omega) (by omega)
        rw [e1] at hb
        rcases hb with ⟨np1, hb1, hb2⟩ | ⟨p1, hb1, hb2⟩
        · exact mo_endQ L hL1 hCI hb2 hk0 (by omega) (fun h => by omega)
        · exact absurd p1 nd1
set_option maxHeartbeats 1000000 in
theorem lj_order {G : mo_G} {M : mo_M} {t x m ou n sv s : Nat} {B : Int} {A0 A1 : Int} {G1 : mo_G} {M1 : mo_M} {t1 : Nat} {k : Int} {g T : Nat → Int} {S : Nat → Nat → Int} (L : mo_LI G M x m ou n sv s B) (hg : g = M (m + 1)) (hT : T = M (m + 8)) (hS : S = fun i k => M (m + 2) (640 * i + k)) (hk : (k = 0 ∧ ∃ Mo, (fun u G' M' t' => G' = G ∧ t' = t ∧ M' = M ∧ (0 ≤ A0 ∧ A0 < g 4) ∧ (0 ≤ A1 ∧ A1 ≤ 6) ∧ u = some (mo_iv (mo_ov g A0.toNat A1))) (some (mo_iv (mo_ov g A0.toNat A1))) G1 Mo t1 ∧ M1 = mo_ur Mo ou (va_up (Mo ou) 0 ((mo_ov g A0.toNat A1).bmod (2 ^ 32)))) ∨ ∃ E, (fun E G' M' t' => G' = G ∧ M' = M ∧ t ≤ t' ∧ ((E = mo_IOE ∧ ¬ (0 ≤ A0 ∧ A0 < g 4)) ∨ (E = mo_IAE ∧ (0 ≤ A0 ∧ A0 < g 4) ∧ ¬ (0 ≤ A1 ∧ A1 ≤ 6)))) E G1 M1 t1 ∧ ((E = mo_IOE ∧ k = 1) ∨ (E = mo_IAE ∧ k = 2))) : mo_L1 G G1 M M1 x ou ∧ ∀ (b : Int) (M2 : mo_M), (fun x M' => (¬ (0 ≤ A0 ∧ A0 < M1 (m + 1) 4) ∧ x = 0 ∧ mo_Qr M1 M' m 1) ∨ ((0 ≤ A0 ∧ A0 < M1 (m + 1) 4) ∧ ¬ (0 ≤ A1 ∧ A1 ≤ 6) ∧ x = 0 ∧ mo_Qr M1 M' m 2) ∨ ((0 ≤ A0 ∧ A0 < M1 (m + 1) 4) ∧ (0 ≤ A1 ∧ A1 ≤ 6) ∧ x = mo_ov (M1 (m + 1)) A0.toNat A1 ∧ mo_Qr M1 M' m 0)) b M2 → mo_L2 G1 M2 x m ou (B + 4000) k b := by
  obtain ⟨L1, L2, L3, L4, L5, L6, L7, L8, L9, L10, L11, L12⟩ := id L
  obtain ⟨hI0, hI1, hI2, hI3, hI4, hI5, hI6, hI7, -⟩ := id L8
  subst hg hT hS
  rcases hk with ⟨hk0, Mo, hp, hM1⟩ | ⟨E, hp, hE⟩
  · obtain ⟨hG1, ht1, hMo, c1, c2, -⟩ := hp
    have hL1 : mo_L1 G G1 M M1 x ou := ⟨⟨by rw [hG1], fun b hb => by rw [hG1]⟩, fun a h1 h2 => by rw [hM1, mo_ur_n h2, hMo]⟩
    have hCI : mo_CI G1 M1 x (M (m + 1)) n (M (m + 8)) sv (fun i k => M (m + 2) (640 * i + k)) s := by rw [hM1, hMo, hG1]; exact mo_CI_ou L3 (by omega)
    refine ⟨hL1, fun b M2 hb => ?_⟩
    have e1 : M1 (m + 1) = M (m + 1) := hL1.2 (m + 1) (by omega) (by omega)
    rw [e1] at hb
    rcases hb with ⟨np1, hb1, hb2⟩ | ⟨p1, np2, hb1, hb2⟩ | ⟨p1, p2, hb1, hb2⟩
    · exact absurd c1 np1
    · exact absurd c2 np2
    · exact mo_endQ L hL1 hCI hb2 hk0 (by omega) (fun _ => by rw [hM1, mo_ur_s, mo_up_s, hb1])
  · obtain ⟨hG1, hMM, ht1, hd⟩ := hp
    have hL1 : mo_L1 G G1 M M1 x ou := ⟨⟨by rw [hG1], fun b hb => by rw [hG1]⟩, fun a h1 h2 => by rw [hMM]⟩
    have hCI : mo_CI G1 M1 x (M (m + 1)) n (M (m + 8)) sv (fun i k => M (m + 2) (640 * i + k)) s := by rw [hMM, hG1]; exact L3
    rcases hd with ⟨d1, nd1⟩ | ⟨d2, c1, nd2⟩
    · rcases hE with ⟨f1, hk0⟩ | ⟨f2, hk0⟩
      · skip
        refine ⟨hL1, fun b M2 hb => ?_⟩
        have e1 : M1 (m + 1) = M (m + 1) := hL1.2 (m + 1) (by omega) (by omega)
        rw [e1] at hb
        rcases hb with ⟨np1, hb1, hb2⟩ | ⟨p1, np2, hb1, hb2⟩ | ⟨p1, p2, hb1, hb2⟩
        · exact mo_endQ L hL1 hCI hb2 hk0 (by omega) (fun h => by omega)
        · exact absurd p1 nd1
        · exact absurd p1 nd1
      · exact absurd (d1.symm.trans f2) mo_neIA
    · rcases hE with ⟨f1, hk0⟩ | ⟨f2, hk0⟩
      · exact absurd (d2.symm.trans f1) mo_neIA.symm
      · skip
        refine ⟨hL1, fun b M2 hb => ?_⟩
        have e1 : M1 (m + 1) = M (m + 1) := hL1.2 (m + 1) (by omega) (by omega)
        rw [e1] at hb
        rcases hb with ⟨np1, hb1, hb2⟩ | ⟨p1, np2, hb1, hb2⟩ | ⟨p1, p2, hb1, hb2⟩
        · exact absurd c1 np1
        · exact mo_endQ L hL1 hCI hb2 hk0 (by omega) (fun h => by omega)
        · exact absurd p2 nd2
set_option maxHeartbeats 1000000 in
theorem lj_hours {G : mo_G} {M : mo_M} {t x m ou n sv s : Nat} {B : Int} {A0 A1 : Int} {G1 : mo_G} {M1 : mo_M} {t1 : Nat} {k : Int} {g T : Nat → Int} {S : Nat → Nat → Int} (L : mo_LI G M x m ou n sv s B) (hg : g = M (m + 1)) (hT : T = M (m + 8)) (hS : S = fun i k => M (m + 2) (640 * i + k)) (hk : (k = 0 ∧ ∃ Mo, (fun u G' M' t' => G' = G ∧ t' = t ∧ M' = M ∧ (0 ≤ A0 ∧ A0 < g 4) ∧ (0 ≤ A1 ∧ A1 ≤ 19) ∧ u = some (mo_iv (g (8 + 20 * A0.toNat + A1.toNat)))) (some (mo_iv (g (8 + 20 * A0.toNat + A1.toNat)))) G1 Mo t1 ∧ M1 = mo_ur Mo ou (va_up (Mo ou) 0 ((g (8 + 20 * A0.toNat + A1.toNat)).bmod (2 ^ 32)))) ∨ ∃ E, (fun E G' M' t' => G' = G ∧ M' = M ∧ t ≤ t' ∧ ((E = mo_IOE ∧ ¬ (0 ≤ A0 ∧ A0 < g 4)) ∨ (E = mo_IAE ∧ (0 ≤ A0 ∧ A0 < g 4) ∧ ¬ (0 ≤ A1 ∧ A1 ≤ 19)))) E G1 M1 t1 ∧ ((E = mo_IOE ∧ k = 1) ∨ (E = mo_IAE ∧ k = 2))) : mo_L1 G G1 M M1 x ou ∧ ∀ (b : Int) (M2 : mo_M), (fun x M' => (¬ (0 ≤ A0 ∧ A0 < M1 (m + 1) 4) ∧ x = 0 ∧ mo_Qr M1 M' m 1) ∨ ((0 ≤ A0 ∧ A0 < M1 (m + 1) 4) ∧ ¬ (0 ≤ A1 ∧ A1 ≤ 19) ∧ x = 0 ∧ mo_Qr M1 M' m 2) ∨ ((0 ≤ A0 ∧ A0 < M1 (m + 1) 4) ∧ (0 ≤ A1 ∧ A1 ≤ 19) ∧ x = M1 (m + 1) (8 + 20 * A0.toNat + A1.toNat) ∧ mo_Qr M1 M' m 0)) b M2 → mo_L2 G1 M2 x m ou (B + 4000) k b := by
  obtain ⟨L1, L2, L3, L4, L5, L6, L7, L8, L9, L10, L11, L12⟩ := id L
  obtain ⟨hI0, hI1, hI2, hI3, hI4, hI5, hI6, hI7, -⟩ := id L8
  subst hg hT hS
  rcases hk with ⟨hk0, Mo, hp, hM1⟩ | ⟨E, hp, hE⟩
  · obtain ⟨hG1, ht1, hMo, c1, c2, -⟩ := hp
    have hL1 : mo_L1 G G1 M M1 x ou := ⟨⟨by rw [hG1], fun b hb => by rw [hG1]⟩, fun a h1 h2 => by rw [hM1, mo_ur_n h2, hMo]⟩
    have hCI : mo_CI G1 M1 x (M (m + 1)) n (M (m + 8)) sv (fun i k => M (m + 2) (640 * i + k)) s := by rw [hM1, hMo, hG1]; exact mo_CI_ou L3 (by omega)
    refine ⟨hL1, fun b M2 hb => ?_⟩
    have e1 : M1 (m + 1) = M (m + 1) := hL1.2 (m + 1) (by omega) (by omega)
    rw [e1] at hb
    rcases hb with ⟨np1, hb1, hb2⟩ | ⟨p1, np2, hb1, hb2⟩ | ⟨p1, p2, hb1, hb2⟩
    · exact absurd c1 np1
    · exact absurd c2 np2
    · exact mo_endQ L hL1 hCI hb2 hk0 (by omega) (fun _ => by rw [hM1, mo_ur_s, mo_up_s, hb1])
  · obtain ⟨hG1, hMM, ht1, hd⟩ := hp
    have hL1 : mo_L1 G G1 M M1 x ou := ⟨⟨by rw [hG1], fun b hb => by rw [hG1]⟩, fun a h1 h2 => by rw [hMM]⟩
    have hCI : mo_CI G1 M1 x (M (m + 1)) n (M (m + 8)) sv (fun i k => M (m + 2) (640 * i + k)) s := by rw [hMM, hG1]; exact L3
    rcases hd with ⟨d1, nd1⟩ | ⟨d2, c1, nd2⟩
    · rcases hE with ⟨f1, hk0⟩ | ⟨f2, hk0⟩
      · skip
        refine ⟨hL1, fun b M2 hb => ?_⟩
        have e1 : M1 (m + 1) = M (m + 1) := hL1.2 (m + 1) (by omega) (by omega)
        rw [e1] at hb
        rcases hb with ⟨np1, hb1, hb2⟩ | ⟨p1, np2, hb1, hb2⟩ | ⟨p1, p2, hb1, hb2⟩
        · exact mo_endQ L hL1 hCI hb2 hk0 (by omega) (fun h => by omega)
        · exact absurd p1 nd1
        · exact absurd p1 nd1
      · exact absurd (d1.symm.trans f2) mo_neIA
    · rcases hE with ⟨f1, hk0⟩ | ⟨f2, hk0⟩
      · exact absurd (d2.symm.trans f1) mo_neIA.symm
      · skip
        refine ⟨hL1, fun b M2 hb => ?_⟩
        have e1 : M1 (m + 1) = M (m + 1) := hL1.2 (m + 1) (by omega) (by omega)
        rw [e1] at hb
        rcases hb with ⟨np1, hb1, hb2⟩ | ⟨p1, np2, hb1, hb2⟩ | ⟨p1, p2, hb1, hb2⟩
        · exact absurd c1 np1
        · exact mo_endQ L hL1 hCI hb2 hk0 (by omega) (fun h => by omega)
        · exact absurd p2 nd2
set_option maxHeartbeats 1000000 in
theorem lj_owed {G : mo_G} {M : mo_M} {t x m ou n sv s : Nat} {B : Int} {A0 A1 : Int} {G1 : mo_G} {M1 : mo_M} {t1 : Nat} {k : Int} {g T : Nat → Int} {S : Nat → Nat → Int} (L : mo_LI G M x m ou n sv s B) (hg : g = M (m + 1)) (hT : T = M (m + 8)) (hS : S = fun i k => M (m + 2) (640 * i + k)) (hk : (k = 0 ∧ ∃ Mo, (fun u G' M' t' => G' = G ∧ t' = t ∧ M' = M ∧ (0 ≤ A0 ∧ A0 < g 4) ∧ (0 ≤ A1 ∧ A1 ≤ 19) ∧ u = some (mo_iv (mo_ow g A0.toNat A1.toNat))) (some (mo_iv (mo_ow g A0.toNat A1.toNat))) G1 Mo t1 ∧ M1 = mo_ur Mo ou (va_up (Mo ou) 0 ((mo_ow g A0.toNat A1.toNat).bmod (2 ^ 32)))) ∨ ∃ E, (fun E G' M' t' => G' = G ∧ M' = M ∧ t ≤ t' ∧ ((E = mo_IOE ∧ ¬ (0 ≤ A0 ∧ A0 < g 4)) ∨ (E = mo_IAE ∧ (0 ≤ A0 ∧ A0 < g 4) ∧ ¬ (0 ≤ A1 ∧ A1 ≤ 19)))) E G1 M1 t1 ∧ ((E = mo_IOE ∧ k = 1) ∨ (E = mo_IAE ∧ k = 2))) : mo_L1 G G1 M M1 x ou ∧ ∀ (b : Int) (M2 : mo_M), (fun x M' => (¬ (0 ≤ A0 ∧ A0 < M1 (m + 1) 4) ∧ x = 0 ∧ mo_Qr M1 M' m 1) ∨ ((0 ≤ A0 ∧ A0 < M1 (m + 1) 4) ∧ ¬ (0 ≤ A1 ∧ A1 ≤ 19) ∧ x = 0 ∧ mo_Qr M1 M' m 2) ∨ ((0 ≤ A0 ∧ A0 < M1 (m + 1) 4) ∧ (0 ≤ A1 ∧ A1 ≤ 19) ∧ x = mo_ow (M1 (m + 1)) A0.toNat A1.toNat ∧ mo_Qr M1 M' m 0)) b M2 → mo_L2 G1 M2 x m ou (B + 4000) k b := by
  obtain ⟨L1, L2, L3, L4, L5, L6, L7, L8, L9, L10, L11, L12⟩ := id L
  obtain ⟨hI0, hI1, hI2, hI3, hI4, hI5, hI6, hI7, -⟩ := id L8
  subst hg hT hS
  rcases hk with ⟨hk0, Mo, hp, hM1⟩ | ⟨E, hp, hE⟩
  · obtain ⟨hG1, ht1, hMo, c1, c2, -⟩ := hp
    have hL1 : mo_L1 G G1 M M1 x ou := ⟨⟨by rw [hG1], fun b hb => by rw [hG1]⟩, fun a h1 h2 => by rw [hM1, mo_ur_n h2, hMo]⟩
    have hCI : mo_CI G1 M1 x (M (m + 1)) n (M (m + 8)) sv (fun i k => M (m + 2) (640 * i + k)) s := by rw [hM1, hMo, hG1]; exact mo_CI_ou L3 (by omega)
    refine ⟨hL1, fun b M2 hb => ?_⟩
    have e1 : M1 (m + 1) = M (m + 1) := hL1.2 (m + 1) (by omega) (by omega)
    rw [e1] at hb
    rcases hb with ⟨np1, hb1, hb2⟩ | ⟨p1, np2, hb1, hb2⟩ | ⟨p1, p2, hb1, hb2⟩
    · exact absurd c1 np1
    · exact absurd c2 np2
    · exact mo_endQ L hL1 hCI hb2 hk0 (by omega) (fun _ => by rw [hM1, mo_ur_s, mo_up_s, hb1])
  · obtain ⟨hG1, hMM, ht1, hd⟩ := hp
    have hL1 : mo_L1 G G1 M M1 x ou := ⟨⟨by rw [hG1], fun b hb => by rw [hG1]⟩, fun a h1 h2 => by rw [hMM]⟩
    have hCI : mo_CI G1 M1 x (M (m + 1)) n (M (m + 8)) sv (fun i k => M (m + 2) (640 * i + k)) s := by rw [hMM, hG1]; exact L3
    rcases hd with ⟨d1, nd1⟩ | ⟨d2, c1, nd2⟩
    · rcases hE with ⟨f1, hk0⟩ | ⟨f2, hk0⟩
      · skip
        refine ⟨hL1, fun b M2 hb => ?_⟩
        have e1 : M1 (m + 1) = M (m + 1) := hL1.2 (m + 1) (by omega) (by omega)
        rw [e1] at hb
        rcases hb with ⟨np1, hb1, hb2⟩ | ⟨p1, np2, hb1, hb2⟩ | ⟨p1, p2, hb1, hb2⟩
        · exact mo_endQ L hL1 hCI hb2 hk0 (by omega) (fun h => by omega)
        · exact absurd p1 nd1
        · exact absurd p1 nd1
      · exact absurd (d1.symm.trans f2) mo_neIA
    · rcases hE with ⟨f1, hk0⟩ | ⟨f2, hk0⟩
      · exact absurd (d2.symm.trans f1) mo_neIA.symm
      · skip
        refine ⟨hL1, fun b M2 hb => ?_⟩
        have e1 : M1 (m + 1) = M (m + 1) := hL1.2 (m + 1) (by omega) (by omega)
        rw [e1] at hb
        rcases hb with ⟨np1, hb1, hb2⟩ | ⟨p1, np2, hb1, hb2⟩ | ⟨p1, p2, hb1, hb2⟩
        · exact absurd c1 np1
        · exact mo_endQ L hL1 hCI hb2 hk0 (by omega) (fun h => by omega)
        · exact absurd p2 nd2
set_option maxHeartbeats 1000000 in
theorem lj_meeting {G : mo_G} {M : mo_M} {t x m ou n sv s : Nat} {B : Int} {A0 A1 : Int} {pl : Int} {G1 : mo_G} {M1 : mo_M} {t1 : Nat} {k : Int} {g T : Nat → Int} {S : Nat → Nat → Int} (L : mo_LI G M x m ou n sv s B) (hg : g = M (m + 1)) (hT : T = M (m + 8)) (hS : S = fun i k => M (m + 2) (640 * i + k)) (hpl : pl = mo_ff (fun k => decide (mo_fld g k 0 = A0)) (mo_nk g)) (hk : (k = 0 ∧ ∃ Mo, (fun u G' M' t' => G' = G ∧ t' = t ∧ M' = M ∧ (pl ≠ -1) ∧ (0 ≤ A1 ∧ A1 ≤ 5) ∧ u = some (mo_iv (mo_fld g pl.toNat (A1.toNat + 1)))) (some (mo_iv (mo_fld g pl.toNat (A1.toNat + 1)))) G1 Mo t1 ∧ M1 = mo_ur Mo ou (va_up (Mo ou) 0 ((mo_fld g pl.toNat (A1.toNat + 1)).bmod (2 ^ 32)))) ∨ ∃ E, (fun E G' M' t' => G' = G ∧ M' = M ∧ t ≤ t' ∧ ((E = mo_IOE ∧ ¬ (pl ≠ -1)) ∨ (E = mo_IAE ∧ (pl ≠ -1) ∧ ¬ (0 ≤ A1 ∧ A1 ≤ 5)))) E G1 M1 t1 ∧ ((E = mo_IOE ∧ k = 1) ∨ (E = mo_IAE ∧ k = 2))) : mo_L1 G G1 M M1 x ou ∧ ∀ (b : Int) (M2 : mo_M), (fun x M' => (¬ (pl ≠ -1) ∧ x = 0 ∧ mo_Qr M1 M' m 1) ∨ ((pl ≠ -1) ∧ ¬ (0 ≤ A1 ∧ A1 ≤ 5) ∧ x = 0 ∧ mo_Qr M1 M' m 2) ∨ ((pl ≠ -1) ∧ (0 ≤ A1 ∧ A1 ≤ 5) ∧ x = mo_fld (M1 (m + 1)) pl.toNat (A1.toNat + 1) ∧ mo_Qr M1 M' m 0)) b M2 → mo_L2 G1 M2 x m ou (B + 4000) k b := by
  obtain ⟨L1, L2, L3, L4, L5, L6, L7, L8, L9, L10, L11, L12⟩ := id L
  obtain ⟨hI0, hI1, hI2, hI3, hI4, hI5, hI6, hI7, -⟩ := id L8
  subst hg hT hS
  have hplb : pl = -1 ∨ (0 ≤ pl ∧ pl < M (m + 1) 7) := by
    have hnk : ((mo_nk (M (m + 1)) : Nat) : Int) = M (m + 1) 7 := by unfold mo_nk; omega
    rw [hpl]
    rcases mo_ff_cases (fun k => decide (mo_fld (M (m + 1)) k 0 = A0)) (mo_nk (M (m + 1))) with ⟨pf1, pf2⟩ | ⟨pk, pf1, pf2, pf3, pf4⟩
    · exact Or.inl pf1
    · exact Or.inr (by omega)
  rcases hk with ⟨hk0, Mo, hp, hM1⟩ | ⟨E, hp, hE⟩
  · obtain ⟨hG1, ht1, hMo, c1, c2, -⟩ := hp
    have hL1 : mo_L1 G G1 M M1 x ou := ⟨⟨by rw [hG1], fun b hb => by rw [hG1]⟩, fun a h1 h2 => by rw [hM1, mo_ur_n h2, hMo]⟩
    have hCI : mo_CI G1 M1 x (M (m + 1)) n (M (m + 8)) sv (fun i k => M (m + 2) (640 * i + k)) s := by rw [hM1, hMo, hG1]; exact mo_CI_ou L3 (by omega)
    refine ⟨hL1, fun b M2 hb => ?_⟩
    have e1 : M1 (m + 1) = M (m + 1) := hL1.2 (m + 1) (by omega) (by omega)
    rw [e1] at hb
    rcases hb with ⟨np1, hb1, hb2⟩ | ⟨p1, np2, hb1, hb2⟩ | ⟨p1, p2, hb1, hb2⟩
    · exact absurd c1 np1
    · exact absurd c2 np2
    · exact mo_endQ L hL1 hCI hb2 hk0 (by omega) (fun _ => by rw [hM1, mo_ur_s, mo_up_s, hb1])
  · obtain ⟨hG1, hMM, ht1, hd⟩ := hp
    have hL1 : mo_L1 G G1 M M1 x ou := ⟨⟨by rw [hG1], fun b hb => by rw [hG1]⟩, fun a h1 h2 => by rw [hMM]⟩
    have hCI : mo_CI G1 M1 x (M (m + 1)) n (M (m + 8)) sv (fun i k => M (m + 2) (640 * i + k)) s := by rw [hMM, hG1]; exact L3
    rcases hd with ⟨d1, nd1⟩ | ⟨d2, c1, nd2⟩
    · rcases hE with ⟨f1, hk0⟩ | ⟨f2, hk0⟩
      · skip
        refine ⟨hL1, fun b M2 hb => ?_⟩
        have e1 : M1 (m + 1) = M (m + 1) := hL1.2 (m + 1) (by omega) (by omega)
        rw [e1] at hb
        rcases hb with ⟨np1, hb1, hb2⟩ | ⟨p1, np2, hb1, hb2⟩ | ⟨p1, p2, hb1, hb2⟩
        · exact mo_endQ L hL1 hCI hb2 hk0 (by omega) (fun h => by omega)
        · exact absurd p1 nd1
        · exact absurd p1 nd1
      · exact absurd (d1.symm.trans f2) mo_neIA
    · rcases hE with ⟨f1, hk0⟩ | ⟨f2, hk0⟩
      · exact absurd (d2.symm.trans f1) mo_neIA.symm
      · skip
        refine ⟨hL1, fun b M2 hb => ?_⟩
        have e1 : M1 (m + 1) = M (m + 1) := hL1.2 (m + 1) (by omega) (by omega)
        rw [e1] at hb
        rcases hb with ⟨np1, hb1, hb2⟩ | ⟨p1, np2, hb1, hb2⟩ | ⟨p1, p2, hb1, hb2⟩
        · exact absurd c1 np1
        · exact mo_endQ L hL1 hCI hb2 hk0 (by omega) (fun h => by omega)
        · exact absurd p2 nd2
set_option maxHeartbeats 1000000 in
theorem lj_escort {G : mo_G} {M : mo_M} {t x m ou n sv s : Nat} {B : Int} {A0 A1 : Int} {G1 : mo_G} {M1 : mo_M} {t1 : Nat} {k : Int} {g T : Nat → Int} {S : Nat → Nat → Int} (L : mo_LI G M x m ou n sv s B) (hg : g = M (m + 1)) (hT : T = M (m + 8)) (hS : S = fun i k => M (m + 2) (640 * i + k)) (hk : (k = 0 ∧ ∃ Mo, (fun u G' M' t' => G' = G ∧ t' = t ∧ M' = M ∧ (0 ≤ A0 ∧ A0 < g 5) ∧ (0 ≤ A1 ∧ A1 ≤ 3) ∧ u = some (mo_iv (mo_ev g A0.toNat A1))) (some (mo_iv (mo_ev g A0.toNat A1))) G1 Mo t1 ∧ M1 = mo_ur Mo ou (va_up (Mo ou) 0 ((mo_ev g A0.toNat A1).bmod (2 ^ 32)))) ∨ ∃ E, (fun E G' M' t' => G' = G ∧ M' = M ∧ t ≤ t' ∧ ((E = mo_IOE ∧ ¬ (0 ≤ A0 ∧ A0 < g 5)) ∨ (E = mo_IAE ∧ (0 ≤ A0 ∧ A0 < g 5) ∧ ¬ (0 ≤ A1 ∧ A1 ≤ 3)))) E G1 M1 t1 ∧ ((E = mo_IOE ∧ k = 1) ∨ (E = mo_IAE ∧ k = 2))) : mo_L1 G G1 M M1 x ou ∧ ∀ (b : Int) (M2 : mo_M), (fun x M' => (¬ (0 ≤ A0 ∧ A0 < M1 (m + 1) 5) ∧ x = 0 ∧ mo_Qr M1 M' m 1) ∨ ((0 ≤ A0 ∧ A0 < M1 (m + 1) 5) ∧ ¬ (0 ≤ A1 ∧ A1 ≤ 3) ∧ x = 0 ∧ mo_Qr M1 M' m 2) ∨ ((0 ≤ A0 ∧ A0 < M1 (m + 1) 5) ∧ (0 ≤ A1 ∧ A1 ≤ 3) ∧ x = mo_ev (M1 (m + 1)) A0.toNat A1 ∧ mo_Qr M1 M' m 0)) b M2 → mo_L2 G1 M2 x m ou (B + 4000) k b := by
  obtain ⟨L1, L2, L3, L4, L5, L6, L7, L8, L9, L10, L11, L12⟩ := id L
  obtain ⟨hI0, hI1, hI2, hI3, hI4, hI5, hI6, hI7, -⟩ := id L8
  subst hg hT hS
  rcases hk with ⟨hk0, Mo, hp, hM1⟩ | ⟨E, hp, hE⟩
  · obtain ⟨hG1, ht1, hMo, c1, c2, -⟩ := hp
    have hL1 : mo_L1 G G1 M M1 x ou := ⟨⟨by rw [hG1], fun b hb => by rw [hG1]⟩, fun a h1 h2 => by rw [hM1, mo_ur_n h2, hMo]⟩
    have hCI : mo_CI G1 M1 x (M (m + 1)) n (M (m + 8)) sv (fun i k => M (m + 2) (640 * i + k)) s := by rw [hM1, hMo, hG1]; exact mo_CI_ou L3 (by omega)
    refine ⟨hL1, fun b M2 hb => ?_⟩
    have e1 : M1 (m + 1) = M (m + 1) := hL1.2 (m + 1) (by omega) (by omega)
    rw [e1] at hb
    rcases hb with ⟨np1, hb1, hb2⟩ | ⟨p1, np2, hb1, hb2⟩ | ⟨p1, p2, hb1, hb2⟩
    · exact absurd c1 np1
    · exact absurd c2 np2
    · exact mo_endQ L hL1 hCI hb2 hk0 (by omega) (fun _ => by rw [hM1, mo_ur_s, mo_up_s, hb1])
  · obtain ⟨hG1, hMM, ht1, hd⟩ := hp
    have hL1 : mo_L1 G G1 M M1 x ou := ⟨⟨by rw [hG1], fun b hb => by rw [hG1]⟩, fun a h1 h2 => by rw [hMM]⟩
    have hCI : mo_CI G1 M1 x (M (m + 1)) n (M (m + 8)) sv (fun i k => M (m + 2) (640 * i + k)) s := by rw [hMM, hG1]; exact L3
    rcases hd with ⟨d1, nd1⟩ | ⟨d2, c1, nd2⟩
    · rcases hE with ⟨f1, hk0⟩ | ⟨f2, hk0⟩
      · skip
        refine ⟨hL1, fun b M2 hb => ?_⟩
        have e1 : M1 (m + 1) = M (m + 1) := hL1.2 (m + 1) (by omega) (by omega)
        rw [e1] at hb
        rcases hb with ⟨np1, hb1, hb2⟩ | ⟨p1, np2, hb1, hb2⟩ | ⟨p1, p2, hb1, hb2⟩
        · exact mo_endQ L hL1 hCI hb2 hk0 (by omega) (fun h => by omega)
        · exact absurd p1 nd1
        · exact absurd p1 nd1
      · exact absurd (d1.symm.trans f2) mo_neIA
    · rcases hE with ⟨f1, hk0⟩ | ⟨f2, hk0⟩
      · exact absurd (d2.symm.trans f1) mo_neIA.symm
      · skip
        refine ⟨hL1, fun b M2 hb => ?_⟩
        have e1 : M1 (m + 1) = M (m + 1) := hL1.2 (m + 1) (by omega) (by omega)
        rw [e1] at hb
        rcases hb with ⟨np1, hb1, hb2⟩ | ⟨p1, np2, hb1, hb2⟩ | ⟨p1, p2, hb1, hb2⟩
        · exact absurd c1 np1
        · exact mo_endQ L hL1 hCI hb2 hk0 (by omega) (fun h => by omega)
        · exact absurd p2 nd2
set_option maxHeartbeats 1000000 in
theorem lj_freeRooms {G : mo_G} {M : mo_M} {t x m ou n sv s : Nat} {B : Int} {A0 A1 A2 : Int} {G1 : mo_G} {M1 : mo_M} {t1 : Nat} {k : Int} {g T : Nat → Int} {S : Nat → Nat → Int} (L : mo_LI G M x m ou n sv s B) (hg : g = M (m + 1)) (hT : T = M (m + 8)) (hS : S = fun i k => M (m + 2) (640 * i + k)) (hk : (k = 0 ∧ ∃ Mo, (fun u G' M' t' => G' = G ∧ t' = t ∧ (∀ a, (a < x + 20 ∨ x + 38 < a) → (a < x + 116 ∨ x + 126 < a) → M' a = M a) ∧ (0 ≤ A0 ∧ A0 < g 6) ∧ ((0 ≤ A1 ∧ A1 ≤ 19) ∧ (0 ≤ A2 ∧ A2 ≤ 27)) ∧ u = some (mo_iv (mo_fre g A1 (mo_nk g) (28 * A0.toNat + A2.toNat)))) (some (mo_iv (mo_fre g A1 (mo_nk g) (28 * A0.toNat + A2.toNat)))) G1 Mo t1 ∧ M1 = mo_ur Mo ou (va_up (Mo ou) 0 ((mo_fre g A1 (mo_nk g) (28 * A0.toNat + A2.toNat)).bmod (2 ^ 32)))) ∨ ∃ E, (fun E G' M' t' => G' = G ∧ M' = M ∧ t ≤ t' ∧ ((E = mo_IOE ∧ ¬ (0 ≤ A0 ∧ A0 < g 6)) ∨ (E = mo_IAE ∧ (0 ≤ A0 ∧ A0 < g 6) ∧ ¬ ((0 ≤ A1 ∧ A1 ≤ 19) ∧ (0 ≤ A2 ∧ A2 ≤ 27))))) E G1 M1 t1 ∧ ((E = mo_IOE ∧ k = 1) ∨ (E = mo_IAE ∧ k = 2))) : mo_L1 G G1 M M1 x ou ∧ ∀ (b : Int) (M2 : mo_M), (fun x M' => (¬ (0 ≤ A0 ∧ A0 < M1 (m + 1) 6) ∧ x = 0 ∧ mo_Qr M1 M' m 1) ∨ ((0 ≤ A0 ∧ A0 < M1 (m + 1) 6) ∧ ¬ ((0 ≤ A1 ∧ A1 ≤ 19) ∧ (0 ≤ A2 ∧ A2 ≤ 27)) ∧ x = 0 ∧ mo_Qr M1 M' m 2) ∨ ((0 ≤ A0 ∧ A0 < M1 (m + 1) 6) ∧ ((0 ≤ A1 ∧ A1 ≤ 19) ∧ (0 ≤ A2 ∧ A2 ≤ 27)) ∧ x = mo_fre (M1 (m + 1)) A1 (mo_nk (M1 (m + 1))) (28 * A0.toNat + A2.toNat) ∧ mo_Qr M1 M' m 0)) b M2 → mo_L2 G1 M2 x m ou (B + 4000) k b := by
  obtain ⟨L1, L2, L3, L4, L5, L6, L7, L8, L9, L10, L11, L12⟩ := id L
  obtain ⟨hI0, hI1, hI2, hI3, hI4, hI5, hI6, hI7, -⟩ := id L8
  subst hg hT hS
  rcases hk with ⟨hk0, Mo, hp, hM1⟩ | ⟨E, hp, hE⟩
  · obtain ⟨hG1, ht1, hMo, c1, c2, -⟩ := hp
    have hL1 : mo_L1 G G1 M M1 x ou := ⟨⟨by rw [hG1], fun b hb => by rw [hG1]⟩, fun a h1 h2 => by rw [hM1, mo_ur_n h2]; exact hMo a (by omega) (by omega)⟩
    have hCI : mo_CI G1 M1 x (M (m + 1)) n (M (m + 8)) sv (fun i k => M (m + 2) (640 * i + k)) s := by rw [hM1, hG1]; exact mo_CI_ou (mo_CI_up L3 (mo_SR_fr L3.2.2.1 fun a a1 a2 => hMo a (by omega) (by omega)) fun a a1 a2 => hMo a (by omega) (by omega)) (by omega)
    refine ⟨hL1, fun b M2 hb => ?_⟩
    have e1 : M1 (m + 1) = M (m + 1) := hL1.2 (m + 1) (by omega) (by omega)
    rw [e1] at hb
    rcases hb with ⟨np1, hb1, hb2⟩ | ⟨p1, np2, hb1, hb2⟩ | ⟨p1, p2, hb1, hb2⟩
    · exact absurd c1 np1
    · exact absurd c2 np2
    · exact mo_endQ L hL1 hCI hb2 hk0 (by omega) (fun _ => by rw [hM1, mo_ur_s, mo_up_s, hb1])
  · obtain ⟨hG1, hMM, ht1, hd⟩ := hp
    have hL1 : mo_L1 G G1 M M1 x ou := ⟨⟨by rw [hG1], fun b hb => by rw [hG1]⟩, fun a h1 h2 => by rw [hMM]⟩
    have hCI : mo_CI G1 M1 x (M (m + 1)) n (M (m + 8)) sv (fun i k => M (m + 2) (640 * i + k)) s := by rw [hMM, hG1]; exact L3
    rcases hd with ⟨d1, nd1⟩ | ⟨d2, c1, nd2⟩
    · rcases hE with ⟨f1, hk0⟩ | ⟨f2, hk0⟩
      · skip
        refine ⟨hL1, fun b M2 hb => ?_⟩
        have e1 : M1 (m + 1) = M (m + 1) := hL1.2 (m + 1) (by omega) (by omega)
        rw [e1] at hb
        rcases hb with ⟨np1, hb1, hb2⟩ | ⟨p1, np2, hb1, hb2⟩ | ⟨p1, p2, hb1, hb2⟩
        · exact mo_endQ L hL1 hCI hb2 hk0 (by omega) (fun h => by omega)
        · exact absurd p1 nd1
        · exact absurd p1 nd1
      · exact absurd (d1.symm.trans f2) mo_neIA
    · rcases hE with ⟨f1, hk0⟩ | ⟨f2, hk0⟩
      · exact absurd (d2.symm.trans f1) mo_neIA.symm
      · skip
        refine ⟨hL1, fun b M2 hb => ?_⟩
        have e1 : M1 (m + 1) = M (m + 1) := hL1.2 (m + 1) (by omega) (by omega)
        rw [e1] at hb
        rcases hb with ⟨np1, hb1, hb2⟩ | ⟨p1, np2, hb1, hb2⟩ | ⟨p1, p2, hb1, hb2⟩
        · exact absurd c1 np1
        · exact mo_endQ L hL1 hCI hb2 hk0 (by omega) (fun h => by omega)
        · exact absurd p2 nd2
set_option maxHeartbeats 1000000 in
theorem lj_value {G : mo_G} {M : mo_M} {t x m ou n sv s : Nat} {B : Int} {A0 : Int} {G1 : mo_G} {M1 : mo_M} {t1 : Nat} {k : Int} {g T : Nat → Int} {S : Nat → Nat → Int} (L : mo_LI G M x m ou n sv s B) (hg : g = M (m + 1)) (hT : T = M (m + 8)) (hS : S = fun i k => M (m + 2) (640 * i + k)) (hk : (k = 0 ∧ ∃ Mo, (fun u G' M' t' => G' = G ∧ t' = t ∧ M' = M ∧ (0 ≤ A0 ∧ A0 ≤ 9) ∧ u = some (mo_iv (mo_nv g A0))) (some (mo_iv (mo_nv g A0))) G1 Mo t1 ∧ M1 = mo_ur Mo ou (va_up (Mo ou) 0 ((mo_nv g A0).bmod (2 ^ 32)))) ∨ ∃ E, (fun E G' M' t' => G' = G ∧ M' = M ∧ t ≤ t' ∧ (E = mo_IAE ∧ ¬ (0 ≤ A0 ∧ A0 ≤ 9))) E G1 M1 t1 ∧ ((E = mo_IAE ∧ k = 1))) : mo_L1 G G1 M M1 x ou ∧ ∀ (b : Int) (M2 : mo_M), (fun x M' => (¬ (0 ≤ A0 ∧ A0 ≤ 9) ∧ x = 0 ∧ mo_Qr M1 M' m 1) ∨ ((0 ≤ A0 ∧ A0 ≤ 9) ∧ x = mo_nv (M1 (m + 1)) A0 ∧ mo_Qr M1 M' m 0)) b M2 → mo_L2 G1 M2 x m ou (B + 4000) k b := by
  obtain ⟨L1, L2, L3, L4, L5, L6, L7, L8, L9, L10, L11, L12⟩ := id L
  obtain ⟨hI0, hI1, hI2, hI3, hI4, hI5, hI6, hI7, -⟩ := id L8
  subst hg hT hS
  rcases hk with ⟨hk0, Mo, hp, hM1⟩ | ⟨E, hp, hE⟩
  · obtain ⟨hG1, ht1, hMo, c1, -⟩ := hp
    have hL1 : mo_L1 G G1 M M1 x ou := ⟨⟨by rw [hG1], fun b hb => by rw [hG1]⟩, fun a h1 h2 => by rw [hM1, mo_ur_n h2, hMo]⟩
    have hCI : mo_CI G1 M1 x (M (m + 1)) n (M (m + 8)) sv (fun i k => M (m + 2) (640 * i + k)) s := by rw [hM1, hMo, hG1]; exact mo_CI_ou L3 (by omega)
    refine ⟨hL1, fun b M2 hb => ?_⟩
    have e1 : M1 (m + 1) = M (m + 1) := hL1.2 (m + 1) (by omega) (by omega)
    rw [e1] at hb
    rcases hb with ⟨np1, hb1, hb2⟩ | ⟨p1, hb1, hb2⟩
    · exact absurd c1 np1
    · exact mo_endQ L hL1 hCI hb2 hk0 (by omega) (fun _ => by rw [hM1, mo_ur_s, mo_up_s, hb1])
  · obtain ⟨hG1, hMM, ht1, hd⟩ := hp
    have hL1 : mo_L1 G G1 M M1 x ou := ⟨⟨by rw [hG1], fun b hb => by rw [hG1]⟩, fun a h1 h2 => by rw [hMM]⟩
    have hCI : mo_CI G1 M1 x (M (m + 1)) n (M (m + 8)) sv (fun i k => M (m + 2) (640 * i + k)) s := by rw [hMM, hG1]; exact L3
    rcases hd with ⟨d1, nd1⟩
    · rcases hE with ⟨f1, hk0⟩
      · skip
        refine ⟨hL1, fun b M2 hb => ?_⟩
        have e1 : M1 (m + 1) = M (m + 1) := hL1.2 (m + 1) (by omega) (by omega)
        rw [e1] at hb
        rcases hb with ⟨np1, hb1, hb2⟩ | ⟨p1, hb1, hb2⟩
        · exact mo_endQ L hL1 hCI hb2 hk0 (by omega) (fun h => by omega)
        · exact absurd p1 nd1
set_option maxHeartbeats 1000000 in
theorem lj_why {G : mo_G} {M : mo_M} {t x m ou n sv s : Nat} {B : Int} {A0 A1 A2 A3 A4 : Int} {G1 : mo_G} {M1 : mo_M} {t1 : Nat} {k : Int} {g T : Nat → Int} {S : Nat → Nat → Int} (L : mo_LI G M x m ou n sv s B) (hg : g = M (m + 1)) (hT : T = M (m + 8)) (hS : S = fun i k => M (m + 2) (640 * i + k)) (hk : (k = 0 ∧ ∃ Mo, (fun u G' M' t' => G' = G ∧ t' = t ∧ (∀ A0, (A0 < x + 20 ∨ x + 38 < A0) → (A0 < x + 116 ∨ x + 126 < A0) → M' A0 = M A0) ∧ ((0 ≤ A0 ∧ A0 < g 4) ∧ (0 ≤ A3 ∧ A3 < g 5) ∧ (0 ≤ A4 ∧ A4 < g 6)) ∧ ((0 ≤ A1 ∧ A1 ≤ 19) ∧ (0 ≤ A2 ∧ A2 ≤ 27)) ∧ u = some (mo_iv (mo_rs g A0.toNat A1.toNat A2.toNat A3.toNat A4.toNat))) (some (mo_iv (mo_rs g A0.toNat A1.toNat A2.toNat A3.toNat A4.toNat))) G1 Mo t1 ∧ M1 = mo_ur Mo ou (va_up (Mo ou) 0 ((mo_rs g A0.toNat A1.toNat A2.toNat A3.toNat A4.toNat).bmod (2 ^ 32)))) ∨ ∃ E, (fun E G' M' t' => G' = G ∧ M' = M ∧ t ≤ t' ∧ ((E = mo_IOE ∧ ¬ ((0 ≤ A0 ∧ A0 < g 4) ∧ (0 ≤ A3 ∧ A3 < g 5) ∧ (0 ≤ A4 ∧ A4 < g 6))) ∨ (E = mo_IAE ∧ ((0 ≤ A0 ∧ A0 < g 4) ∧ (0 ≤ A3 ∧ A3 < g 5) ∧ (0 ≤ A4 ∧ A4 < g 6)) ∧ ¬ ((0 ≤ A1 ∧ A1 ≤ 19) ∧ (0 ≤ A2 ∧ A2 ≤ 27))))) E G1 M1 t1 ∧ ((E = mo_IOE ∧ k = 1) ∨ (E = mo_IAE ∧ k = 2))) : mo_L1 G G1 M M1 x ou ∧ ∀ (b : Int) (M2 : mo_M), (fun x M' => (¬ ((0 ≤ A0 ∧ A0 < M1 (m + 1) 4) ∧ (0 ≤ A3 ∧ A3 < M1 (m + 1) 5) ∧ (0 ≤ A4 ∧ A4 < M1 (m + 1) 6)) ∧ x = 0 ∧ mo_Qr M1 M' m 1) ∨ (((0 ≤ A0 ∧ A0 < M1 (m + 1) 4) ∧ (0 ≤ A3 ∧ A3 < M1 (m + 1) 5) ∧ (0 ≤ A4 ∧ A4 < M1 (m + 1) 6)) ∧ ¬ ((0 ≤ A1 ∧ A1 ≤ 19) ∧ (0 ≤ A2 ∧ A2 ≤ 27)) ∧ x = 0 ∧ mo_Qr M1 M' m 2) ∨ (((0 ≤ A0 ∧ A0 < M1 (m + 1) 4) ∧ (0 ≤ A3 ∧ A3 < M1 (m + 1) 5) ∧ (0 ≤ A4 ∧ A4 < M1 (m + 1) 6)) ∧ ((0 ≤ A1 ∧ A1 ≤ 19) ∧ (0 ≤ A2 ∧ A2 ≤ 27)) ∧ x = mo_rs (M1 (m + 1)) A0.toNat A1.toNat A2.toNat A3.toNat A4.toNat ∧ mo_Qr M1 M' m 0)) b M2 → mo_L2 G1 M2 x m ou (B + 4000) k b := by
  obtain ⟨L1, L2, L3, L4, L5, L6, L7, L8, L9, L10, L11, L12⟩ := id L
  obtain ⟨hI0, hI1, hI2, hI3, hI4, hI5, hI6, hI7, -⟩ := id L8
  subst hg hT hS
  rcases hk with ⟨hk0, Mo, hp, hM1⟩ | ⟨E, hp, hE⟩
  · obtain ⟨hG1, ht1, hMo, c1, c2, -⟩ := hp
    have hL1 : mo_L1 G G1 M M1 x ou := ⟨⟨by rw [hG1], fun b hb => by rw [hG1]⟩, fun a h1 h2 => by rw [hM1, mo_ur_n h2]; exact hMo a (by omega) (by omega)⟩
    have hCI : mo_CI G1 M1 x (M (m + 1)) n (M (m + 8)) sv (fun i k => M (m + 2) (640 * i + k)) s := by rw [hM1, hG1]; exact mo_CI_ou (mo_CI_up L3 (mo_SR_fr L3.2.2.1 fun a a1 a2 => hMo a (by omega) (by omega)) fun a a1 a2 => hMo a (by omega) (by omega)) (by omega)
    refine ⟨hL1, fun b M2 hb => ?_⟩
    have e1 : M1 (m + 1) = M (m + 1) := hL1.2 (m + 1) (by omega) (by omega)
    rw [e1] at hb
    rcases hb with ⟨np1, hb1, hb2⟩ | ⟨p1, np2, hb1, hb2⟩ | ⟨p1, p2, hb1, hb2⟩
    · exact absurd c1 np1
    · exact absurd c2 np2
    · exact mo_endQ L hL1 hCI hb2 hk0 (by omega) (fun _ => by rw [hM1, mo_ur_s, mo_up_s, hb1])
  · obtain ⟨hG1, hMM, ht1, hd⟩ := hp
    have hL1 : mo_L1 G G1 M M1 x ou := ⟨⟨by rw [hG1], fun b hb => by rw [hG1]⟩, fun a h1 h2 => by rw [hMM]⟩
    have hCI : mo_CI G1 M1 x (M (m + 1)) n (M (m + 8)) sv (fun i k => M (m + 2) (640 * i + k)) s := by rw [hMM, hG1]; exact L3
    rcases hd with ⟨d1, nd1⟩ | ⟨d2, c1, nd2⟩
    · rcases hE with ⟨f1, hk0⟩ | ⟨f2, hk0⟩
      · skip
        refine ⟨hL1, fun b M2 hb => ?_⟩
        have e1 : M1 (m + 1) = M (m + 1) := hL1.2 (m + 1) (by omega) (by omega)
        rw [e1] at hb
        rcases hb with ⟨np1, hb1, hb2⟩ | ⟨p1, np2, hb1, hb2⟩ | ⟨p1, p2, hb1, hb2⟩
        · exact mo_endQ L hL1 hCI hb2 hk0 (by omega) (fun h => by omega)
        · exact absurd p1 nd1
        · exact absurd p1 nd1
      · exact absurd (d1.symm.trans f2) mo_neIA
    · rcases hE with ⟨f1, hk0⟩ | ⟨f2, hk0⟩
      · exact absurd (d2.symm.trans f1) mo_neIA.symm
      · skip
        refine ⟨hL1, fun b M2 hb => ?_⟩
        have e1 : M1 (m + 1) = M (m + 1) := hL1.2 (m + 1) (by omega) (by omega)
        rw [e1] at hb
        rcases hb with ⟨np1, hb1, hb2⟩ | ⟨p1, np2, hb1, hb2⟩ | ⟨p1, p2, hb1, hb2⟩
        · exact absurd c1 np1
        · exact mo_endQ L hL1 hCI hb2 hk0 (by omega) (fun h => by omega)
        · exact absurd p2 nd2
set_option maxHeartbeats 1000000 in
theorem lj_firstSlot {G : mo_G} {M : mo_M} {t x m ou n sv s : Nat} {B : Int} {A0 A1 : Int} {G1 : mo_G} {M1 : mo_M} {t1 : Nat} {k : Int} {g T : Nat → Int} {S : Nat → Nat → Int} (L : mo_LI G M x m ou n sv s B) (hg : g = M (m + 1)) (hT : T = M (m + 8)) (hS : S = fun i k => M (m + 2) (640 * i + k)) (hk : (k = 0 ∧ ∃ Mo, (fun u G' M' t' => G' = G ∧ t' = t ∧ (∀ a, (a < x + 20 ∨ x + 38 < a) → (a < x + 116 ∨ x + 126 < a) → M' a = M a) ∧ (0 ≤ A0 ∧ A0 < g 4) ∧ (0 ≤ A1 ∧ A1 ≤ 19) ∧ u = some (mo_iv (mo_sf g A1 A0.toNat))) (some (mo_iv (mo_sf g A1 A0.toNat))) G1 Mo t1 ∧ M1 = mo_ur Mo ou (va_up (Mo ou) 0 ((mo_sf g A1 A0.toNat).bmod (2 ^ 32)))) ∨ ∃ E, (fun E G' M' t' => G' = G ∧ M' = M ∧ t ≤ t' ∧ ((E = mo_IOE ∧ ¬ (0 ≤ A0 ∧ A0 < g 4)) ∨ (E = mo_IAE ∧ (0 ≤ A0 ∧ A0 < g 4) ∧ ¬ (0 ≤ A1 ∧ A1 ≤ 19)))) E G1 M1 t1 ∧ ((E = mo_IOE ∧ k = 1) ∨ (E = mo_IAE ∧ k = 2))) : mo_L1 G G1 M M1 x ou ∧ ∀ (b : Int) (M2 : mo_M), (fun x M' => (¬ (0 ≤ A0 ∧ A0 < M1 (m + 1) 4) ∧ x = 0 ∧ mo_Qr M1 M' m 1) ∨ ((0 ≤ A0 ∧ A0 < M1 (m + 1) 4) ∧ ¬ (0 ≤ A1 ∧ A1 ≤ 19) ∧ x = 0 ∧ mo_Qr M1 M' m 2) ∨ ((0 ≤ A0 ∧ A0 < M1 (m + 1) 4) ∧ (0 ≤ A1 ∧ A1 ≤ 19) ∧ x = mo_sf (M1 (m + 1)) A1 A0.toNat ∧ mo_Qr M1 M' m 0)) b M2 → mo_L2 G1 M2 x m ou (B + 4000) k b := by
  obtain ⟨L1, L2, L3, L4, L5, L6, L7, L8, L9, L10, L11, L12⟩ := id L
  obtain ⟨hI0, hI1, hI2, hI3, hI4, hI5, hI6, hI7, -⟩ := id L8
  subst hg hT hS
  rcases hk with ⟨hk0, Mo, hp, hM1⟩ | ⟨E, hp, hE⟩
  · obtain ⟨hG1, ht1, hMo, c1, c2, -⟩ := hp
    have hL1 : mo_L1 G G1 M M1 x ou := ⟨⟨by rw [hG1], fun b hb => by rw [hG1]⟩, fun a h1 h2 => by rw [hM1, mo_ur_n h2]; exact hMo a (by omega) (by omega)⟩
    have hCI : mo_CI G1 M1 x (M (m + 1)) n (M (m + 8)) sv (fun i k => M (m + 2) (640 * i + k)) s := by rw [hM1, hG1]; exact mo_CI_ou (mo_CI_up L3 (mo_SR_fr L3.2.2.1 fun a a1 a2 => hMo a (by omega) (by omega)) fun a a1 a2 => hMo a (by omega) (by omega)) (by omega)
    refine ⟨hL1, fun b M2 hb => ?_⟩
    have e1 : M1 (m + 1) = M (m + 1) := hL1.2 (m + 1) (by omega) (by omega)
    rw [e1] at hb
    rcases hb with ⟨np1, hb1, hb2⟩ | ⟨p1, np2, hb1, hb2⟩ | ⟨p1, p2, hb1, hb2⟩
    · exact absurd c1 np1
    · exact absurd c2 np2
    · exact mo_endQ L hL1 hCI hb2 hk0 (by omega) (fun _ => by rw [hM1, mo_ur_s, mo_up_s, hb1])
  · obtain ⟨hG1, hMM, ht1, hd⟩ := hp
    have hL1 : mo_L1 G G1 M M1 x ou := ⟨⟨by rw [hG1], fun b hb => by rw [hG1]⟩, fun a h1 h2 => by rw [hMM]⟩
    have hCI : mo_CI G1 M1 x (M (m + 1)) n (M (m + 8)) sv (fun i k => M (m + 2) (640 * i + k)) s := by rw [hMM, hG1]; exact L3
    rcases hd with ⟨d1, nd1⟩ | ⟨d2, c1, nd2⟩
    · rcases hE with ⟨f1, hk0⟩ | ⟨f2, hk0⟩
      · skip
        refine ⟨hL1, fun b M2 hb => ?_⟩
        have e1 : M1 (m + 1) = M (m + 1) := hL1.2 (m + 1) (by omega) (by omega)
        rw [e1] at hb
        rcases hb with ⟨np1, hb1, hb2⟩ | ⟨p1, np2, hb1, hb2⟩ | ⟨p1, p2, hb1, hb2⟩
        · exact mo_endQ L hL1 hCI hb2 hk0 (by omega) (fun h => by omega)
        · exact absurd p1 nd1
        · exact absurd p1 nd1
      · exact absurd (d1.symm.trans f2) mo_neIA
    · rcases hE with ⟨f1, hk0⟩ | ⟨f2, hk0⟩
      · exact absurd (d2.symm.trans f1) mo_neIA.symm
      · skip
        refine ⟨hL1, fun b M2 hb => ?_⟩
        have e1 : M1 (m + 1) = M (m + 1) := hL1.2 (m + 1) (by omega) (by omega)
        rw [e1] at hb
        rcases hb with ⟨np1, hb1, hb2⟩ | ⟨p1, np2, hb1, hb2⟩ | ⟨p1, p2, hb1, hb2⟩
        · exact absurd c1 np1
        · exact mo_endQ L hL1 hCI hb2 hk0 (by omega) (fun h => by omega)
        · exact absurd p2 nd2
set_option maxHeartbeats 1000000 in
theorem lj_owedBehind {G : mo_G} {M : mo_M} {t x m ou n sv s : Nat} {B : Int} {A0 : Int} {G1 : mo_G} {M1 : mo_M} {t1 : Nat} {k : Int} {g T : Nat → Int} {S : Nat → Nat → Int} (L : mo_LI G M x m ou n sv s B) (hg : g = M (m + 1)) (hT : T = M (m + 8)) (hS : S = fun i k => M (m + 2) (640 * i + k)) (hk : (k = 0 ∧ ∃ Mo, (fun u G' M' t' => G' = G ∧ t' = t ∧ (∀ a, (a < x + 20 ∨ x + 38 < a) → (a < x + 116 ∨ x + 126 < a) → M' a = M a) ∧ (0 ≤ A0 ∧ A0 ≤ 19) ∧ (g 0 ≤ A0) ∧ u = some (mo_iv (mo_owa (mo_pl A0.toNat 61 g).2 A0.toNat))) (some (mo_iv (mo_owa (mo_pl A0.toNat 61 g).2 A0.toNat))) G1 Mo t1 ∧ M1 = mo_ur Mo ou (va_up (Mo ou) 0 ((mo_owa (mo_pl A0.toNat 61 g).2 A0.toNat).bmod (2 ^ 32)))) ∨ ∃ E, (fun E G' M' t' => G' = G ∧ M' = M ∧ t ≤ t' ∧ ((E = mo_IAE ∧ ¬ (0 ≤ A0 ∧ A0 ≤ 19)) ∨ (E = mo_ISE ∧ (0 ≤ A0 ∧ A0 ≤ 19) ∧ ¬ (g 0 ≤ A0)))) E G1 M1 t1 ∧ ((E = mo_IAE ∧ k = 1) ∨ (E = mo_ISE ∧ k = 2))) : mo_L1 G G1 M M1 x ou ∧ ∀ (b : Int) (M2 : mo_M), (fun x M' => (¬ (0 ≤ A0 ∧ A0 ≤ 19) ∧ x = 0 ∧ mo_Qr M1 M' m 1) ∨ ((0 ≤ A0 ∧ A0 ≤ 19) ∧ ¬ (M1 (m + 1) 0 ≤ A0) ∧ x = 0 ∧ mo_Qr M1 M' m 2) ∨ ((0 ≤ A0 ∧ A0 ≤ 19) ∧ (M1 (m + 1) 0 ≤ A0) ∧ x = mo_owa (mo_pl A0.toNat 61 (M1 (m + 1))).2 A0.toNat ∧ mo_Qr M1 M' m 0)) b M2 → mo_L2 G1 M2 x m ou (B + 4000) k b := by
  obtain ⟨L1, L2, L3, L4, L5, L6, L7, L8, L9, L10, L11, L12⟩ := id L
  obtain ⟨hI0, hI1, hI2, hI3, hI4, hI5, hI6, hI7, -⟩ := id L8
  subst hg hT hS
  rcases hk with ⟨hk0, Mo, hp, hM1⟩ | ⟨E, hp, hE⟩
  · obtain ⟨hG1, ht1, hMo, c1, c2, -⟩ := hp
    have hL1 : mo_L1 G G1 M M1 x ou := ⟨⟨by rw [hG1], fun b hb => by rw [hG1]⟩, fun a h1 h2 => by rw [hM1, mo_ur_n h2]; exact hMo a (by omega) (by omega)⟩
    have hCI : mo_CI G1 M1 x (M (m + 1)) n (M (m + 8)) sv (fun i k => M (m + 2) (640 * i + k)) s := by rw [hM1, hG1]; exact mo_CI_ou (mo_CI_up L3 (mo_SR_fr L3.2.2.1 fun a a1 a2 => hMo a (by omega) (by omega)) fun a a1 a2 => hMo a (by omega) (by omega)) (by omega)
    refine ⟨hL1, fun b M2 hb => ?_⟩
    have e1 : M1 (m + 1) = M (m + 1) := hL1.2 (m + 1) (by omega) (by omega)
    rw [e1] at hb
    rcases hb with ⟨np1, hb1, hb2⟩ | ⟨p1, np2, hb1, hb2⟩ | ⟨p1, p2, hb1, hb2⟩
    · exact absurd c1 np1
    · exact absurd c2 np2
    · exact mo_endQ L hL1 hCI hb2 hk0 (by omega) (fun _ => by rw [hM1, mo_ur_s, mo_up_s, hb1])
  · obtain ⟨hG1, hMM, ht1, hd⟩ := hp
    have hL1 : mo_L1 G G1 M M1 x ou := ⟨⟨by rw [hG1], fun b hb => by rw [hG1]⟩, fun a h1 h2 => by rw [hMM]⟩
    have hCI : mo_CI G1 M1 x (M (m + 1)) n (M (m + 8)) sv (fun i k => M (m + 2) (640 * i + k)) s := by rw [hMM, hG1]; exact L3
    rcases hd with ⟨d1, nd1⟩ | ⟨d2, c1, nd2⟩
    · rcases hE with ⟨f1, hk0⟩ | ⟨f2, hk0⟩
      · skip
        refine ⟨hL1, fun b M2 hb => ?_⟩
        have e1 : M1 (m + 1) = M (m + 1) := hL1.2 (m + 1) (by omega) (by omega)
        rw [e1] at hb
        rcases hb with ⟨np1, hb1, hb2⟩ | ⟨p1, np2, hb1, hb2⟩ | ⟨p1, p2, hb1, hb2⟩
        · exact mo_endQ L hL1 hCI hb2 hk0 (by omega) (fun h => by omega)
        · exact absurd p1 nd1
        · exact absurd p1 nd1
      · exact absurd (d1.symm.trans f2) mo_neAT
    · rcases hE with ⟨f1, hk0⟩ | ⟨f2, hk0⟩
      · exact absurd (d2.symm.trans f1) mo_neAT.symm
      · skip
        refine ⟨hL1, fun b M2 hb => ?_⟩
        have e1 : M1 (m + 1) = M (m + 1) := hL1.2 (m + 1) (by omega) (by omega)
        rw [e1] at hb
        rcases hb with ⟨np1, hb1, hb2⟩ | ⟨p1, np2, hb1, hb2⟩ | ⟨p1, p2, hb1, hb2⟩
        · exact absurd c1 np1
        · exact mo_endQ L hL1 hCI hb2 hk0 (by omega) (fun h => by omega)
        · exact absurd p2 nd2
set_option maxHeartbeats 1000000 in
theorem lj_gainBy {G : mo_G} {M : mo_M} {t x m ou n sv s : Nat} {B : Int} {A0 A1 : Int} {G1 : mo_G} {M1 : mo_M} {t1 : Nat} {k : Int} {g T : Nat → Int} {S : Nat → Nat → Int} (L : mo_LI G M x m ou n sv s B) (hg : g = M (m + 1)) (hT : T = M (m + 8)) (hS : S = fun i k => M (m + 2) (640 * i + k)) (hk : (k = 0 ∧ ∃ Mo, (fun u G' M' t' => G' = G ∧ t' = t ∧ (∀ a, (a < x + 20 ∨ x + 38 < a) → (a < x + 116 ∨ x + 126 < a) → M' a = M a) ∧ (0 ≤ A0 ∧ A0 < g 5) ∧ (0 ≤ A1 ∧ A1 ≤ 19) ∧ (g 0 ≤ A1) ∧ u = some (mo_iv ((mo_pl A1.toNat 61 (va_up g (198 + A0.toNat) 20)).1 - (mo_pl A1.toNat 61 g).1))) (some (mo_iv ((mo_pl A1.toNat 61 (va_up g (198 + A0.toNat) 20)).1 - (mo_pl A1.toNat 61 g).1))) G1 Mo t1 ∧ M1 = mo_ur Mo ou (va_up (Mo ou) 0 (((mo_pl A1.toNat 61 (va_up g (198 + A0.toNat) 20)).1 - (mo_pl A1.toNat 61 g).1).bmod (2 ^ 32)))) ∨ ∃ E, (fun E G' M' t' => G' = G ∧ M' = M ∧ t ≤ t' ∧ ((E = mo_IOE ∧ ¬ (0 ≤ A0 ∧ A0 < g 5)) ∨ (E = mo_IAE ∧ (0 ≤ A0 ∧ A0 < g 5) ∧ ¬ (0 ≤ A1 ∧ A1 ≤ 19)) ∨ (E = mo_ISE ∧ (0 ≤ A0 ∧ A0 < g 5) ∧ (0 ≤ A1 ∧ A1 ≤ 19) ∧ ¬ (g 0 ≤ A1)))) E G1 M1 t1 ∧ ((E = mo_IOE ∧ k = 1) ∨ (E = mo_IAE ∧ k = 2) ∨ (E = mo_ISE ∧ k = 3))) : mo_L1 G G1 M M1 x ou ∧ ∀ (b : Int) (M2 : mo_M), (fun x M' => (¬ (0 ≤ A0 ∧ A0 < M1 (m + 1) 5) ∧ x = 0 ∧ mo_Qr M1 M' m 1) ∨ ((0 ≤ A0 ∧ A0 < M1 (m + 1) 5) ∧ ¬ (0 ≤ A1 ∧ A1 ≤ 19) ∧ x = 0 ∧ mo_Qr M1 M' m 2) ∨ ((0 ≤ A0 ∧ A0 < M1 (m + 1) 5) ∧ (0 ≤ A1 ∧ A1 ≤ 19) ∧ ¬ (M1 (m + 1) 0 ≤ A1) ∧ x = 0 ∧ mo_Qr M1 M' m 3) ∨ ((0 ≤ A0 ∧ A0 < M1 (m + 1) 5) ∧ (0 ≤ A1 ∧ A1 ≤ 19) ∧ M1 (m + 1) 0 ≤ A1 ∧ x = (mo_pl A1.toNat 61 (va_up (M1 (m + 1)) (198 + A0.toNat) 20)).1 - (mo_pl A1.toNat 61 (M1 (m + 1))).1 ∧ mo_Qr M1 M' m 0)) b M2 → mo_L2 G1 M2 x m ou (B + 4000) k b := by
  obtain ⟨L1, L2, L3, L4, L5, L6, L7, L8, L9, L10, L11, L12⟩ := id L
  obtain ⟨hI0, hI1, hI2, hI3, hI4, hI5, hI6, hI7, -⟩ := id L8
  subst hg hT hS
  rcases hk with ⟨hk0, Mo, hp, hM1⟩ | ⟨E, hp, hE⟩
  · obtain ⟨hG1, ht1, hMo, c1, c2, c3, -⟩ := hp
    have hL1 : mo_L1 G G1 M M1 x ou := ⟨⟨by rw [hG1], fun b hb => by rw [hG1]⟩, fun a h1 h2 => by rw [hM1, mo_ur_n h2]; exact hMo a (by omega) (by omega)⟩
    have hCI : mo_CI G1 M1 x (M (m + 1)) n (M (m + 8)) sv (fun i k => M (m + 2) (640 * i + k)) s := by rw [hM1, hG1]; exact mo_CI_ou (mo_CI_up L3 (mo_SR_fr L3.2.2.1 fun a a1 a2 => hMo a (by omega) (by omega)) fun a a1 a2 => hMo a (by omega) (by omega)) (by omega)
    refine ⟨hL1, fun b M2 hb => ?_⟩
    have e1 : M1 (m + 1) = M (m + 1) := hL1.2 (m + 1) (by omega) (by omega)
    rw [e1] at hb
    rcases hb with ⟨np1, hb1, hb2⟩ | ⟨p1, np2, hb1, hb2⟩ | ⟨p1, p2, np3, hb1, hb2⟩ | ⟨p1, p2, p3, hb1, hb2⟩
    · exact absurd c1 np1
    · exact absurd c2 np2
    · exact absurd c3 np3
    · exact mo_endQ L hL1 hCI hb2 hk0 (by omega) (fun _ => by rw [hM1, mo_ur_s, mo_up_s, hb1])
  · obtain ⟨hG1, hMM, ht1, hd⟩ := hp
    have hL1 : mo_L1 G G1 M M1 x ou := ⟨⟨by rw [hG1], fun b hb => by rw [hG1]⟩, fun a h1 h2 => by rw [hMM]⟩
    have hCI : mo_CI G1 M1 x (M (m + 1)) n (M (m + 8)) sv (fun i k => M (m + 2) (640 * i + k)) s := by rw [hMM, hG1]; exact L3
    rcases hd with ⟨d1, nd1⟩ | ⟨d2, c1, nd2⟩ | ⟨d3, c1, c2, nd3⟩
    · rcases hE with ⟨f1, hk0⟩ | ⟨f2, hk0⟩ | ⟨f3, hk0⟩
      · skip
        refine ⟨hL1, fun b M2 hb => ?_⟩
        have e1 : M1 (m + 1) = M (m + 1) := hL1.2 (m + 1) (by omega) (by omega)
        rw [e1] at hb
        rcases hb with ⟨np1, hb1, hb2⟩ | ⟨p1, np2, hb1, hb2⟩ | ⟨p1, p2, np3, hb1, hb2⟩ | ⟨p1, p2, p3, hb1, hb2⟩
        · exact mo_endQ L hL1 hCI hb2 hk0 (by omega) (fun h => by omega)
        · exact absurd p1 nd1
        · exact absurd p1 nd1
        · exact absurd p1 nd1
      · exact absurd (d1.symm.trans f2) mo_neIA
      · exact absurd (d1.symm.trans f3) mo_neIT
    · rcases hE with ⟨f1, hk0⟩ | ⟨f2, hk0⟩ | ⟨f3, hk0⟩
      · exact absurd (d2.symm.trans f1) mo_neIA.symm
      · skip
        refine ⟨hL1, fun b M2 hb => ?_⟩
        have e1 : M1 (m + 1) = M (m + 1) := hL1.2 (m + 1) (by omega) (by omega)
        rw [e1] at hb
        rcases hb with ⟨np1, hb1, hb2⟩ | ⟨p1, np2, hb1, hb2⟩ | ⟨p1, p2, np3, hb1, hb2⟩ | ⟨p1, p2, p3, hb1, hb2⟩
        · exact absurd c1 np1
        · exact mo_endQ L hL1 hCI hb2 hk0 (by omega) (fun h => by omega)
        · exact absurd p2 nd2
        · exact absurd p2 nd2
      · exact absurd (d2.symm.trans f3) mo_neAT
    · rcases hE with ⟨f1, hk0⟩ | ⟨f2, hk0⟩ | ⟨f3, hk0⟩
      · exact absurd (d3.symm.trans f1) mo_neIT.symm
      · exact absurd (d3.symm.trans f2) mo_neAT.symm
      · skip
        refine ⟨hL1, fun b M2 hb => ?_⟩
        have e1 : M1 (m + 1) = M (m + 1) := hL1.2 (m + 1) (by omega) (by omega)
        rw [e1] at hb
        rcases hb with ⟨np1, hb1, hb2⟩ | ⟨p1, np2, hb1, hb2⟩ | ⟨p1, p2, np3, hb1, hb2⟩ | ⟨p1, p2, p3, hb1, hb2⟩
        · exact absurd c1 np1
        · exact absurd c2 np2
        · exact mo_endQ L hL1 hCI hb2 hk0 (by omega) (fun h => by omega)
        · exact absurd p3 nd3
