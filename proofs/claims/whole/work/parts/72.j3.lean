theorem lj_append {A0 : Int} {G : mo_G} {M : mo_M} {t x m ou n sv s : Nat} {B : Int} {G1 : mo_G} {M1 : mo_M} {t1 : Nat} {k : Int} {g T : Nat → Int} {S : Nat → Nat → Int} (L : mo_LI G M x m ou n sv s B) (hg : g = M (m + 1)) (hT : T = M (m + 8)) (hS : S = fun i k => M (m + 2) (640 * i + k)) (hk : (k = 0 ∧ ∃ Mo, (fun u G' M' t' => G' = G ∧ t' = t ∧ (0 ≤ A0 ∧ A0 ≤ 127) ∧ n < 100 ∧ u = some (mo_iv ((n : Int) + 1)) ∧ mo_CI G M' x g (n + 1) (va_up T n A0) sv S s ∧ ∀ a, mo_oz x a → M' a = M a) (some (mo_iv ((n : Int) + 1))) G1 Mo t1 ∧ M1 = mo_ur Mo ou (va_up (Mo ou) 0 (((n : Int) + 1).bmod (2 ^ 32)))) ∨ ∃ E, (fun E G' M' t' => G' = G ∧ M' = M ∧ t ≤ t' ∧ ((E = mo_IAE ∧ ¬ (0 ≤ A0 ∧ A0 ≤ 127)) ∨ (E = mo_ISE ∧ (0 ≤ A0 ∧ A0 ≤ 127) ∧ ¬ (n < 100)))) E G1 M1 t1 ∧ ((E = mo_IAE ∧ k = 1) ∨ (E = mo_ISE ∧ k = 2))) : mo_L1 G G1 M M1 x ou ∧ ∀ (b : Int) (M2 : mo_M), (fun x M' => (¬ (0 ≤ A0 ∧ A0 ≤ 127) ∧ x = 0 ∧ mo_Qr M1 M' m 1) ∨ ((0 ≤ A0 ∧ A0 ≤ 127) ∧ ¬ (n < 100) ∧ x = 0 ∧ mo_Qr M1 M' m 2) ∨ ((0 ≤ A0 ∧ A0 ≤ 127) ∧ n < 100 ∧ x = (n : Int) + 1 ∧ M' m 4 = 0 ∧ M' m 2 = M1 m 2 ∧ M' m 10 = (n : Int) + 1 ∧ M' (m + 8) = va_up (M1 (m + 8)) n A0 ∧ ∀ a, a ≠ m → a ≠ m + 8 → M' a = M1 a)) b M2 → mo_L2 G1 M2 x m ou (B + 4000) k b := by
  obtain ⟨L1, L2, L3, L4, L5, L6, L7, L8, L9, L10, L11, L12⟩ := id L
  subst hg hT hS
  rcases hk with ⟨hk0, Mo, hp, hM1⟩ | ⟨E, hp, hE⟩
  · obtain ⟨hG1, ht1, c1, c2, -, hci, hfr⟩ := hp
    have hL1 : mo_L1 G G1 M M1 x ou := ⟨⟨by rw [hG1], fun b hb => by rw [hG1]⟩, fun a h1 h2 => by rw [hM1, mo_ur_n h2]; exact hfr a h1⟩
    have hCI := mo_CI_ou (ou := ou) (f := va_up (Mo ou) 0 (((n : Int) + 1).bmod (2 ^ 32))) hci (by omega)
    rw [← hM1] at hCI
    refine ⟨hL1, fun b M2 hb => ?_⟩
    have e0 : M1 m = M m := hL1.2 m (by omega) (by omega)
    have e1 : M1 (m + 1) = M (m + 1) := hL1.2 (m + 1) (by omega) (by omega)
    have e2 : M1 (m + 2) = M (m + 2) := hL1.2 (m + 2) (by omega) (by omega)
    have e8 : M1 (m + 8) = M (m + 8) := hL1.2 (m + 8) (by omega) (by omega)
    rw [e0, e8] at hb
    rcases hb with ⟨np1, hb1, hb2⟩ | ⟨p1, np2, hb1, hb2⟩ | ⟨p1, p2, hb1, q4, q2, q10, q8, qf⟩
    · exact absurd c1 np1
    · exact absurd c2 np2
    · have f1 : M2 (m + 1) = M (m + 1) := by rw [qf _ (by omega) (by omega), e1]
      have f2 : M2 (m + 2) = M (m + 2) := by rw [qf _ (by omega) (by omega), e2]
      refine ⟨⟨n + 1, sv, s, mo_Md_f3 hL1.1.1 (hL1.1.2 m (by omega)) L1, by rw [hL1.1.1]; exact L2, ?_, by rw [q2]; exact L4, by rw [q10]; omega, by omega, L7, by rw [f1]; exact mo_Iv_mono L8 (by omega), fun i hi => by rw [f2]; exact mo_Iv_mono (L9 i hi) (by omega), fun j hj => ?_, L11, L12⟩, by rw [q4]; exact hk0.symm, by omega, fun h => ?_⟩
      · rw [f1, f2, q8, hG1] at *
        exact mo_CI_cg (by rw [hG1] at hCI; exact hCI) (fun a a1 a2 => qf a (by omega) (by omega)) (fun k hk => rfl) L8 (fun i hi k hk => rfl) L9 (fun j hj => rfl)
      · rw [q8]
        by_cases c : j = n
        · rw [c, mo_up_s]; exact c1
        · rw [mo_up_n c]; exact L10 j (by omega)
      · rw [qf ou (by omega) (by omega), hM1, mo_ur_s, mo_up_s, hb1]
  · obtain ⟨hG1, hMM, ht1, hd⟩ := hp
    have hL1 : mo_L1 G G1 M M1 x ou := ⟨⟨by rw [hG1], fun b hb => by rw [hG1]⟩, fun a h1 h2 => by rw [hMM]⟩
    have hCI : mo_CI G1 M1 x (M (m + 1)) n (M (m + 8)) sv (fun i k => M (m + 2) (640 * i + k)) s := by rw [hMM, hG1]; exact L3
    rcases hd with ⟨d1, nd1⟩ | ⟨d2, c1, nd2⟩
    · rcases hE with ⟨f1, hk0⟩ | ⟨f2, hk0⟩
      · refine ⟨hL1, fun b M2 hb => ?_⟩
        rcases hb with ⟨np1, hb1, hb2⟩ | ⟨p1, np2, hb1, hb2⟩ | ⟨p1, p2, hb1, q4, q2, q10, q8, qf⟩
        · exact mo_endQ L hL1 hCI hb2 hk0 (by omega) (fun h => by omega)
        · exact absurd p1 nd1
        · exact absurd p1 nd1
      · exact absurd (d1.symm.trans f2) mo_neAT
    · rcases hE with ⟨f1, hk0⟩ | ⟨f2, hk0⟩
      · exact absurd (d2.symm.trans f1) mo_neAT.symm
      · refine ⟨hL1, fun b M2 hb => ?_⟩
        rcases hb with ⟨np1, hb1, hb2⟩ | ⟨p1, np2, hb1, hb2⟩ | ⟨p1, p2, hb1, q4, q2, q10, q8, qf⟩
        · exact absurd c1 np1
        · exact mo_endQ L hL1 hCI hb2 hk0 (by omega) (fun h => by omega)
        · exact absurd p2 nd2
theorem lj_undo {G : mo_G} {M : mo_M} {t x m ou n sv s : Nat} {B : Int} {G1 : mo_G} {M1 : mo_M} {t1 : Nat} {k : Int} {g T : Nat → Int} {S : Nat → Nat → Int} (L : mo_LI G M x m ou n sv s B) (hg : g = M (m + 1)) (hT : T = M (m + 8)) (hS : S = fun i k => M (m + 2) (640 * i + k)) (hk : (k = 0 ∧ ∃ Mo, (fun u G' M' t' => G' = G ∧ t' = t ∧ 0 < sv ∧ u = some (mo_iv ((sv : Int) - 1)) ∧ (∀ a, mo_oz x a → M' a = M a) ∧ mo_CI G' M' x (S (sv - 1)) n T (sv - 1) S s) (some (mo_iv ((sv : Int) - 1))) G1 Mo t1 ∧ M1 = mo_ur Mo ou (va_up (Mo ou) 0 (((sv : Int) - 1).bmod (2 ^ 32)))) ∨ ∃ E, (fun E G' M' t' => G' = G ∧ M' = M ∧ t ≤ t' ∧ E = mo_ISE ∧ sv = 0) E G1 M1 t1 ∧ ((E = mo_ISE ∧ k = 1))) : mo_L1 G G1 M M1 x ou ∧ ∀ (b : Int) (M2 : mo_M), (fun x M' => (sv = 0 ∧ x = 0 ∧ mo_Qr M1 M' m 1) ∨ (0 < sv ∧ x = (sv : Int) - 1 ∧ M' m 4 = 0 ∧ M' m 2 = (sv : Int) - 1 ∧ M' m 10 = M1 m 10 ∧ (∀ k, k < 640 → M' (m + 1) k = M1 (m + 2) (640 * (sv - 1) + k)) ∧ M' (m + 2) = M1 (m + 2) ∧ M' (m + 8) = M1 (m + 8) ∧ ∀ a, (a < m ∨ m + 9 < a) → M' a = M1 a)) b M2 → mo_L2 G1 M2 x m ou (B + 4000) k b := by
  obtain ⟨L1, L2, L3, L4, L5, L6, L7, L8, L9, L10, L11, L12⟩ := id L
  subst hg hT hS
  rcases hk with ⟨hk0, Mo, hp, hM1⟩ | ⟨E, hp, hE⟩
  · obtain ⟨hG1, ht1, c1, -, hfr, hci⟩ := hp
    have hL1 : mo_L1 G G1 M M1 x ou := ⟨⟨by rw [hG1], fun b hb => by rw [hG1]⟩, fun a h1 h2 => by rw [hM1, mo_ur_n h2]; exact hfr a h1⟩
    have hCI := mo_CI_ou (ou := ou) (f := va_up (Mo ou) 0 (((sv : Int) - 1).bmod (2 ^ 32))) hci (by omega)
    rw [← hM1] at hCI
    refine ⟨hL1, fun b M2 hb => ?_⟩
    have e0 : M1 m = M m := hL1.2 m (by omega) (by omega)
    have e2 : M1 (m + 2) = M (m + 2) := hL1.2 (m + 2) (by omega) (by omega)
    have e8 : M1 (m + 8) = M (m + 8) := hL1.2 (m + 8) (by omega) (by omega)
    rcases hb with ⟨np1, hb1, hb2⟩ | ⟨p1, hb1, q4, q2, q10, qg, qs, q8, qf⟩
    · exact absurd np1 (by omega)
    · rw [e0] at q10
      rw [e2] at qg qs
      rw [e8] at q8
      have hag : mo_ag (M2 (m + 1)) (fun k => M (m + 2) (640 * (sv - 1) + k)) := fun k hk => qg k hk
      refine ⟨⟨n, sv - 1, s, mo_Md_f3 hL1.1.1 (hL1.1.2 m (by omega)) L1, by rw [hL1.1.1]; exact L2, ?_, by rw [q2]; omega, by rw [q10]; exact L5, L6, by omega, mo_Iv_mono (mo_Iv_ag (L9 (sv - 1) (by omega)) hag) (by omega), fun i hi => by rw [qs]; exact mo_Iv_mono (L9 i (by omega)) (by omega), fun j hj => by rw [q8]; exact L10 j hj, L11, L12⟩, by rw [q4]; exact hk0.symm, by omega, fun h => ?_⟩
      · rw [q8, qs]
        exact mo_CI_cg hCI (fun a a1 a2 => qf a (by omega)) hag (L9 (sv - 1) (by omega)) (fun i hi k hk => rfl) (fun i hi => L9 i (by omega)) (fun j hj => rfl)
      · rw [qf ou (by omega), hM1, mo_ur_s, mo_up_s, hb1]
  · obtain ⟨hG1, hMM, ht1, d1, nd1⟩ := hp
    have hL1 : mo_L1 G G1 M M1 x ou := ⟨⟨by rw [hG1], fun b hb => by rw [hG1]⟩, fun a h1 h2 => by rw [hMM]⟩
    have hCI : mo_CI G1 M1 x (M (m + 1)) n (M (m + 8)) sv (fun i k => M (m + 2) (640 * i + k)) s := by rw [hMM, hG1]; exact L3
    obtain ⟨f1, hk0⟩ := hE
    refine ⟨hL1, fun b M2 hb => ?_⟩
    rcases hb with ⟨np1, hb1, hb2⟩ | ⟨p1, hb1, q4, q2, q10, qg, qs, q8, qf⟩
    · exact mo_endQ L hL1 hCI hb2 hk0 (by omega) (fun h => by omega)
    · exact absurd p1 (by omega)
