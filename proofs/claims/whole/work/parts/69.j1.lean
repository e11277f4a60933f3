/-! what links the class, the reference and the law's own row; the steps -/
def mo_LI (G : mo_G) (M : mo_M) (x m ou n sv s : Nat) (B : Int) : Prop := mo_Md G m ∧ G.1 ou = some (.inr (1, 1)) ∧ mo_CI G M x (M (m + 1)) n (M (m + 8)) sv (fun i k => M (m + 2) (640 * i + k)) s ∧ M m 2 = sv ∧ M m 10 = n ∧ n ≤ 100 ∧ sv ≤ 4 ∧ mo_Iv (M (m + 1)) B ∧ (∀ i, i < sv → mo_Iv (fun k => M (m + 2) (640 * i + k)) B) ∧ (∀ j, j < n → 0 ≤ M (m + 8) j ∧ M (m + 8) j ≤ 127) ∧ x + 137 < m ∧ m + 9 < ou
def mo_L1 (G G1 : mo_G) (M M1 : mo_M) (x ou : Nat) : Prop := (G1.1 = G.1 ∧ ∀ b, b ≠ x + 39 → G1.2 b = G.2 b) ∧ ∀ a, mo_oz x a → a ≠ ou → M1 a = M a
def mo_L2 (G1 : mo_G) (M2 : mo_M) (x m ou : Nat) (B k b : Int) : Prop := (∃ n sv s, mo_LI G1 M2 x m ou n sv s B) ∧ M2 m 4 = k ∧ (0 ≤ k ∧ k ≤ 3) ∧ (k = 0 → M2 ou 0 = b.bmod (2 ^ 32))
theorem mo_CI_ou {G : mo_G} {M : mo_M} {x n sv s ou : Nat} {g T : Nat → Int} {S : Nat → Nat → Int} {f : Nat → Int} (h : mo_CI G M x g n T sv S s) (ho : x + 137 < ou) : mo_CI G (mo_ur M ou f) x g n T sv S s := by
  obtain ⟨c1, c2, c3, c4, c5, c6, c7⟩ := h
  exact ⟨c1, c2, mo_SR_fr c3 fun a a1 a2 => mo_ur_n (by omega), by rw [mo_ur_n (by omega)]; exact c4, fun i hi => mo_SR_fr (c5 i hi) fun a a1 a2 => mo_ur_n (by omega), by rw [mo_ur_n (by omega)]; exact c6, fun j hj => by rw [mo_ur_n (by omega)]; exact c7 j hj⟩
theorem mo_CI_cg {G : mo_G} {M M2 : mo_M} {x n sv s : Nat} {g g2 T T2 : Nat → Int} {S S2 : Nat → Nat → Int} {B : Int} (h : mo_CI G M x g n T sv S s) (hf : ∀ a, x ≤ a → a ≤ x + 137 → M2 a = M a) (hg : mo_ag g2 g) (hI : mo_Iv g B) (hS : ∀ i, i < sv → mo_ag (S2 i) (S i)) (hIS : ∀ i, i < sv → mo_Iv (S i) B) (hT : ∀ j, j < n → T2 j = T j) : mo_CI G M2 x g2 n T2 sv S2 s := by
  obtain ⟨c1, c2, c3, c4, c5, c6, c7⟩ := h
  exact ⟨c1, c2, mo_SR_ag (mo_SR_fr c3 fun a a1 a2 => hf a (by omega) (by omega)) hI hg, by rw [hf _ (by omega) (by omega)]; exact c4, fun i hi => mo_SR_ag (mo_SR_fr (c5 i hi) fun a a1 a2 => hf a (by omega) (by omega)) (hIS i hi) (hS i hi), by rw [hf _ (by omega) (by omega)]; exact c6, fun j hj => by rw [hf _ (by omega) (by omega), hT j hj]; exact c7 j hj⟩
theorem mo_Md_f3 {G G1 : mo_G} {m : Nat} (h1 : G1.1 = G.1) (h2 : G1.2 m = G.2 m) (q : mo_Md G m) : mo_Md G1 m := by
  unfold mo_Md at q ⊢
  rw [h1, h2]
  exact q
theorem mo_LIQ {G G1 : mo_G} {M M1 M2 : mo_M} {x m ou n sv s s1 : Nat} {B kk : Int} (L : mo_LI G M x m ou n sv s B) (h1 : mo_L1 G G1 M M1 x ou) (hC : mo_CI G1 M1 x (M (m + 1)) n (M (m + 8)) sv (fun i k => M (m + 2) (640 * i + k)) s1) (hq : mo_Qr M1 M2 m kk) : mo_LI G1 M2 x m ou n sv s1 (B + 4000) := by
  obtain ⟨L1, L2, L3, L4, L5, L6, L7, L8, L9, L10, L11, L12⟩ := L
  obtain ⟨⟨g1, g2⟩, f1⟩ := h1
  obtain ⟨q1, q2, q3, q4, q5, q6, q7⟩ := hq
  have e0 : M1 m = M m := f1 m (by omega) (by omega)
  have e1 : M1 (m + 1) = M (m + 1) := f1 _ (by omega) (by omega)
  have e2 : M1 (m + 2) = M (m + 2) := f1 _ (by omega) (by omega)
  have e8 : M1 (m + 8) = M (m + 8) := f1 _ (by omega) (by omega)
  rw [e1] at q4
  rw [e2] at q5
  rw [e8] at q6
  refine ⟨mo_Md_f3 g1 (g2 m (by omega)) L1, by rw [g1]; exact L2, ?_, by rw [q2, e0]; exact L4, by rw [q3, e0]; exact L5, L6, L7, mo_Iv_mono (mo_Iv_ag L8 q4) (by omega), fun i hi => ?_, fun j hj => by rw [q6]; exact L10 j hj, L11, L12⟩
  · rw [q5, q6]
    exact mo_CI_cg hC (fun a a1 a2 => q7 a (by omega)) q4 L8 (fun i hi k hk => rfl) L9 (fun j hj => rfl)
  · rw [q5]
    exact mo_Iv_mono (L9 i hi) (by omega)
theorem mo_LIU {G G1 : mo_G} {M M1 M2 : mo_M} {x m ou n sv s s1 : Nat} {B : Int} {g2 : Nat → Int} (L : mo_LI G M x m ou n sv s B) (h1 : mo_L1 G G1 M M1 x ou) (hC : mo_CI G1 M1 x g2 n (M (m + 8)) (mo_svq sv + 1) (mo_Sn sv (M (m + 1)) (fun i k => M (m + 2) (640 * i + k))) s1) (hI : mo_Iv g2 (B + 4000)) (hq : mo_Ur M1 M2 m sv g2) : mo_LI G1 M2 x m ou n (mo_svq sv + 1) s1 (B + 4000) := by
  obtain ⟨L1, L2, L3, L4, L5, L6, L7, L8, L9, L10, L11, L12⟩ := L
  obtain ⟨⟨g1, g2'⟩, f1⟩ := h1
  obtain ⟨q1, q2, q3, q4, q5, q6, q7, q8⟩ := hq
  have e0 : M1 m = M m := f1 m (by omega) (by omega)
  have e1 : M1 (m + 1) = M (m + 1) := f1 _ (by omega) (by omega)
  have e2 : M1 (m + 2) = M (m + 2) := f1 _ (by omega) (by omega)
  have e8 : M1 (m + 8) = M (m + 8) := f1 _ (by omega) (by omega)
  rw [e1] at q5
  rw [e2] at q6
  rw [e8] at q7
  have hv4 : mo_svq sv + 1 ≤ 4 := by unfold mo_svq; split <;> omega
  have hag : ∀ i, i < mo_svq sv + 1 → mo_ag (fun k => M2 (m + 2) (640 * i + k)) (mo_Sn sv (M (m + 1)) (fun i k => M (m + 2) (640 * i + k)) i) := fun i hi k hk => by
    unfold mo_Sn
    by_cases c : i = mo_svq sv
    · rw [if_pos c, c]; exact q5 k hk
    · rw [if_neg c]; exact q6 i k (by omega) hk
  have hIn : ∀ i, i < mo_svq sv + 1 → mo_Iv (mo_Sn sv (M (m + 1)) (fun i k => M (m + 2) (640 * i + k)) i) (B + 4000) := fun i hi => by
    unfold mo_Sn
    by_cases c : i = mo_svq sv
    · rw [if_pos c]; exact mo_Iv_mono L8 (by omega)
    · rw [if_neg c]
      have h9 : (if sv = 4 then i + 1 else i) < sv := by
        unfold mo_svq at hi c
        by_cases d : sv = 4
        · rw [if_pos d] at hi c ⊢; omega
        · rw [if_neg d] at hi c ⊢; omega
      exact mo_Iv_mono (L9 _ h9) (by omega)
  refine ⟨mo_Md_f3 g1 (g2' m (by omega)) L1, by rw [g1]; exact L2, ?_, q2, by rw [q3, e0]; exact L5, L6, hv4, mo_Iv_ag hI q4, fun i hi => mo_Iv_ag (hIn i hi) (hag i hi), fun j hj => by rw [q7]; exact L10 j hj, L11, L12⟩
  rw [q7]
  exact mo_CI_cg hC (fun a a1 a2 => q8 a (by omega)) q4 hI hag hIn (fun j hj => rfl)
theorem mo_endQ {G G1 : mo_G} {M M1 M2 : mo_M} {x m ou n sv s s1 : Nat} {B kk k b : Int} (L : mo_LI G M x m ou n sv s B) (h1 : mo_L1 G G1 M M1 x ou) (hC : mo_CI G1 M1 x (M (m + 1)) n (M (m + 8)) sv (fun i k => M (m + 2) (640 * i + k)) s1) (hq : mo_Qr M1 M2 m kk) (hk : k = kk) (hr : 0 ≤ kk ∧ kk ≤ 3) (hv : k = 0 → M1 ou 0 = b.bmod (2 ^ 32)) : mo_L2 G1 M2 x m ou (B + 4000) k b := by
  have hL := mo_LIQ L h1 hC hq
  have h12 := L.2.2.2.2.2.2.2.2.2.2.2
  obtain ⟨q1, -, -, -, -, -, q7⟩ := hq
  subst hk
  exact ⟨⟨n, sv, s1, hL⟩, q1, hr, fun h => by rw [q7 ou (by omega)]; exact hv h⟩
theorem mo_endU {G G1 : mo_G} {M M1 M2 : mo_M} {x m ou n sv s s1 : Nat} {B k b : Int} {g2 : Nat → Int} (L : mo_LI G M x m ou n sv s B) (h1 : mo_L1 G G1 M M1 x ou) (hC : mo_CI G1 M1 x g2 n (M (m + 8)) (mo_svq sv + 1) (mo_Sn sv (M (m + 1)) (fun i k => M (m + 2) (640 * i + k))) s1) (hI : mo_Iv g2 (B + 4000)) (hq : mo_Ur M1 M2 m sv g2) (hk : k = 0) (hv : M1 ou 0 = b.bmod (2 ^ 32)) : mo_L2 G1 M2 x m ou (B + 4000) k b := by
  have hL := mo_LIU L h1 hC hI hq
  have h12 := L.2.2.2.2.2.2.2.2.2.2.2
  obtain ⟨q1, -, -, -, -, -, -, q8⟩ := hq
  subst hk
  exact ⟨⟨n, _, s1, hL⟩, q1, by omega, fun h => by rw [q8 ou (by omega)]; exact hv⟩
theorem mo_neIA : mo_IOE ≠ mo_IAE := by decide
theorem mo_neIT : mo_IOE ≠ mo_ISE := by decide
theorem mo_neAT : mo_IAE ≠ mo_ISE := by decide
