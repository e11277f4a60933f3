/-- what the class's object holds: the state g, the text T of n bytes, sv saved states S turned by s -/
def mo_CI (G : mo_G) (M : mo_M) (x : Nat) (g : Nat → Int) (n : Nat) (T : Nat → Int) (sv : Nat) (S : Nat → Nat → Int) (s : Nat) : Prop := mo_Ms G x ∧ mo_Sg G x s ∧ mo_SR M (x + 1) g ∧ M x 5 = sv ∧ (∀ i, i < sv → mo_SR M (x + 40 + 19 * ((i + s) % 4)) (S i)) ∧ M (x + 127) 5 = n ∧ ∀ j, j < n → M (x + 129) j = T j
/-- outside the class's own cells -/
abbrev mo_oz (x a : Nat) : Prop := a < x ∨ x + 137 < a
def mo_Sn (sv : Nat) (g : Nat → Int) (S : Nat → Nat → Int) : Nat → Nat → Int := fun i => if i = mo_svq sv then g else S (if sv = 4 then i + 1 else i)
theorem mo_CI_sv {G G' : mo_G} {M M' : mo_M} {x n sv s : Nat} {g T : Nat → Int} {S : Nat → Nat → Int} (h : mo_CI G M x g n T sv S s) (hq : mo_Sq G G' M M' x sv s g) (hsv : sv ≤ 4) : (∃ s', mo_CI G' M' x g n T (mo_svq sv + 1) (mo_Sn sv g S) s') ∧ (G'.1 = G.1 ∧ ∀ b, b ≠ x + 39 → G'.2 b = G.2 b) ∧ ∀ a, mo_oz x a → M' a = M a := by
  obtain ⟨c1, c2, c3, c4, c5, c6, c7⟩ := h
  obtain ⟨s', q1, q2, q3, q4, q5, q6, q7, q8⟩ := hq
  have hv : mo_svq sv < 4 := by unfold mo_svq; split <;> omega
  refine ⟨⟨s', q2, q3, mo_SR_fr c3 fun a a1 a2 => q8 a (by omega) (by omega), q5, fun i hi => ?_, by rw [q8 _ (by omega) (by omega)]; exact c6, fun j hj => by rw [q8 _ (by omega) (by omega)]; exact c7 j hj⟩, q4, fun a ha => q8 a (by omega) (by omega)⟩
  unfold mo_Sn
  by_cases e : i = mo_svq sv
  · rw [if_pos e, e]; exact q7
  · rw [if_neg e]
    have e2 : (i + s') % 4 = ((if sv = 4 then i + 1 else i) + s) % 4 := by
      by_cases c : sv = 4
      · rw [if_pos c] at q1 ⊢; rw [q1]; omega
      · rw [if_neg c] at q1 ⊢; rw [q1]
    have h9 := c5 (if sv = 4 then i + 1 else i) (by
      unfold mo_svq at hi e
      by_cases c : sv = 4
      · rw [if_pos c] at hi e
        rw [if_pos c]
        omega
      · rw [if_neg c] at hi e
        rw [if_neg c]
        omega)
    rw [← e2] at h9
    exact mo_SR_fr h9 fun a a1 a2 => q8 a (by omega) (by omega)
theorem mo_CI_up {G : mo_G} {M M' : mo_M} {x n sv s : Nat} {g g' T : Nat → Int} {S : Nat → Nat → Int} (h : mo_CI G M x g n T sv S s) (hS : mo_SR M' (x + 1) g') (hf : ∀ a, (a < x + 1 ∨ x + 38 < a) → (a < x + 116 ∨ x + 126 < a) → M' a = M a) : mo_CI G M' x g' n T sv S s := by
  obtain ⟨c1, c2, c3, c4, c5, c6, c7⟩ := h
  exact ⟨c1, c2, hS, by rw [hf _ (by omega) (by omega)]; exact c4, fun i hi => mo_SR_fr (c5 i hi) fun a a1 a2 => hf a (by omega) (by omega), by rw [hf _ (by omega) (by omega)]; exact c6, fun j hj => by rw [hf _ (by omega) (by omega)]; exact c7 j hj⟩
