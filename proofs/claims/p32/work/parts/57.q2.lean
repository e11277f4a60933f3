/-! the class's world, as the law sees it; the class's calls over it -/
def mo_Wd (G : mo_G) (M : mo_M) (x : Nat) (g : Nat → Int) (B : Int) : Prop := ∃ (T : Nat → Int) (sv : Nat) (S : Nat → Nat → Int) (s : Nat), mo_CI G M x g 0 T sv S s ∧ sv ≤ 4 ∧ (∀ i, i < sv → mo_Iv (S i) B) ∧ mo_Iv g B
/-- the same, and the last saved state is g0 -/
def mo_Wd2 (G : mo_G) (M : mo_M) (x : Nat) (g g0 : Nat → Int) (B : Int) : Prop := ∃ (T : Nat → Int) (sv : Nat) (S : Nat → Nat → Int) (s : Nat), mo_CI G M x g 0 T sv S s ∧ sv ≤ 4 ∧ (∀ i, i < sv → mo_Iv (S i) B) ∧ mo_Iv g B ∧ 0 < sv ∧ S (sv - 1) = g0
def mo_Sm (x : Nat) (M M' : mo_M) : Prop := ∀ a, mo_oz x a → M' a = M a
def mo_GE (x : Nat) (G G' : mo_G) : Prop := G'.1 = G.1 ∧ ∀ b, b ≠ x + 39 → G'.2 b = G.2 b
theorem mo_Wd_x {G : mo_G} {M : mo_M} {x : Nat} {g : Nat → Int} {B : Int} (h : mo_Wd G M x g B) : G.1 x = some (.inl 4) := by
  obtain ⟨T, sv, S, s, hC, -⟩ := h
  exact mo_Ms_o hC.1
theorem mo_Wd_Iv {G : mo_G} {M : mo_M} {x : Nat} {g : Nat → Int} {B : Int} (h : mo_Wd G M x g B) : mo_Iv g B := by
  obtain ⟨T, sv, S, s, hC, h1, h2, h3⟩ := h
  exact h3
theorem mo_Wd_21 {G : mo_G} {M : mo_M} {x : Nat} {g g0 : Nat → Int} {B : Int} (h : mo_Wd2 G M x g g0 B) : mo_Wd G M x g B := by
  obtain ⟨T, sv, S, s, hC, h1, h2, h3, -⟩ := h
  exact ⟨T, sv, S, s, hC, h1, h2, h3⟩
theorem mo_Wd_mono {G : mo_G} {M : mo_M} {x : Nat} {g : Nat → Int} {B C : Int} (h : mo_Wd G M x g B) (hBC : B ≤ C) : mo_Wd G M x g C := by
  obtain ⟨T, sv, S, s, hC, h1, h2, h3⟩ := h
  exact ⟨T, sv, S, s, hC, h1, fun i hi => mo_Iv_mono (h2 i hi) hBC, mo_Iv_mono h3 hBC⟩
theorem mo_Wd_fr {G : mo_G} {M M' : mo_M} {x : Nat} {g : Nat → Int} {B : Int} (h : mo_Wd G M x g B) (hf : ∀ a, (a < x + 20 ∨ x + 38 < a) → (a < x + 116 ∨ x + 126 < a) → M' a = M a) : mo_Wd G M' x g B := by
  obtain ⟨T, sv, S, s, hC, h1, h2, h3⟩ := h
  exact ⟨T, sv, S, s, mo_CI_up hC (mo_SR_fr hC.2.2.1 fun a a1 a2 => hf a (by omega) (by omega)) (fun a a1 a2 => hf a (by omega) a2), h1, h2, h3⟩
/-- cells beside the class's change -/
theorem mo_Wd_oz {G : mo_G} {M M' : mo_M} {x : Nat} {g : Nat → Int} {B : Int} (h : mo_Wd G M x g B) (hf : ∀ a, x ≤ a → a ≤ x + 137 → M' a = M a) : mo_Wd G M' x g B := by
  obtain ⟨T, sv, S, s, ⟨c1, c2, c3, c4, c5, c6, c7⟩, h1, h2, h3⟩ := h
  exact ⟨T, sv, S, s, ⟨c1, c2, mo_SR_fr c3 fun a a1 a2 => hf a (by omega) (by omega), by rw [hf _ (by omega) (by omega)]; exact c4, fun i hi => mo_SR_fr (c5 i hi) fun a a1 a2 => hf a (by omega) (by omega), by rw [hf _ (by omega) (by omega)]; exact c6, fun j hj => by omega⟩, h1, h2, h3⟩
theorem mo_Sn_Iv {g : Nat → Int} {B C : Int} {sv : Nat} {S : Nat → Nat → Int} (hsv : sv ≤ 4) (h2 : ∀ i, i < sv → mo_Iv (S i) B) (h3 : mo_Iv g B) (hBC : B ≤ C) : ∀ i, i < mo_svq sv + 1 → mo_Iv (mo_Sn sv g S i) C := fun i hi => by
  unfold mo_Sn
  by_cases c : i = mo_svq sv
  · rw [if_pos c]; exact mo_Iv_mono h3 hBC
  · rw [if_neg c]
    refine mo_Iv_mono (h2 _ ?_) hBC
    unfold mo_svq at hi c
    by_cases d : sv = 4
    · rw [if_pos d] at hi c ⊢; omega
    · rw [if_neg d] at hi c ⊢; omega
theorem mo_svq4 {sv : Nat} (h : sv ≤ 4) : mo_svq sv + 1 ≤ 4 := by unfold mo_svq; split <;> omega
theorem mo_Wd_mu {G' : mo_G} {M' : mo_M} {x : Nat} {g g' : Nat → Int} {B C : Int} {T : Nat → Int} {sv : Nat} {S : Nat → Nat → Int} (hsv : sv ≤ 4) (h2 : ∀ i, i < sv → mo_Iv (S i) B) (h3 : mo_Iv g B) (hBC : B ≤ C) (hg : mo_Iv g' C) (hC : ∃ s', mo_CI G' M' x g' 0 T (mo_svq sv + 1) (mo_Sn sv g S) s') : mo_Wd2 G' M' x g' g C := by
  obtain ⟨s', hC⟩ := hC
  refine ⟨T, _, _, s', hC, mo_svq4 hsv, mo_Sn_Iv hsv h2 h3 hBC, hg, Nat.succ_pos _, ?_⟩
  rw [Nat.add_sub_cancel]
  unfold mo_Sn
  rw [if_pos rfl]
theorem lt_value {lf : Launch} {ρf : mo_E} {G : mo_G} {M : mo_M} {t : Nat} {x : Nat} {g : Nat → Int} {B : Int} (hW : mo_Wd G M x g B) (hB : B ≤ 600000000) {w : Int} (hw : 0 ≤ w ∧ w ≤ 9) : mo_Ct lf ρf yX4_value cX4_value 2 (some .int) 6 0 0 [.ref x, mo_iv w] G M t (mo_pi G t (fun y M' => y = mo_nv g w ∧ M = M')) := by
  obtain ⟨T, sv, S, s, hC, hsv, hIS, hI⟩ := id hW
  have hI4 := hI.2.2.2.2.1
  have hI5 := hI.2.2.2.2.2.1
  have hI6 := hI.2.2.2.2.2.2.1
  have hI0 := hI.1
  exact mo_Ct_mono (nt4_value hC.1 hC.2.2.1 hI (by omega) (w := w) (by omega) hw) (fun v G' M' t' q => ⟨q.1, q.2.1, _, q.2.2.2.2, rfl, q.2.2.1.symm⟩)
theorem lt_order {lf : Launch} {ρf : mo_E} {G : mo_G} {M : mo_M} {t : Nat} {x : Nat} {g : Nat → Int} {B : Int} (hW : mo_Wd G M x g B) (hB : B ≤ 600000000) {o w : Int} (ho : 0 ≤ o ∧ o < g 4) (hw : 0 ≤ w ∧ w ≤ 6) : mo_Ct lf ρf yX4_order cX4_order 3 (some .int) 6 0 0 [.ref x, mo_iv o, mo_iv w] G M t (mo_pi G t (fun y M' => y = mo_ov g o.toNat w ∧ M = M')) := by
  obtain ⟨T, sv, S, s, hC, hsv, hIS, hI⟩ := id hW
  have hI4 := hI.2.2.2.2.1
  have hI5 := hI.2.2.2.2.2.1
  have hI6 := hI.2.2.2.2.2.2.1
  have hI0 := hI.1
  exact mo_Ct_mono (nt4_order hC.1 hC.2.2.1 hI (by omega) (o := o) (w := w) (by omega) (by omega) ⟨ho, hw⟩) (fun v G' M' t' q => ⟨q.1, q.2.1, _, q.2.2.2.2.2, rfl, q.2.2.1.symm⟩)
theorem lt_escort {lf : Launch} {ρf : mo_E} {G : mo_G} {M : mo_M} {t : Nat} {x : Nat} {g : Nat → Int} {B : Int} (hW : mo_Wd G M x g B) (hB : B ≤ 600000000) {o w : Int} (ho : 0 ≤ o ∧ o < g 5) (hw : 0 ≤ w ∧ w ≤ 3) : mo_Ct lf ρf yX4_escort cX4_escort 3 (some .int) 6 0 0 [.ref x, mo_iv o, mo_iv w] G M t (mo_pi G t (fun y M' => y = mo_ev g o.toNat w ∧ M = M')) := by
  obtain ⟨T, sv, S, s, hC, hsv, hIS, hI⟩ := id hW
  have hI4 := hI.2.2.2.2.1
  have hI5 := hI.2.2.2.2.2.1
  have hI6 := hI.2.2.2.2.2.2.1
  have hI0 := hI.1
  exact mo_Ct_mono (nt4_escort hC.1 hC.2.2.1 hI (by omega) (o := o) (w := w) (by omega) (by omega) ⟨ho, hw⟩) (fun v G' M' t' q => ⟨q.1, q.2.1, _, q.2.2.2.2.2, rfl, q.2.2.1.symm⟩)
theorem lt_hours {lf : Launch} {ρf : mo_E} {G : mo_G} {M : mo_M} {t : Nat} {x : Nat} {g : Nat → Int} {B : Int} (hW : mo_Wd G M x g B) (hB : B ≤ 600000000) {o w : Int} (ho : 0 ≤ o ∧ o < g 4) (hw : 0 ≤ w ∧ w ≤ 19) : mo_Ct lf ρf yX4_hours cX4_hours 3 (some .int) 6 0 0 [.ref x, mo_iv o, mo_iv w] G M t (mo_pi G t (fun y M' => y = g (8 + 20 * o.toNat + w.toNat) ∧ M = M')) := by
  obtain ⟨T, sv, S, s, hC, hsv, hIS, hI⟩ := id hW
  have hI4 := hI.2.2.2.2.1
  have hI5 := hI.2.2.2.2.2.1
  have hI6 := hI.2.2.2.2.2.2.1
  have hI0 := hI.1
  exact mo_Ct_mono (nt4_hours hC.1 hC.2.2.1 hI (by omega) (o := o) (w := w) (by omega) (by omega) ⟨ho, hw⟩) (fun v G' M' t' q => ⟨q.1, q.2.1, _, q.2.2.2.2.2, rfl, q.2.2.1.symm⟩)
theorem lt_owed {lf : Launch} {ρf : mo_E} {G : mo_G} {M : mo_M} {t : Nat} {x : Nat} {g : Nat → Int} {B : Int} (hW : mo_Wd G M x g B) (hB : B ≤ 600000000) {o w : Int} (ho : 0 ≤ o ∧ o < g 4) (hw : 0 ≤ w ∧ w ≤ 19) : mo_Ct lf ρf yX4_owed cX4_owed 3 (some .int) 6 0 0 [.ref x, mo_iv o, mo_iv w] G M t (mo_pi G t (fun y M' => y = mo_ow g o.toNat w.toNat ∧ M = M')) := by
  obtain ⟨T, sv, S, s, hC, hsv, hIS, hI⟩ := id hW
  have hI4 := hI.2.2.2.2.1
  have hI5 := hI.2.2.2.2.2.1
  have hI6 := hI.2.2.2.2.2.2.1
  have hI0 := hI.1
  exact mo_Ct_mono (nt4_owed hC.1 hC.2.2.1 hI (by omega) (o := o) (w := w) (by omega) (by omega) ⟨ho, hw⟩) (fun v G' M' t' q => ⟨q.1, q.2.1, _, q.2.2.2.2.2, rfl, q.2.2.1.symm⟩)
theorem lt_meeting {lf : Launch} {ρf : mo_E} {G : mo_G} {M : mo_M} {t : Nat} {x : Nat} {g : Nat → Int} {B : Int} (hW : mo_Wd G M x g B) (hB : B ≤ 600000000) {o w : Int} {k : Nat} (hpl : mo_ff (fun q => decide (mo_fld g q 0 = o)) (mo_nk g) = (k : Int)) (ho : mo_In o) (hw : 0 ≤ w ∧ w ≤ 5) : mo_Ct lf ρf yX4_meeting cX4_meeting 4 (some .int) 6 0 0 [.ref x, mo_iv o, mo_iv w] G M t (mo_pi G t (fun y M' => y = mo_fld g k (w.toNat + 1) ∧ M = M')) := by
  obtain ⟨T, sv, S, s, hC, hsv, hIS, hI⟩ := id hW
  exact mo_Ct_mono (nt4_meeting hC.1 hC.2.2.1 hI (by omega) (o := o) (w := w) (pl := (k : Int)) ho (by omega) hpl.symm ⟨by omega, hw⟩) (fun v G' M' t' q => ⟨q.1, q.2.1, _, q.2.2.2.2.2, rfl, q.2.2.1.symm⟩)
theorem lt_why {lf : Launch} {ρf : mo_E} {G : mo_G} {M : mo_M} {t : Nat} {x : Nat} {g : Nat → Int} {B : Int} (hW : mo_Wd G M x g B) (hB : B ≤ 600000000) {a w q e v : Int} (h1 : (0 ≤ a ∧ a < g 4) ∧ (0 ≤ e ∧ e < g 5) ∧ (0 ≤ v ∧ v < g 6)) (h2 : (0 ≤ w ∧ w ≤ 19) ∧ (0 ≤ q ∧ q ≤ 27)) : mo_Ct lf ρf yX4_why cX4_why 6 (some .int) 6 0 0 [.ref x, mo_iv a, mo_iv w, mo_iv q, mo_iv e, mo_iv v] G M t (mo_pi G t (fun y M' => y = mo_rs g a.toNat w.toNat q.toNat e.toNat v.toNat ∧ mo_Sm x M M' ∧ mo_Wd G M' x g B)) := by
  obtain ⟨T, sv, S, s, hC, hsv, hIS, hI⟩ := id hW
  have hI4 := hI.2.2.2.2.1
  have hI5 := hI.2.2.2.2.2.1
  have hI6 := hI.2.2.2.2.2.2.1
  have hI0 := hI.1
  exact mo_Ct_mono (nt4_why hC.1 hC.2.2.1 hI (by omega) (a := a) (w := w) (q := q) (e := e) (v := v) (by omega) (by omega) (by omega) (by omega) (by omega) ⟨h1, h2⟩) (fun v G' M' t' q => ⟨q.1, q.2.1, _, q.2.2.2.2.2, rfl, fun a ha => q.2.2.1 a (by omega) (by omega), mo_Wd_fr hW q.2.2.1⟩)
theorem lt_firstSlot {lf : Launch} {ρf : mo_E} {G : mo_G} {M : mo_M} {t : Nat} {x : Nat} {g : Nat → Int} {B : Int} (hW : mo_Wd G M x g B) (hB : B ≤ 600000000) {o w : Int} (ho : 0 ≤ o ∧ o < g 4) (hw : 0 ≤ w ∧ w ≤ 19) : mo_Ct lf ρf yX4_firstSlot cX4_firstSlot 3 (some .int) 6 0 0 [.ref x, mo_iv o, mo_iv w] G M t (mo_pi G t (fun y M' => y = mo_sf g w o.toNat ∧ mo_Sm x M M' ∧ mo_Wd G M' x g B)) := by
  obtain ⟨T, sv, S, s, hC, hsv, hIS, hI⟩ := id hW
  have hI4 := hI.2.2.2.2.1
  have hI5 := hI.2.2.2.2.2.1
  have hI6 := hI.2.2.2.2.2.2.1
  have hI0 := hI.1
  exact mo_Ct_mono (nt4_firstSlot hC.1 hC.2.2.1 hI (by omega) (o := o) (w := w) (by omega) (by omega) ⟨ho, hw⟩) (fun v G' M' t' q => ⟨q.1, q.2.1, _, q.2.2.2.2.2, rfl, fun a ha => q.2.2.1 a (by omega) (by omega), mo_Wd_fr hW q.2.2.1⟩)
theorem lt_owedBehind {lf : Launch} {ρf : mo_E} {G : mo_G} {M : mo_M} {t : Nat} {x : Nat} {g : Nat → Int} {B : Int} (hW : mo_Wd G M x g B) (hB : B ≤ 600000000) {w : Int} (hw : 0 ≤ w ∧ w ≤ 19) (h0 : g 0 ≤ w) : mo_Ct lf ρf yX4_owedBehind cX4_owedBehind 2 (some .int) 6 0 0 [.ref x, mo_iv w] G M t (mo_pi G t (fun y M' => y = mo_owa (mo_pl w.toNat 61 g).2 w.toNat ∧ mo_Sm x M M' ∧ mo_Wd G M' x g B)) := by
  obtain ⟨T, sv, S, s, hC, hsv, hIS, hI⟩ := id hW
  have hI4 := hI.2.2.2.2.1
  have hI5 := hI.2.2.2.2.2.1
  have hI6 := hI.2.2.2.2.2.2.1
  have hI0 := hI.1
  exact mo_Ct_mono (nt4_owedBehind hC.1 hC.2.2.1 hI (by omega) (w := w) (by omega) ⟨hw, h0⟩) (fun v G' M' t' q => ⟨q.1, q.2.1, _, q.2.2.2.2.2, rfl, fun a ha => q.2.2.1 a (by omega) (by omega), mo_Wd_fr hW q.2.2.1⟩)
theorem lt_gainBy {lf : Launch} {ρf : mo_E} {G : mo_G} {M : mo_M} {t : Nat} {x : Nat} {g : Nat → Int} {B : Int} (hW : mo_Wd G M x g B) (hB : B ≤ 600000000) {o w : Int} (ho : 0 ≤ o ∧ o < g 5) (hw : 0 ≤ w ∧ w ≤ 19) (h0 : g 0 ≤ w) : mo_Ct lf ρf yX4_gainBy cX4_gainBy 4 (some .int) 6 0 0 [.ref x, mo_iv o, mo_iv w] G M t (mo_pi G t (fun y M' => y = (mo_pl w.toNat 61 (va_up g (198 + o.toNat) 20)).1 - (mo_pl w.toNat 61 g).1 ∧ mo_Sm x M M' ∧ mo_Wd G M' x g B)) := by
  obtain ⟨T, sv, S, s, hC, hsv, hIS, hI⟩ := id hW
  have hI4 := hI.2.2.2.2.1
  have hI5 := hI.2.2.2.2.2.1
  have hI6 := hI.2.2.2.2.2.2.1
  have hI0 := hI.1
  exact mo_Ct_mono (nt4_gainBy hC.1 hC.2.2.1 hI (by omega) (o := o) (w := w) (by omega) (by omega) ⟨ho, hw, h0⟩) (fun v G' M' t' q => ⟨q.1, q.2.1, _, q.2.2.2.2.2.2, rfl, fun a ha => q.2.2.1 a (by omega) (by omega), mo_Wd_fr hW q.2.2.1⟩)
theorem lt_settledIn {lf : Launch} {ρf : mo_E} {G : mo_G} {M : mo_M} {t : Nat} {x : Nat} {g : Nat → Int} {B : Int} (hW : mo_Wd G M x g B) (hB : B ≤ 600000000) : mo_Ct lf ρf yX4_settledIn cX4_settledIn 2 (some .int) 5 0 0 [.ref x] G M t (mo_pi G t (fun y M' => (-1 ≤ y ∧ y ≤ 19) ∧ mo_Sm x M M' ∧ mo_Wd G M' x g B)) := by
  obtain ⟨T, sv, S, s, hC, hsv, hIS, hI⟩ := id hW
  refine mo_Ct_mono (ct4_settledIn hC.1 hC.2.2.1 hI (by omega)) (fun v G' M' t' q => ?_)
  obtain ⟨q1, q2, y, q3, q4, q5⟩ := q
  refine ⟨q1, q2, y, q3, ?_, fun a ha => q5 a (by omega) (by omega), mo_Wd_fr hW q5⟩
  rw [q4]
  exact mo_set_b 20 g B hI
theorem lt_addVenue {lf : Launch} {ρf : mo_E} {G : mo_G} {M : mo_M} {t : Nat} {x : Nat} {g : Nat → Int} {B : Int} (hW : mo_Wd G M x g B) (hB : B ≤ 600000000) {v : Int} (hv : 1 ≤ v ∧ v ≤ 4) (h6 : g 6 < 5) : mo_Ct lf ρf yX4_addVenue cX4_addVenue 2 (some .int) 6 0 0 [.ref x, mo_iv v] G M t (fun u G' M' t' => mo_GE x G G' ∧ t' = t ∧ u = some (mo_iv (g 6)) ∧ mo_Sm x M M' ∧ mo_Wd2 G' M' x (mo_gAV g v) g (B + 0)) := by
  obtain ⟨T, sv, S, s, hC, hsv, hIS, hI⟩ := id hW
  have hI4 := hI.2.2.2.2.1
  have hI5 := hI.2.2.2.2.2.1
  have hI6 := hI.2.2.2.2.2.2.1
  have hI0 := hI.1
  have hIv : mo_Iv (mo_gAV g v) (B + 0) := mo_Iv_mono (mo_Iv_AV h6 (by omega) hI) (by omega)
  exact mo_Ct_mono (nt4_addVenue hC hI (by omega) hsv (v := v) (by omega) ⟨hv, h6⟩) (fun v G' M' t' q => ⟨q.1, q.2.1, q.2.2.2.2.1, q.2.2.2.2.2.1, mo_Wd_mu hsv hIS hI (by omega) hIv q.2.2.2.2.2.2⟩)
theorem lt_addEscort {lf : Launch} {ρf : mo_E} {G : mo_G} {M : mo_M} {t : Nat} {x : Nat} {g : Nat → Int} {B : Int} (hW : mo_Wd G M x g B) (hB : B ≤ 600000000) {p v : Int} (hp : 0 ≤ p ∧ p ≤ 268435455) (hv : 1 ≤ v ∧ v ≤ 20) (h5 : g 5 < 6) : mo_Ct lf ρf yX4_addEscort cX4_addEscort 3 (some .int) 6 0 0 [.ref x, mo_iv p, mo_iv v] G M t (fun u G' M' t' => mo_GE x G G' ∧ t' = t ∧ u = some (mo_iv (g 5)) ∧ mo_Sm x M M' ∧ mo_Wd2 G' M' x (mo_gAE g p v) g (B + 0)) := by
  obtain ⟨T, sv, S, s, hC, hsv, hIS, hI⟩ := id hW
  have hI4 := hI.2.2.2.2.1
  have hI5 := hI.2.2.2.2.2.1
  have hI6 := hI.2.2.2.2.2.2.1
  have hI0 := hI.1
  have hIv : mo_Iv (mo_gAE g p v) (B + 0) := mo_Iv_mono (mo_Iv_AE h5 (by omega) (by omega) hI) (by omega)
  exact mo_Ct_mono (nt4_addEscort hC hI (by omega) hsv (p := p) (v := v) (by omega) (by omega) ⟨⟨hp, hv⟩, h5⟩) (fun v G' M' t' q => ⟨q.1, q.2.1, q.2.2.2.2.1, q.2.2.2.2.2.1, mo_Wd_mu hsv hIS hI (by omega) hIv q.2.2.2.2.2.2⟩)
theorem lt_addOrder {lf : Launch} {ρf : mo_E} {G : mo_G} {M : mo_M} {t : Nat} {x : Nat} {g : Nat → Int} {B : Int} (hW : mo_Wd G M x g B) (hB : B ≤ 600000000) {p v : Int} (hp : 0 ≤ p ∧ p ≤ 7) (hv : 0 ≤ v ∧ v < 2 ^ (g 6).toNat) (hv2 : v < 32) (h4 : g 4 < 8) : mo_Ct lf ρf yX4_addOrder cX4_addOrder 3 (some .int) 6 0 0 [.ref x, mo_iv p, mo_iv v] G M t (fun u G' M' t' => mo_GE x G G' ∧ t' = t ∧ u = some (mo_iv (g 4)) ∧ mo_Sm x M M' ∧ mo_Wd2 G' M' x (mo_gAO g p v) g (B + 0)) := by
  obtain ⟨T, sv, S, s, hC, hsv, hIS, hI⟩ := id hW
  have hI4 := hI.2.2.2.2.1
  have hI5 := hI.2.2.2.2.2.1
  have hI6 := hI.2.2.2.2.2.2.1
  have hI0 := hI.1
  have hIv : mo_Iv (mo_gAO g p v) (B + 0) := mo_Iv_mono (mo_Iv_AO h4 hp ⟨hv.1, hv2⟩ hI) (by omega)
  exact mo_Ct_mono (nt4_addOrder hC hI (by omega) hsv (p := p) (v := v) (by omega) (by omega) ⟨⟨hp, hv⟩, h4⟩) (fun v G' M' t' q => ⟨q.1, q.2.1, q.2.2.2.2.1, q.2.2.2.2.2.1, mo_Wd_mu hsv hIS hI (by omega) hIv q.2.2.2.2.2.2⟩)
theorem lt_change {lf : Launch} {ρf : mo_E} {G : mo_G} {M : mo_M} {t : Nat} {x : Nat} {g : Nat → Int} {B : Int} (hW : mo_Wd G M x g B) (hB : B ≤ 600000000) {o w h : Int} (ho : 0 ≤ o ∧ o < g 4) (hw : g 0 ≤ w ∧ w ≤ 19) (hh : 0 ≤ h ∧ h ≤ 7) : mo_Ct lf ρf yX4_change cX4_change 5 (some .int) 6 0 0 [.ref x, mo_iv o, mo_iv w, mo_iv h] G M t (fun u G' M' t' => mo_GE x G G' ∧ t' = t ∧ u = some (mo_iv (g (8 + 20 * o.toNat + w.toNat))) ∧ mo_Sm x M M' ∧ mo_Wd2 G' M' x (mo_gCH g o.toNat w.toNat h) g (B + 0)) := by
  obtain ⟨T, sv, S, s, hC, hsv, hIS, hI⟩ := id hW
  have hI4 := hI.2.2.2.2.1
  have hI5 := hI.2.2.2.2.2.1
  have hI6 := hI.2.2.2.2.2.2.1
  have hI0 := hI.1
  have hIv : mo_Iv (mo_gCH g o.toNat w.toNat h) (B + 0) := mo_Iv_mono (mo_Iv_CH hI (by omega) hh) (by omega)
  exact mo_Ct_mono (nt4_change hC hI (by omega) hsv (o := o) (w := w) (h := h) (by omega) (by omega) (by omega) ⟨ho, hw, hh⟩) (fun v G' M' t' q => ⟨q.1, q.2.1, q.2.2.2.2.1, q.2.2.2.2.2.1, mo_Wd_mu hsv hIS hI (by omega) hIv q.2.2.2.2.2.2⟩)
theorem lt_setSlots {lf : Launch} {ρf : mo_E} {G : mo_G} {M : mo_M} {t : Nat} {x : Nat} {g : Nat → Int} {B : Int} (hW : mo_Wd G M x g B) (hB : B ≤ 600000000) {o v : Int} (ho : 0 ≤ o ∧ o < g 5) (hv : 0 ≤ v ∧ v ≤ 268435455) : mo_Ct lf ρf yX4_setSlots cX4_setSlots 4 (some .int) 6 0 0 [.ref x, mo_iv o, mo_iv v] G M t (fun u G' M' t' => mo_GE x G G' ∧ t' = t ∧ u = some (mo_iv (g (192 + o.toNat))) ∧ mo_Sm x M M' ∧ mo_Wd2 G' M' x (va_up g (192 + o.toNat) v) g (B + 0)) := by
  obtain ⟨T, sv, S, s, hC, hsv, hIS, hI⟩ := id hW
  have hI4 := hI.2.2.2.2.1
  have hI5 := hI.2.2.2.2.2.1
  have hI6 := hI.2.2.2.2.2.2.1
  have hI0 := hI.1
  have hIv : mo_Iv (va_up g (192 + o.toNat) v) (B + 0) := mo_Iv_mono (mo_Iv_u192 (by omega) (by omega) hI) (by omega)
  exact mo_Ct_mono (nt4_setSlots hC hI (by omega) hsv (o := o) (v := v) (by omega) (by omega) ⟨ho, hv⟩) (fun v G' M' t' q => ⟨q.1, q.2.1, q.2.2.2.2.1, q.2.2.2.2.2.1, mo_Wd_mu hsv hIS hI (by omega) hIv q.2.2.2.2.2.2⟩)
theorem lt_plan {lf : Launch} {ρf : mo_E} {G : mo_G} {M : mo_M} {t : Nat} {x : Nat} {g : Nat → Int} {B : Int} (hW : mo_Wd G M x g B) (hB : B ≤ 600000000) {a w q e v : Int} (h1 : (0 ≤ a ∧ a < g 4) ∧ (0 ≤ e ∧ e < g 5) ∧ (0 ≤ v ∧ v < g 6)) (h2 : (0 ≤ w ∧ w ≤ 19) ∧ (0 ≤ q ∧ q ≤ 27)) (h3 : mo_rs g a.toNat w.toNat q.toNat e.toNat v.toNat = 0) : mo_Ct lf ρf yX4_plan cX4_plan 6 (some .int) 6 0 0 [.ref x, mo_iv a, mo_iv w, mo_iv q, mo_iv e, mo_iv v] G M t (fun u G' M' t' => mo_GE x G G' ∧ t' = t ∧ u = some (mo_iv (g 1)) ∧ mo_Sm x M M' ∧ mo_Wd2 G' M' x (mo_ly g a w q e v) g (B + 1)) := by
  obtain ⟨T, sv, S, s, hC, hsv, hIS, hI⟩ := id hW
  have hI4 := hI.2.2.2.2.1
  have hI5 := hI.2.2.2.2.2.1
  have hI6 := hI.2.2.2.2.2.2.1
  have hI0 := hI.1
  have hIv : mo_Iv (mo_ly g a w q e v) (B + 1) := mo_Iv_ly hI h1.1 h2.1 h2.2 h1.2.1 h1.2.2 (mo_rs_7 hI h3)
  exact mo_Ct_mono (nt4_plan hC hI (by omega) hsv (a := a) (w := w) (q := q) (e := e) (v := v) (by omega) (by omega) (by omega) (by omega) (by omega) ⟨h1, h2, h3⟩) (fun v G' M' t' q => ⟨q.1, q.2.1, q.2.2.2.2.2.1, q.2.2.2.2.2.2.1, mo_Wd_mu hsv hIS hI (by omega) hIv q.2.2.2.2.2.2.2⟩)
theorem lt_planWeek {lf : Launch} {ρf : mo_E} {G : mo_G} {M : mo_M} {t : Nat} {x : Nat} {g : Nat → Int} {B : Int} (hW : mo_Wd G M x g B) (hB : B ≤ 600000000) {w : Int} (hw : 0 ≤ w ∧ w ≤ 19) (h0 : g 0 ≤ w) : mo_Ct lf ρf yX4_planWeek cX4_planWeek 2 (some .int) 6 0 0 [.ref x, mo_iv w] G M t (fun u G' M' t' => mo_GE x G G' ∧ t' = t ∧ u = some (mo_iv ((mo_pl w.toNat 61 g).1)) ∧ mo_Sm x M M' ∧ mo_Wd2 G' M' x ((mo_pl w.toNat 61 g).2) g (B + 61)) := by
  obtain ⟨T, sv, S, s, hC, hsv, hIS, hI⟩ := id hW
  have hI4 := hI.2.2.2.2.1
  have hI5 := hI.2.2.2.2.2.1
  have hI6 := hI.2.2.2.2.2.2.1
  have hI0 := hI.1
  have hIv : mo_Iv ((mo_pl w.toNat 61 g).2) (B + 61) := (mo_pl_Iv (show w.toNat < 20 by omega) 61 hI).1
  exact mo_Ct_mono (nt4_planWeek hC hI (by omega) hsv (w := w) (by omega) ⟨hw, h0⟩) (fun v G' M' t' q => ⟨q.1, q.2.1, q.2.2.2.2.1, q.2.2.2.2.2.1, mo_Wd_mu hsv hIS hI (by omega) hIv q.2.2.2.2.2.2⟩)
theorem lt_cancel {lf : Launch} {ρf : mo_E} {G : mo_G} {M : mo_M} {t : Nat} {x : Nat} {g : Nat → Int} {B : Int} (hW : mo_Wd G M x g B) (hB : B ≤ 600000000) {o : Int} {k : Nat} (hpl : mo_ff (fun q => decide (mo_fld g q 0 = o)) (mo_nk g) = (k : Int)) (hk : (k : Int) < g 7) (ho : mo_In o) (h6 : mo_fld g k 6 = 0) : mo_Ct lf ρf yX4_cancel cX4_cancel 4 (some .int) 6 0 0 [.ref x, mo_iv o] G M t (fun u G' M' t' => mo_GE x G G' ∧ t' = t ∧ u = some (mo_iv (mo_fld g k 2)) ∧ mo_Sm x M M' ∧ mo_Wd2 G' M' x (mo_to g k) g (B + 0)) := by
  obtain ⟨T, sv, S, s, hC, hsv, hIS, hI⟩ := id hW
  have hI4 := hI.2.2.2.2.1
  have hI5 := hI.2.2.2.2.2.1
  have hI6 := hI.2.2.2.2.2.2.1
  have hI0 := hI.1
  have hIv : mo_Iv (mo_to g k) (B + 0) := mo_Iv_mono (mo_Iv_to hI hk) (by omega)
  exact mo_Ct_mono (nt4_cancel hC hI (by omega) hsv (o := o) (pl := (k : Int)) ho hpl.symm ⟨by omega, h6⟩) (fun v G' M' t' q => ⟨q.1, q.2.1, q.2.2.2.2.1, q.2.2.2.2.2.1, mo_Wd_mu hsv hIS hI (by omega) hIv q.2.2.2.2.2.2⟩)
theorem lt_tell {lf : Launch} {ρf : mo_E} {G : mo_G} {M : mo_M} {t : Nat} {x : Nat} {g : Nat → Int} {B : Int} (hW : mo_Wd G M x g B) (hB : B ≤ 600000000) {o v : Int} {k : Nat} (hpl : mo_ff (fun q => decide (mo_fld g q 0 = o)) (mo_nk g) = (k : Int)) (hk : (k : Int) < g 7) (ho : mo_In o) (hv : mo_In v) (h6 : mo_op g k = true) : mo_Ct lf ρf yX4_tell cX4_tell 4 (some .int) 6 0 0 [.ref x, mo_iv o, mo_iv v] G M t (fun u G' M' t' => mo_GE x G G' ∧ t' = t ∧ u = some (mo_iv (mo_ow (if v = 0 then mo_ms g k else mo_hd g k) (mo_fld g k 1).toNat (g 0).toNat)) ∧ mo_Sm x M M' ∧ mo_Wd2 G' M' x (if v = 0 then mo_ms g k else mo_hd g k) g (B + 1)) := by
  obtain ⟨T, sv, S, s, hC, hsv, hIS, hI⟩ := id hW
  have hI4 := hI.2.2.2.2.1
  have hI5 := hI.2.2.2.2.2.1
  have hI6 := hI.2.2.2.2.2.2.1
  have hI0 := hI.1
  have hIv : mo_Iv (if v = 0 then mo_ms g k else mo_hd g k) (B + 1) := by
    split
    · exact mo_Iv_ms hI hk
    · exact mo_Iv_hd hI hk
  exact mo_Ct_mono (nt4_tell hC hI (by omega) hsv (o := o) (v := v) (pl := (k : Int)) ho hv hpl.symm ⟨by omega, h6⟩) (fun v G' M' t' q => ⟨q.1, q.2.1, q.2.2.2.2.1, q.2.2.2.2.2.1, mo_Wd_mu hsv hIS hI (by omega) hIv q.2.2.2.2.2.2⟩)
theorem lt_endWeek {lf : Launch} {ρf : mo_E} {G : mo_G} {M : mo_M} {t : Nat} {x : Nat} {g : Nat → Int} {B : Int} (hW : mo_Wd G M x g B) (hB : B ≤ 600000000) (h0 : g 0 < 19) : mo_Ct lf ρf yX4_endWeek cX4_endWeek 2 (some .int) 6 0 0 [.ref x] G M t (fun u G' M' t' => mo_GE x G G' ∧ t' = t ∧ u = some (mo_iv (mo_eN g)) ∧ mo_Sm x M M' ∧ mo_Wd2 G' M' x (mo_eR g) g (B + 60)) := by
  obtain ⟨T, sv, S, s, hC, hsv, hIS, hI⟩ := id hW
  have hI4 := hI.2.2.2.2.1
  have hI5 := hI.2.2.2.2.2.1
  have hI6 := hI.2.2.2.2.2.2.1
  have hI0 := hI.1
  have hIv : mo_Iv (mo_eR g) (B + 60) := (mo_e_b hI h0).1
  exact mo_Ct_mono (nt4_endWeek hC hI (by omega) hsv h0) (fun v G' M' t' q => ⟨q.1, q.2.1, q.2.2.2.1, q.2.2.2.2.1, mo_Wd_mu hsv hIS hI (by omega) hIv q.2.2.2.2.2⟩)
theorem lt_undo {lf : Launch} {ρf : mo_E} {G : mo_G} {M : mo_M} {t : Nat} {x : Nat} {g g0 : Nat → Int} {B : Int} (hW : mo_Wd2 G M x g g0 B) (hB : B ≤ 600000000) : mo_Ct lf ρf yX4_undo cX4_undo 1 (some .int) 6 0 0 [.ref x] G M t (mo_pi G t (fun y M' => (0 ≤ y ∧ y ≤ 4) ∧ mo_Sm x M M' ∧ mo_Wd G M' x g0 B)) := by
  obtain ⟨T, sv, S, s, hC, hsv, hIS, hI, h0, hl⟩ := hW
  refine mo_Ct_mono (nt4_undo hC hI (by omega) hsv hIS h0) (fun v G' M' t' q => ?_)
  obtain ⟨q1, q2, q3, q4, q5, q6⟩ := q
  subst q1
  rw [hl] at q6
  refine ⟨rfl, q2, _, q4, by omega, q5, T, sv - 1, S, s, q6, by omega, fun i hi => hIS i (by omega), ?_⟩
  rw [← hl]
  exact hIS _ (by omega)
