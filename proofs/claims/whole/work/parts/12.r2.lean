theorem mo_b1 {x : Int} {P : Prop} (h : (x = 1 ∧ P) ∨ (x = 0 ∧ ¬ P)) (hx : x ≠ 0) : P := h.elim (fun q => q.2) (fun q => absurd q.1 hx)
theorem mo_b0 {x : Int} {P : Prop} (h : (x = 1 ∧ P) ∨ (x = 0 ∧ ¬ P)) (hx : x = 0) : ¬ P := h.elim (fun q => absurd (q.1.symm.trans hx) (by decide)) (fun q => q.2)
def mo_sc (M : mo_M) (m : Nat) (f4 f5 f6 f7 : Nat → Int) : mo_M := fun a => if a = m + 4 then f4 else if a = m + 5 then f5 else if a = m + 6 then f6 else if a = m + 7 then f7 else M a
theorem mo_sc_r (M : mo_M) {m a : Nat} (f4 f5 f6 f7 : Nat → Int) (h : a ≠ m + 4 ∧ a ≠ m + 5 ∧ a ≠ m + 6 ∧ a ≠ m + 7) : mo_sc M m f4 f5 f6 f7 a = M a := by
  unfold mo_sc
  rw [if_neg h.1, if_neg h.2.1, if_neg h.2.2.1, if_neg h.2.2.2]
theorem mo_sc_r0 (M : mo_M) (m : Nat) (f4 f5 f6 f7 : Nat → Int) : mo_sc M m f4 f5 f6 f7 m = M m := mo_sc_r M _ _ _ _ (by omega)
theorem mo_sc_r1 (M : mo_M) (m : Nat) (f4 f5 f6 f7 : Nat → Int) : mo_sc M m f4 f5 f6 f7 (m + 1) = M (m + 1) := mo_sc_r M _ _ _ _ (by omega)
theorem mo_sc_r2 (M : mo_M) (m : Nat) (f4 f5 f6 f7 : Nat → Int) : mo_sc M m f4 f5 f6 f7 (m + 2) = M (m + 2) := mo_sc_r M _ _ _ _ (by omega)
theorem mo_sc_r3 (M : mo_M) (m : Nat) (f4 f5 f6 f7 : Nat → Int) : mo_sc M m f4 f5 f6 f7 (m + 3) = M (m + 3) := mo_sc_r M _ _ _ _ (by omega)
theorem mo_sc_r8 (M : mo_M) (m : Nat) (f4 f5 f6 f7 : Nat → Int) : mo_sc M m f4 f5 f6 f7 (m + 8) = M (m + 8) := mo_sc_r M _ _ _ _ (by omega)
theorem mo_sc_r9 (M : mo_M) (m : Nat) (f4 f5 f6 f7 : Nat → Int) : mo_sc M m f4 f5 f6 f7 (m + 9) = M (m + 9) := mo_sc_r M _ _ _ _ (by omega)
theorem mo_sc_r4 (M : mo_M) (m : Nat) (f4 f5 f6 f7 : Nat → Int) : mo_sc M m f4 f5 f6 f7 (m + 4) = f4 := by simp [mo_sc]
theorem mo_sc_r5 (M : mo_M) (m : Nat) (f4 f5 f6 f7 : Nat → Int) : mo_sc M m f4 f5 f6 f7 (m + 5) = f5 := by simp [mo_sc]
theorem mo_sc_r6 (M : mo_M) (m : Nat) (f4 f5 f6 f7 : Nat → Int) : mo_sc M m f4 f5 f6 f7 (m + 6) = f6 := by simp [mo_sc]
theorem mo_sc_r7 (M : mo_M) (m : Nat) (f4 f5 f6 f7 : Nat → Int) : mo_sc M m f4 f5 f6 f7 (m + 7) = f7 := by simp [mo_sc]
theorem mo_sc_4 (M : mo_M) (m : Nat) (f4 f5 f6 f7 f : Nat → Int) : mo_ur (mo_sc M m f4 f5 f6 f7) (m + 4) f = mo_sc M m f f5 f6 f7 := by
  funext a
  unfold mo_ur mo_sc
  split <;> rfl
theorem mo_sc_5 (M : mo_M) (m : Nat) (f4 f5 f6 f7 f : Nat → Int) : mo_ur (mo_sc M m f4 f5 f6 f7) (m + 5) f = mo_sc M m f4 f f6 f7 := by
  funext a
  unfold mo_ur mo_sc
  by_cases h : a = m + 5
  · rw [if_pos h, if_neg (by omega), if_pos h]
  · rw [if_neg h, if_neg h, if_neg h]
theorem mo_sc_6 (M : mo_M) (m : Nat) (f4 f5 f6 f7 f : Nat → Int) : mo_ur (mo_sc M m f4 f5 f6 f7) (m + 6) f = mo_sc M m f4 f5 f f7 := by
  funext a
  unfold mo_ur mo_sc
  by_cases h : a = m + 6
  · rw [if_pos h, if_neg (by omega), if_neg (by omega), if_pos h]
  · rw [if_neg h, if_neg h, if_neg h]
theorem mo_sc_7 (M : mo_M) (m : Nat) (f4 f5 f6 f7 f : Nat → Int) : mo_ur (mo_sc M m f4 f5 f6 f7) (m + 7) f = mo_sc M m f4 f5 f6 f := by
  funext a
  unfold mo_ur mo_sc
  by_cases h : a = m + 7
  · rw [if_pos h, if_neg (by omega), if_neg (by omega), if_neg (by omega), if_pos h]
  · rw [if_neg h, if_neg h, if_neg h]
theorem mo_sc_id (M : mo_M) (m : Nat) : mo_sc M m (M (m + 4)) (M (m + 5)) (M (m + 6)) (M (m + 7)) = M := by
  funext a
  unfold mo_sc
  split
  · rename_i h; rw [h]
  · split
    · rename_i h; rw [h]
    · split
      · rename_i h; rw [h]
      · split
        · rename_i h; rw [h]
        · rfl
theorem mo_sc_sc (M : mo_M) (m : Nat) (f4 f5 f6 f7 g4 g5 g6 g7 : Nat → Int) : mo_sc (mo_sc M m f4 f5 f6 f7) m g4 g5 g6 g7 = mo_sc M m g4 g5 g6 g7 := by
  funext a
  unfold mo_sc
  split
  · rfl
  · split
    · rfl
    · split
      · rfl
      · split <;> rfl
theorem mo_sc_u (M : mo_M) {m a : Nat} (f4 f5 f6 f7 f : Nat → Int) (h : a ≠ m + 4 ∧ a ≠ m + 5 ∧ a ≠ m + 6 ∧ a ≠ m + 7) : mo_sc (mo_ur M a f) m f4 f5 f6 f7 = mo_ur (mo_sc M m f4 f5 f6 f7) a f := by
  funext b
  unfold mo_ur mo_sc
  by_cases hb : b = a
  · subst hb
    simp [h.1, h.2.1, h.2.2.1, h.2.2.2]
  · simp [hb]
/-- the four rows of a week that is looked at -/
def mo_Lk (M : mo_M) (m : Nat) (w : Int) : Prop := (∀ j, j < 140 → M (m + 4) j = mo_fre (M (m + 1)) w (mo_nk (M (m + 1))) j) ∧ (∀ e, e < 6 → M (m + 5) e = mo_bsy (M (m + 1)) w (mo_nk (M (m + 1))) e) ∧ (∀ e, e < 6 → M (m + 6) e = mo_mny (M (m + 1)) w (mo_nk (M (m + 1))) e) ∧ (∀ o, o < 8 → M (m + 7) o = mo_dys (M (m + 1)) w (mo_nk (M (m + 1))) o)
theorem mo_s4 {g f4 : Nat → Int} {w : Int} {i : Nat} {q : Int} (h : ∀ j, j < 140 → f4 j = g (210 + j / 28) - mo_tkn g w i j) (hs : mo_std g w i = true) (hq : q = 28 * mo_fld g i 5 + mo_fld g i 3) (h0 : 0 ≤ q) (v : Int) (hv : v = f4 q.toNat - 1) : ∀ j, j < 140 → va_up f4 q.toNat v j = g (210 + j / 28) - mo_tkn g w (i + 1) j := by
  intro j hj
  rw [mo_tkn_s]
  by_cases e : j = q.toNat
  · subst e
    rw [mo_up_s, hv, h _ hj, if_pos ⟨hs, by omega⟩]
    omega
  · rw [mo_up_n e, h j hj, if_neg (fun c => e (by omega))]
    omega
theorem mo_s5 {g f5 : Nat → Int} {w : Int} {i : Nat} {q : Int} (h : ∀ e, e < 6 → f5 e = mo_bsy g w i e) (hs : mo_std g w i = true) (hq : q = mo_fld g i 4) (h0 : 0 ≤ q) (v : Int) (hv : v = mo_or (f5 q.toNat) (mo_shl 1 (mo_fld g i 3))) : ∀ e, e < 6 → va_up f5 q.toNat v e = mo_bsy g w (i + 1) e := by
  intro e he
  rw [mo_bsy_s]
  by_cases c : e = q.toNat
  · subst c
    rw [mo_up_s, hv, h _ he, if_pos ⟨hs, by omega⟩]
  · rw [mo_up_n c, h e he, if_neg (fun z => c (by omega))]
theorem mo_s6 {g f6 : Nat → Int} {w : Int} {i : Nat} {q : Int} (h : ∀ e, e < 6 → f6 e = mo_mny g w i e) (hs : mo_std g w i = true) (hq : q = mo_fld g i 4) (h0 : 0 ≤ q) (v : Int) (hv : v = f6 q.toNat + 1) : ∀ e, e < 6 → va_up f6 q.toNat v e = mo_mny g w (i + 1) e := by
  intro e he
  rw [mo_mny_s]
  by_cases c : e = q.toNat
  · subst c
    rw [mo_up_s, hv, h _ he, if_pos ⟨hs, by omega⟩]
  · rw [mo_up_n c, h e he, if_neg (fun z => c (by omega))]
    omega
theorem mo_s7 {g f7 : Nat → Int} {w : Int} {i : Nat} {q : Int} (h : ∀ o, o < 8 → f7 o = mo_dys g w i o) (hs : mo_std g w i = true) (hq : q = mo_fld g i 1) (h0 : 0 ≤ q) (v : Int) (hv : v = mo_or (f7 q.toNat) (mo_shl 1 (mo_fld g i 3 / 4))) : ∀ o, o < 8 → va_up f7 q.toNat v o = mo_dys g w (i + 1) o := by
  intro e he
  rw [mo_dys_s]
  by_cases c : e = q.toNat
  · subst c
    rw [mo_up_s, hv, h _ he, if_pos ⟨hs, by omega⟩]
  · rw [mo_up_n c, h e he, if_neg (fun z => c (by omega))]
theorem mo_ns {g : Nat → Int} {w : Int} {i : Nat} (hs : ¬ mo_std g w i = true) (j : Nat) : mo_tkn g w (i + 1) j = mo_tkn g w i j ∧ mo_bsy g w (i + 1) j = mo_bsy g w i j ∧ mo_mny g w (i + 1) j = mo_mny g w i j ∧ mo_dys g w (i + 1) j = mo_dys g w i j := by
  rw [mo_tkn_s, mo_bsy_s, mo_mny_s, mo_dys_s, if_neg (fun c => hs c.1), if_neg (fun c => hs c.1), if_neg (fun c => hs c.1), if_neg (fun c => hs c.1)]
  exact ⟨by omega, rfl, by omega, rfl⟩
set_option maxHeartbeats 4000000 in
set_option maxRecDepth 100000 in
theorem ct5_look {lf : Launch} {ρf : mo_E} {G : mo_G} {M : mo_M} {t : Nat} {m : Nat} (hm : mo_Md G m) {B w : Int} (hI : mo_Iv (M (m + 1)) B) (hB : B ≤ 1000000000) (hw : mo_In w) : mo_Ct lf ρf yX5_look cX5_look 3 none 2 0 0 [.ref m, mo_iv w] G M t (mo_pv G t (fun M' => ∃ f4 f5 f6 f7, M' = mo_sc M m f4 f5 f6 f7 ∧ mo_Lk M' m w)) := by
  refine mo_ofW (ls0 := [some (.ref m), some (mo_iv w), none]) (by decide) rfl (Nat.le_of_ble_eq_true rfl) ?_
  intro κ X Y
  have X : mo_Cx κ lf ρf cX5_look 3 RX5 none 2 := X
  obtain ⟨hI0, hI1, hI2, hI3, hI4, hI5, hI6, hI7, hIh, hIa, hIe, hIm, hIs, hIl, hIw, hIr, hIt, hIs2, hIs3, hIz⟩ := id hI
  have hn : ((mo_nk (M (m + 1)) : Nat) : Int) = M (m + 1) 7 := by unfold mo_nk; omega
  have lpD : ∀ (z i : Nat) (x : Int) (f4 f5 f6 f7 : Nat → Int), i + z = mo_nk (M (m + 1)) → x = i → (∀ j, j < 140 → f4 j = M (m + 1) (210 + j / 28) - mo_tkn (M (m + 1)) w i j) → (∀ e, e < 6 → f5 e = mo_bsy (M (m + 1)) w i e) → (∀ e, e < 6 → f6 e = mo_mny (M (m + 1)) w i e) → (∀ o, o < 8 → f7 o = mo_dys (M (m + 1)) w i o) → mo_V κ 0 0 85 [some (.ref m), some (mo_iv w), some (mo_iv x)] [] G (mo_sc M m f4 f5 f6 f7) t := by
    intro z
    induction z with
    | zero =>
      intro i x f4 f5 f6 f7 hi hx h4 h5 h6 h7
      subst hx
      refine mo_il2 (pc := 85) X dX5_look_85 ?_
      refine mo_al0 (pc := 86) X dX5_look_86 ?_
      refine mo_f_X5_7 (pc := 87) X dX5_look_87 (mo_Md_o hm) (mo_Md_p0 hm) ?_
      refine mo_bipush (pc := 90) X dX5_look_90 (by decide) ?_
      refine mo_iald (pc := 92) (j := 7) X dX5_look_92 (mo_Md_r0 hm) (by omega) ?_ ?_ rfl ?_
      · omega
      · omega
      try simp only [mo_sc_r1, mo_sc_r4, mo_sc_r5, mo_sc_r6, mo_sc_r7, mo_sc_4, mo_sc_5, mo_sc_6, mo_sc_7]
      refine mo_ic_ge (pc := 93) (tgt := 197) X dX5_look_93 (by decide) ?_ ?_ (fun c_93 => ?_) (fun c_93 => ?_)
      · omega
      · omega
      · skip
        refine mo_vret (pc := 197) X Y rfl dX5_look_197 ⟨rfl, rfl, rfl, ?_⟩
        refine ⟨f4, f5, f6, f7, rfl, ?_⟩
        unfold mo_Lk
        rw [mo_sc_r1, mo_sc_r4, mo_sc_r5, mo_sc_r6, mo_sc_r7, show mo_nk (M (m + 1)) = i by omega]
        exact ⟨h4, h5, h6, h7⟩
      · exfalso
        omega
    | succ z ih =>
      intro i x f4 f5 f6 f7 hi hx h4 h5 h6 h7
      subst hx
      have hmt := hIt i (by omega)
      unfold mo_Mt at hmt
      refine mo_il2 (pc := 85) X dX5_look_85 ?_
      refine mo_al0 (pc := 86) X dX5_look_86 ?_
      refine mo_f_X5_7 (pc := 87) X dX5_look_87 (mo_Md_o hm) (mo_Md_p0 hm) ?_
      refine mo_bipush (pc := 90) X dX5_look_90 (by decide) ?_
      refine mo_iald (pc := 92) (j := 7) X dX5_look_92 (mo_Md_r0 hm) (by omega) ?_ ?_ rfl ?_
      · omega
      · omega
      try simp only [mo_sc_r1, mo_sc_r4, mo_sc_r5, mo_sc_r6, mo_sc_r7, mo_sc_4, mo_sc_5, mo_sc_6, mo_sc_7]
      refine mo_ic_ge (pc := 93) (tgt := 197) X dX5_look_93 (by decide) ?_ ?_ (fun c_93 => ?_) (fun c_93 => ?_)
      · omega
      · omega
      · exfalso
        omega
      · skip
        refine mo_al0 (pc := 96) X dX5_look_96 ?_
        refine mo_il2 (pc := 97) X dX5_look_97 ?_
        refine mo_il1 (pc := 98) X dX5_look_98 ?_
        refine mo_cVI (pc := 99) (As := [_, _]) X mo_k_X5_92 mo_y_yX5_stands rfl dX5_look_99 (ct5_stands (B := B) (w := w) (k := i) hm (by rw [mo_sc_r1]; exact hI) hB (by rw [mo_sc_r1]; omega) hw) (mo_Md_o hm) rfl (by decide) (by decide) (Nat.le_of_ble_eq_true rfl) ?_
        rintro r_99 _ ⟨h_99, rfl⟩
        rw [mo_sc_r1] at h_99
        refine mo_if_eq (pc := 102) (tgt := 191) X dX5_look_102 (by decide) ?_ (fun c_102 => ?_) (fun c_102 => ?_)
        · omega
        · skip
          try simp only [mo_sc_r1, mo_sc_r4, mo_sc_r5, mo_sc_r6, mo_sc_r7, mo_sc_4, mo_sc_5, mo_sc_6, mo_sc_7]
          refine mo_ii2 (pc := 191) X dX5_look_191 rfl (by decide) ?_
          refine mo_goto (pc := 194) (tgt := 85) X dX5_look_194 (by decide) ?_
          first
            | exact ih (i + 1) _ f4 f5 f6 f7 (by omega) (by omega) (fun j hj => by rw [(mo_ns (mo_b0 h_99 c_102) j).1]; exact h4 j hj) (fun j hj => by rw [(mo_ns (mo_b0 h_99 c_102) j).2.1]; exact h5 j hj) (fun j hj => by rw [(mo_ns (mo_b0 h_99 c_102) j).2.2.1]; exact h6 j hj) (fun j hj => by rw [(mo_ns (mo_b0 h_99 c_102) j).2.2.2]; exact h7 j hj)
            | exact ih (i + 1) _ _ _ _ _ (by omega) (by omega) (mo_s4 h4 (mo_b1 h_99 c_102) (by rw [h_114, h_121]) (by omega) _ rfl) (mo_s5 h5 (mo_b1 h_99 c_102) h_137 (by omega) _ (by rw [h_146])) (mo_s6 h6 (mo_b1 h_99 c_102) h_159 (by omega) _ rfl) (mo_s7 h7 (mo_b1 h_99 c_102) h_174 (by omega) _ (by rw [h_183]))
        · skip
          refine mo_al0 (pc := 105) X dX5_look_105 ?_
          refine mo_f_X5_19 (pc := 106) X dX5_look_106 (mo_Md_o hm) (mo_Md_p5 hm) ?_
          refine mo_bipush (pc := 109) X dX5_look_109 (by decide) ?_
          refine mo_al0 (pc := 111) X dX5_look_111 ?_
          refine mo_il2 (pc := 112) X dX5_look_112 ?_
          refine mo_iconst (pc := 113) X dX5_look_113 ?_
          refine mo_cVI (pc := 114) (As := [_, _]) X mo_k_X5_89 mo_y_yX5_of rfl dX5_look_114 (ct5_of (k := i) (j := 5) hm (by omega)) (mo_Md_o hm) rfl (by decide) (by decide) (Nat.le_of_ble_eq_true rfl) ?_
          rintro r_114 _ ⟨h_114, rfl⟩
          rw [mo_sc_r1] at h_114
          refine mo_imul (pc := 117) X dX5_look_117 ?_
          refine mo_al0 (pc := 118) X dX5_look_118 ?_
          refine mo_il2 (pc := 119) X dX5_look_119 ?_
          refine mo_iconst (pc := 120) X dX5_look_120 ?_
          refine mo_cVI (pc := 121) (As := [_, _]) X mo_k_X5_89 mo_y_yX5_of rfl dX5_look_121 (ct5_of (k := i) (j := 3) hm (by omega)) (mo_Md_o hm) rfl (by decide) (by decide) (Nat.le_of_ble_eq_true rfl) ?_
          rintro r_121 _ ⟨h_121, rfl⟩
          rw [mo_sc_r1] at h_121
          refine mo_iadd (pc := 124) X dX5_look_124 ?_
          refine mo_dup2 (pc := 125) X dX5_look_125 rfl rfl ?_
          refine mo_iald (pc := 126) X dX5_look_126 (mo_Md_r5 hm) (by omega) ?_ ?_ rfl ?_
          · omega
          · omega
          refine mo_iconst (pc := 127) X dX5_look_127 ?_
          refine mo_isub (pc := 128) X dX5_look_128 ?_
          refine mo_iast (pc := 129) X dX5_look_129 (mo_Md_r5 hm) (by omega) ?_ ?_ rfl ?_
          · omega
          · omega
          try simp only [mo_sc_r1, mo_sc_r4, mo_sc_r5, mo_sc_r6, mo_sc_r7, mo_sc_4, mo_sc_5, mo_sc_6, mo_sc_7]
          refine mo_al0 (pc := 130) X dX5_look_130 ?_
          refine mo_f_X5_22 (pc := 131) X dX5_look_131 (mo_Md_o hm) (mo_Md_p6 hm) ?_
          refine mo_al0 (pc := 134) X dX5_look_134 ?_
          refine mo_il2 (pc := 135) X dX5_look_135 ?_
          refine mo_iconst (pc := 136) X dX5_look_136 ?_
          refine mo_cVI (pc := 137) (As := [_, _]) X mo_k_X5_89 mo_y_yX5_of rfl dX5_look_137 (ct5_of (k := i) (j := 4) hm (by omega)) (mo_Md_o hm) rfl (by decide) (by decide) (Nat.le_of_ble_eq_true rfl) ?_
          rintro r_137 _ ⟨h_137, rfl⟩
          rw [mo_sc_r1] at h_137
          refine mo_dup2 (pc := 140) X dX5_look_140 rfl rfl ?_
          refine mo_iald (pc := 141) X dX5_look_141 (mo_Md_r6 hm) (by omega) ?_ ?_ rfl ?_
          · omega
          · omega
          refine mo_iconst (pc := 142) X dX5_look_142 ?_
          refine mo_al0 (pc := 143) X dX5_look_143 ?_
          refine mo_il2 (pc := 144) X dX5_look_144 ?_
          refine mo_iconst (pc := 145) X dX5_look_145 ?_
          refine mo_cVI (pc := 146) (As := [_, _]) X mo_k_X5_89 mo_y_yX5_of rfl dX5_look_146 (ct5_of (k := i) (j := 3) hm (by omega)) (mo_Md_o hm) rfl (by decide) (by decide) (Nat.le_of_ble_eq_true rfl) ?_
          rintro r_146 _ ⟨h_146, rfl⟩
          rw [mo_sc_r1] at h_146
          refine mo_ishl (pc := 149) X dX5_look_149 ?_
          refine mo_ior (pc := 150) X dX5_look_150 ?_
          refine mo_iast (pc := 151) X dX5_look_151 (mo_Md_r6 hm) (by omega) ?_ ?_ rfl ?_
          · omega
          · omega
          try simp only [mo_sc_r1, mo_sc_r4, mo_sc_r5, mo_sc_r6, mo_sc_r7, mo_sc_4, mo_sc_5, mo_sc_6, mo_sc_7]
          refine mo_al0 (pc := 152) X dX5_look_152 ?_
          refine mo_f_X5_25 (pc := 153) X dX5_look_153 (mo_Md_o hm) (mo_Md_p7 hm) ?_
          refine mo_al0 (pc := 156) X dX5_look_156 ?_
          refine mo_il2 (pc := 157) X dX5_look_157 ?_
          refine mo_iconst (pc := 158) X dX5_look_158 ?_
          refine mo_cVI (pc := 159) (As := [_, _]) X mo_k_X5_89 mo_y_yX5_of rfl dX5_look_159 (ct5_of (k := i) (j := 4) hm (by omega)) (mo_Md_o hm) rfl (by decide) (by decide) (Nat.le_of_ble_eq_true rfl) ?_
          rintro r_159 _ ⟨h_159, rfl⟩
          rw [mo_sc_r1] at h_159
          refine mo_dup2 (pc := 162) X dX5_look_162 rfl rfl ?_
          refine mo_iald (pc := 163) X dX5_look_163 (mo_Md_r7 hm) (by omega) ?_ ?_ rfl ?_
          · omega
          · omega
          refine mo_iconst (pc := 164) X dX5_look_164 ?_
          refine mo_iadd (pc := 165) X dX5_look_165 ?_
          refine mo_iast (pc := 166) X dX5_look_166 (mo_Md_r7 hm) (by omega) ?_ ?_ rfl ?_
          · omega
          · omega
          try simp only [mo_sc_r1, mo_sc_r4, mo_sc_r5, mo_sc_r6, mo_sc_r7, mo_sc_4, mo_sc_5, mo_sc_6, mo_sc_7]
          refine mo_al0 (pc := 167) X dX5_look_167 ?_
          refine mo_f_X5_28 (pc := 168) X dX5_look_168 (mo_Md_o hm) (mo_Md_p8 hm) ?_
          refine mo_al0 (pc := 171) X dX5_look_171 ?_
          refine mo_il2 (pc := 172) X dX5_look_172 ?_
          refine mo_iconst (pc := 173) X dX5_look_173 ?_
          refine mo_cVI (pc := 174) (As := [_, _]) X mo_k_X5_89 mo_y_yX5_of rfl dX5_look_174 (ct5_of (k := i) (j := 1) hm (by omega)) (mo_Md_o hm) rfl (by decide) (by decide) (Nat.le_of_ble_eq_true rfl) ?_
          rintro r_174 _ ⟨h_174, rfl⟩
          rw [mo_sc_r1] at h_174
          refine mo_dup2 (pc := 177) X dX5_look_177 rfl rfl ?_
          refine mo_iald (pc := 178) X dX5_look_178 (mo_Md_r8 hm) (by omega) ?_ ?_ rfl ?_
          · omega
          · omega
          refine mo_iconst (pc := 179) X dX5_look_179 ?_
          refine mo_al0 (pc := 180) X dX5_look_180 ?_
          refine mo_il2 (pc := 181) X dX5_look_181 ?_
          refine mo_iconst (pc := 182) X dX5_look_182 ?_
          refine mo_cVI (pc := 183) (As := [_, _]) X mo_k_X5_89 mo_y_yX5_of rfl dX5_look_183 (ct5_of (k := i) (j := 3) hm (by omega)) (mo_Md_o hm) rfl (by decide) (by decide) (Nat.le_of_ble_eq_true rfl) ?_
          rintro r_183 _ ⟨h_183, rfl⟩
          rw [mo_sc_r1] at h_183
          refine mo_iconst (pc := 186) X dX5_look_186 ?_
          refine mo_idiv (pc := 187) X dX5_look_187 ?_ ?_ ?_
          · omega
          · omega
          refine mo_ishl (pc := 188) X dX5_look_188 ?_
          refine mo_ior (pc := 189) X dX5_look_189 ?_
          refine mo_iast (pc := 190) X dX5_look_190 (mo_Md_r8 hm) (by omega) ?_ ?_ rfl ?_
          · omega
          · omega
          try simp only [mo_sc_r1, mo_sc_r4, mo_sc_r5, mo_sc_r6, mo_sc_r7, mo_sc_4, mo_sc_5, mo_sc_6, mo_sc_7]
          refine mo_ii2 (pc := 191) X dX5_look_191 rfl (by decide) ?_
          refine mo_goto (pc := 194) (tgt := 85) X dX5_look_194 (by decide) ?_
          first
            | exact ih (i + 1) _ f4 f5 f6 f7 (by omega) (by omega) (fun j hj => by rw [(mo_ns (mo_b0 h_99 c_102) j).1]; exact h4 j hj) (fun j hj => by rw [(mo_ns (mo_b0 h_99 c_102) j).2.1]; exact h5 j hj) (fun j hj => by rw [(mo_ns (mo_b0 h_99 c_102) j).2.2.1]; exact h6 j hj) (fun j hj => by rw [(mo_ns (mo_b0 h_99 c_102) j).2.2.2]; exact h7 j hj)
            | exact ih (i + 1) _ _ _ _ _ (by omega) (by omega) (mo_s4 h4 (mo_b1 h_99 c_102) (by rw [h_114, h_121]) (by omega) _ rfl) (mo_s5 h5 (mo_b1 h_99 c_102) h_137 (by omega) _ (by rw [h_146])) (mo_s6 h6 (mo_b1 h_99 c_102) h_159 (by omega) _ rfl) (mo_s7 h7 (mo_b1 h_99 c_102) h_174 (by omega) _ (by rw [h_183]))
  have lpC : ∀ (z i : Nat) (x : Int) (f4 f5 f6 f7 : Nat → Int), i + z = 8 → x = i → (∀ j, j < 140 → f4 j = M (m + 1) (210 + j / 28)) → (∀ e, e < 6 → f5 e = 0) → (∀ e, e < 6 → f6 e = 0) → (∀ o, o < i → f7 o = 0) → mo_V κ 0 0 64 [some (.ref m), some (mo_iv w), some (mo_iv x)] [] G (mo_sc M m f4 f5 f6 f7) t := by
    intro z
    induction z with
    | zero =>
      intro i x f4 f5 f6 f7 hi hx h4 h5 h6 h7
      subst hx
      refine mo_il2 (pc := 64) X dX5_look_64 ?_
      refine mo_bipush (pc := 65) X dX5_look_65 (by decide) ?_
      refine mo_ic_ge (pc := 67) (tgt := 83) X dX5_look_67 (by decide) ?_ ?_ (fun c_67 => ?_) (fun c_67 => ?_)
      · omega
      · omega
      · skip
        refine mo_iconst (pc := 83) X dX5_look_83 ?_
        refine mo_is2 (pc := 84) X dX5_look_84 rfl (by decide) ?_
        exact lpD _ 0 0 f4 f5 f6 f7 (Nat.zero_add _) rfl (fun j hj => by rw [h4 j hj, show mo_tkn (M (m + 1)) w 0 j = 0 from rfl]; omega) h5 h6 (fun o ho => h7 o (by omega))
      · exfalso
        omega
    | succ z ih =>
      intro i x f4 f5 f6 f7 hi hx h4 h5 h6 h7
      subst hx
      refine mo_il2 (pc := 64) X dX5_look_64 ?_
      refine mo_bipush (pc := 65) X dX5_look_65 (by decide) ?_
      refine mo_ic_ge (pc := 67) (tgt := 83) X dX5_look_67 (by decide) ?_ ?_ (fun c_67 => ?_) (fun c_67 => ?_)
      · omega
      · omega
      · exfalso
        omega
      · skip
        refine mo_al0 (pc := 70) X dX5_look_70 ?_
        refine mo_f_X5_28 (pc := 71) X dX5_look_71 (mo_Md_o hm) (mo_Md_p8 hm) ?_
        refine mo_il2 (pc := 74) X dX5_look_74 ?_
        refine mo_iconst (pc := 75) X dX5_look_75 ?_
        refine mo_iast (pc := 76) (j := i) X dX5_look_76 (mo_Md_r8 hm) (by omega) ?_ ?_ (by omega) ?_
        · omega
        · omega
        try simp only [mo_sc_r1, mo_sc_r4, mo_sc_r5, mo_sc_r6, mo_sc_r7, mo_sc_4, mo_sc_5, mo_sc_6, mo_sc_7]
        refine mo_ii2 (pc := 77) X dX5_look_77 rfl (by decide) ?_
        refine mo_goto (pc := 80) (tgt := 64) X dX5_look_80 (by decide) ?_
        exact ih (i + 1) _ f4 f5 f6 _ (by omega) (by omega) h4 h5 h6 (fun o ho => by
          by_cases e : o = i
          · rw [e, mo_up_s]
          · rw [mo_up_n e]; exact h7 o (by omega))
  have lpB : ∀ (z i : Nat) (x : Int) (f4 f5 f6 f7 : Nat → Int), i + z = 6 → x = i → (∀ j, j < 140 → f4 j = M (m + 1) (210 + j / 28)) → (∀ e, e < i → f5 e = 0) → (∀ e, e < i → f6 e = 0) → mo_V κ 0 0 36 [some (.ref m), some (mo_iv w), some (mo_iv x)] [] G (mo_sc M m f4 f5 f6 f7) t := by
    intro z
    induction z with
    | zero =>
      intro i x f4 f5 f6 f7 hi hx h4 h5 h6
      subst hx
      refine mo_il2 (pc := 36) X dX5_look_36 ?_
      refine mo_bipush (pc := 37) X dX5_look_37 (by decide) ?_
      refine mo_ic_ge (pc := 39) (tgt := 62) X dX5_look_39 (by decide) ?_ ?_ (fun c_39 => ?_) (fun c_39 => ?_)
      · omega
      · omega
      · skip
        refine mo_iconst (pc := 62) X dX5_look_62 ?_
        refine mo_is2 (pc := 63) X dX5_look_63 rfl (by decide) ?_
        exact lpC _ 0 0 f4 f5 f6 f7 (Nat.zero_add _) rfl h4 (fun e he => h5 e (by omega)) (fun e he => h6 e (by omega)) (fun o ho => absurd ho (by omega))
      · exfalso
        omega
    | succ z ih =>
      intro i x f4 f5 f6 f7 hi hx h4 h5 h6
      subst hx
      refine mo_il2 (pc := 36) X dX5_look_36 ?_
      refine mo_bipush (pc := 37) X dX5_look_37 (by decide) ?_
      refine mo_ic_ge (pc := 39) (tgt := 62) X dX5_look_39 (by decide) ?_ ?_ (fun c_39 => ?_) (fun c_39 => ?_)
      · omega
      · omega
      · exfalso
        omega
      · skip
        refine mo_al0 (pc := 42) X dX5_look_42 ?_
        refine mo_f_X5_22 (pc := 43) X dX5_look_43 (mo_Md_o hm) (mo_Md_p6 hm) ?_
        refine mo_il2 (pc := 46) X dX5_look_46 ?_
        refine mo_iconst (pc := 47) X dX5_look_47 ?_
        refine mo_iast (pc := 48) (j := i) X dX5_look_48 (mo_Md_r6 hm) (by omega) ?_ ?_ (by omega) ?_
        · omega
        · omega
        try simp only [mo_sc_r1, mo_sc_r4, mo_sc_r5, mo_sc_r6, mo_sc_r7, mo_sc_4, mo_sc_5, mo_sc_6, mo_sc_7]
        refine mo_al0 (pc := 49) X dX5_look_49 ?_
        refine mo_f_X5_25 (pc := 50) X dX5_look_50 (mo_Md_o hm) (mo_Md_p7 hm) ?_
        refine mo_il2 (pc := 53) X dX5_look_53 ?_
        refine mo_iconst (pc := 54) X dX5_look_54 ?_
        refine mo_iast (pc := 55) (j := i) X dX5_look_55 (mo_Md_r7 hm) (by omega) ?_ ?_ (by omega) ?_
        · omega
        · omega
        try simp only [mo_sc_r1, mo_sc_r4, mo_sc_r5, mo_sc_r6, mo_sc_r7, mo_sc_4, mo_sc_5, mo_sc_6, mo_sc_7]
        refine mo_ii2 (pc := 56) X dX5_look_56 rfl (by decide) ?_
        refine mo_goto (pc := 59) (tgt := 36) X dX5_look_59 (by decide) ?_
        exact ih (i + 1) _ f4 _ _ f7 (by omega) (by omega) h4 (fun o ho => by
          by_cases e : o = i
          · rw [e, mo_up_s]
          · rw [mo_up_n e]; exact h5 o (by omega)) (fun o ho => by
          by_cases e : o = i
          · rw [e, mo_up_s]
          · rw [mo_up_n e]; exact h6 o (by omega))
  have lpA : ∀ (z i : Nat) (x : Int) (f4 f5 f6 f7 : Nat → Int), i + z = 140 → x = i → (∀ j, j < i → f4 j = M (m + 1) (210 + j / 28)) → mo_V κ 0 0 2 [some (.ref m), some (mo_iv w), some (mo_iv x)] [] G (mo_sc M m f4 f5 f6 f7) t := by
    intro z
    induction z with
    | zero =>
      intro i x f4 f5 f6 f7 hi hx h4
      subst hx
      refine mo_il2 (pc := 2) X dX5_look_2 ?_
      refine mo_sipush (pc := 3) X dX5_look_3 (by decide) ?_
      refine mo_ic_ge (pc := 6) (tgt := 34) X dX5_look_6 (by decide) ?_ ?_ (fun c_6 => ?_) (fun c_6 => ?_)
      · omega
      · omega
      · skip
        refine mo_iconst (pc := 34) X dX5_look_34 ?_
        refine mo_is2 (pc := 35) X dX5_look_35 rfl (by decide) ?_
        exact lpB _ 0 0 f4 f5 f6 f7 (Nat.zero_add _) rfl (fun j hj => h4 j (by omega)) (fun o ho => absurd ho (by omega)) (fun o ho => absurd ho (by omega))
      · exfalso
        omega
    | succ z ih =>
      intro i x f4 f5 f6 f7 hi hx h4
      subst hx
      refine mo_il2 (pc := 2) X dX5_look_2 ?_
      refine mo_sipush (pc := 3) X dX5_look_3 (by decide) ?_
      refine mo_ic_ge (pc := 6) (tgt := 34) X dX5_look_6 (by decide) ?_ ?_ (fun c_6 => ?_) (fun c_6 => ?_)
      · omega
      · omega
      · exfalso
        omega
      · skip
        refine mo_al0 (pc := 9) X dX5_look_9 ?_
        refine mo_f_X5_19 (pc := 10) X dX5_look_10 (mo_Md_o hm) (mo_Md_p5 hm) ?_
        refine mo_il2 (pc := 13) X dX5_look_13 ?_
        refine mo_al0 (pc := 14) X dX5_look_14 ?_
        refine mo_f_X5_7 (pc := 15) X dX5_look_15 (mo_Md_o hm) (mo_Md_p0 hm) ?_
        refine mo_sipush (pc := 18) X dX5_look_18 (by decide) ?_
        refine mo_il2 (pc := 21) X dX5_look_21 ?_
        refine mo_bipush (pc := 22) X dX5_look_22 (by decide) ?_
        refine mo_idiv (pc := 24) X dX5_look_24 ?_ ?_ ?_
        · omega
        · omega
        refine mo_iadd (pc := 25) X dX5_look_25 ?_
        refine mo_iald (pc := 26) (j := 210 + i / 28) X dX5_look_26 (mo_Md_r0 hm) (by omega) ?_ ?_ (by omega) ?_
        · omega
        · omega
        try simp only [mo_sc_r1, mo_sc_r4, mo_sc_r5, mo_sc_r6, mo_sc_r7, mo_sc_4, mo_sc_5, mo_sc_6, mo_sc_7]
        refine mo_iast (pc := 27) (j := i) X dX5_look_27 (mo_Md_r5 hm) (by omega) ?_ ?_ (by omega) ?_
        · omega
        · omega
        try simp only [mo_sc_r1, mo_sc_r4, mo_sc_r5, mo_sc_r6, mo_sc_r7, mo_sc_4, mo_sc_5, mo_sc_6, mo_sc_7]
        refine mo_ii2 (pc := 28) X dX5_look_28 rfl (by decide) ?_
        refine mo_goto (pc := 31) (tgt := 2) X dX5_look_31 (by decide) ?_
        exact ih (i + 1) _ _ f5 f6 f7 (by omega) (by omega) (fun o ho => by
          by_cases e : o = i
          · rw [e, mo_up_s]
          · rw [mo_up_n e]; exact h4 o (by omega))
  rw [← mo_sc_id M m]
  refine mo_iconst (pc := 0) X dX5_look_0 ?_
  refine mo_is2 (pc := 1) X dX5_look_1 rfl (by decide) ?_
  exact lpA _ 0 0 _ _ _ _ (Nat.zero_add _) rfl (fun o ho => absurd ho (by omega))
