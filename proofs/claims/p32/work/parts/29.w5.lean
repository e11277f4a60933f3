theorem mo_cnt_le2 {p q : Nat → Bool} : ∀ {n : Nat}, (∀ j, j < n → q j = true → p j = true) → mo_cnt q n ≤ mo_cnt p n
  | 0, _ => Int.le_refl _
  | n + 1, h => by
    have h1 := mo_cnt_le2 (p := p) (q := q) (n := n) (fun j hj => h j (by omega))
    rw [mo_cnt, mo_cnt]
    by_cases c : q n = true
    · rw [if_pos c, if_pos (h n (by omega) c)]; omega
    · rw [if_neg c]
      split <;> omega
theorem mo_cnt_lt2 {p q : Nat → Bool} {o : Nat} (hp : p o = true) (hq : q o = false) : ∀ {n : Nat}, o < n → (∀ j, j < n → q j = true → p j = true) → mo_cnt q n + 1 ≤ mo_cnt p n
  | 0, h, _ => absurd h (by omega)
  | n + 1, ho, h => by
    rw [mo_cnt, mo_cnt]
    by_cases e : o = n
    · subst e
      have h1 := mo_cnt_le2 (p := p) (q := q) (n := o) (fun j hj => h j (by omega))
      rw [if_pos hp, if_neg (by rw [hq]; decide)]
      omega
    · have h1 := mo_cnt_lt2 hp hq (n := n) (by omega) (fun j hj => h j (by omega))
      by_cases c : q n = true
      · rw [if_pos c, if_pos (h n (by omega) c)]; omega
      · rw [if_neg c]
        split <;> omega
def mo_cd (D : Nat → Int) (n : Nat) : Int := mo_cnt (fun j => decide (0 < D j)) n
theorem mo_ow_rg {g : Nat → Int} {B : Int} {o w : Nat} (hI : mo_Iv g B) (ho : o < 8) (hw : w < 20) : 0 ≤ mo_ow g o w ∧ mo_ow g o w ≤ 140 := by
  obtain ⟨hI0, hI1, hI2, hI3, hI4, hI5, hI6, hI7, hIh, hIa, hIe, hIm, -⟩ := id hI
  have h1 : ∀ n, n ≤ 20 → 0 ≤ mo_hsum g o n ∧ mo_hsum g o n ≤ 7 * n := fun n => by
    induction n with
    | zero => intro _; exact ⟨Int.le_refl _, Int.le_refl _⟩
    | succ n ih =>
      intro hn
      have h2 := ih (by omega)
      have h3 := hIh (20 * o + n) (by omega)
      have h4 : mo_hsum g o (n + 1) = mo_hsum g o n + g (8 + 20 * o + n) := rfl
      rw [show 8 + (20 * o + n) = 8 + 20 * o + n by omega] at h3
      omega
  have h5 := h1 (w + 1) (by omega)
  have h6 := hIe o ho
  have h7 := mo_cnt_le (mo_plb g o w) (mo_nk g)
  unfold mo_ow
  split <;> omega
set_option maxHeartbeats 4000000 in
set_option maxRecDepth 100000 in
theorem ct3_planAll {lf : Launch} {ρf : mo_E} {G : mo_G} {M : mo_M} {t : Nat} {b h : Nat} (hb : mo_Bk G b) (hs : mo_St G h) (hbh : b + 10 < h ∨ h + 18 < b) {g : Nat → Int} {B : Int} (hS : mo_SR M h g) (hI : mo_Iv g B) (hB : B ≤ 999999900) {w : Nat} (hw : w < 20) (hw0 : g 0 ≤ w) : mo_Ct lf ρf yX3_planAll cX3_planAll 6 (some .int) 4 0 0 [.ref b, .ref h, mo_iv w] G M t (mo_pi G t (fun x M' => x = (mo_pl w 61 g).1 ∧ mo_SR M' h (mo_pl w 61 g).2 ∧ ∀ a, mo_out h a → (a < b ∨ b + 10 < a) → M' a = M a)) := by
  refine mo_ofW (ls0 := [some (.ref b), some (.ref h), some (mo_iv w), none, none, none]) (by decide) rfl (Nat.le_of_ble_eq_true rfl) ?_
  intro κ X Y
  have X : mo_Cx κ lf ρf cX3_planAll 6 RX3 (some .int) 4 := X
  obtain ⟨hI0, hI1, hI2, hI3, hI4, hI5, hI6, hI7, hIh, hIa, hIe, hIm, hIs, hIl, hIw, hIr, hIt, hIs2, hIs3, hIz⟩ := id hI
  have hn : ((mo_nk g : Nat) : Int) = g 7 := by unfold mo_nk; omega
  obtain ⟨n4, hn4⟩ : ∃ n : Nat, g 4 = n := ⟨(g 4).toNat, by omega⟩
  have lp2 : ∀ (z r : Nat) (x y : Int) (M1 : mo_M) (g1 : Nat → Int) (B1 : Int) (n' : Nat) (last : Option Value), r + z = 68 → x = r → mo_SR M1 h g1 → mo_Iv g1 B1 → B1 ≤ B + r → mo_WB M1 b g1 w (mo_nk g1) → g1 4 = g 4 → g1 0 = g 0 → (∀ j, j < n4 → M1 (b + 10) j = mo_ow g1 j w ∨ (M1 (b + 10) j = 0 ∧ mo_sf g1 w j = -1)) → (∀ a, mo_out h a → (a < b ∨ b + 10 < a) → M1 a = M a) → (60 - g1 7) + mo_cd (M1 (b + 10)) n4 + r ≤ 68 → 61 ≤ n' + g1 7 → y + (mo_pl w n' g1).1 = (mo_pl w 61 g).1 → (mo_pl w n' g1).2 = (mo_pl w 61 g).2 → 0 ≤ y ∧ y ≤ r → mo_V κ 0 0 41 [some (.ref b), some (.ref h), some (mo_iv w), some (mo_iv y), some (mo_iv x), last] [] G M1 t := by
    intro z
    have stop : ∀ (y : Int) (M1 : mo_M) (g1 : Nat → Int) (n' : Nat), mo_SR M1 h g1 → (∀ a, mo_out h a → (a < b ∨ b + 10 < a) → M1 a = M a) → y + (mo_pl w n' g1).1 = (mo_pl w 61 g).1 → (mo_pl w n' g1).2 = (mo_pl w 61 g).2 → mo_bo g1 w = -1 → y = (mo_pl w 61 g).1 ∧ mo_SR M1 h (mo_pl w 61 g).2 ∧ ∀ a, mo_out h a → (a < b ∨ b + 10 < a) → M1 a = M a := fun y M1 g1 n' hS1 hM hp1 hp2 hbo => by
      rw [mo_pl_st hbo] at hp1 hp2
      rw [← hp1, ← hp2]
      exact ⟨by simp, hS1, hM⟩
    have full : ∀ g1 : Nat → Int, g1 7 = 60 → mo_bo g1 w = -1 := fun g1 h60 => mo_bo_none fun j hj hs => absurd (by unfold mo_sf; rw [if_pos (Or.inr h60)]) hs
    induction z with
    | zero =>
      intro r x y M1 g1 B1 n' last hr hx hS1 hI1 hB1 hW1 h4 h0 hD hM hms hfu hp1 hp2 hy
      subst hx
      have h17 := hI1.2.2.2.2.2.2.2.1
      have hcd : 0 ≤ mo_cd (M1 (b + 10)) n4 := (mo_cnt_le _ _).1
      refine mo_il4 (pc := 41) X dX3_planAll_41 ?_
      refine mo_bipush (pc := 43) X dX3_planAll_43 (by decide) ?_
      refine mo_ic_ge (pc := 45) (tgt := 150) X dX3_planAll_45 (by decide) ?_ ?_ (fun c_45 => ?_) (fun c_45 => ?_)
      · omega
      · omega
      · skip
        refine mo_il3 (pc := 150) X dX3_planAll_150 ?_
        refine mo_iret (pc := 151) X Y rfl dX3_planAll_151 ⟨rfl, rfl, _, rfl, ?_⟩
        exact stop _ M1 g1 n' hS1 hM hp1 hp2 (full g1 (by omega))
      · exfalso
        omega
    | succ z ih =>
      intro r x y M1 g1 B1 n' last hr hx hS1 hI1 hB1 hW1 h4 h0 hD hM hms hfu hp1 hp2 hy
      subst hx
      obtain ⟨hJ0, hJ1, hJ2, hJ3, hJ4, hJ5, hJ6, hJ7, -⟩ := id hI1
      have hcd : 0 ≤ mo_cd (M1 (b + 10)) n4 := (mo_cnt_le _ _).1
      have hDr : ∀ j : Nat, (j : Int) < g1 4 → mo_In (M1 (b + 10) j) := fun j hj => by
        have h9 := mo_ow_rg hI1 (o := j) (w := w) (by omega) hw
        rcases hD j (by omega) with q | ⟨q, -⟩ <;> omega
      have hm3 : M1 h 3 = g1 7 := hS1.2.2.2.1
      refine mo_il4 (pc := 41) X dX3_planAll_41 ?_
      refine mo_bipush (pc := 43) X dX3_planAll_43 (by decide) ?_
      refine mo_ic_ge (pc := 45) (tgt := 150) X dX3_planAll_45 (by decide) ?_ ?_ (fun c_45 => ?_) (fun c_45 => ?_)
      · omega
      · omega
      · exfalso
        omega
      · skip
        refine mo_al1 (pc := 48) X dX3_planAll_48 ?_
        refine mo_cVI (pc := 49) (As := []) X mo_k_X3_96 mo_y_yX2_isFull rfl dX3_planAll_49 (ct2_isFull hs (by rw [hm3]; omega)) (mo_St_o hs) rfl (by decide) (by decide) (Nat.le_of_ble_eq_true rfl) ?_
        rintro r_49 _ ⟨h_49, rfl⟩
        refine mo_if_ne (pc := 52) (tgt := 150) X dX3_planAll_52 (by decide) ?_ (fun c_52 => ?_) (fun c_52 => ?_)
        · omega
        · skip
          refine mo_il3 (pc := 150) X dX3_planAll_150 ?_
          refine mo_iret (pc := 151) X Y rfl dX3_planAll_151 ⟨rfl, rfl, _, rfl, ?_⟩
          exact stop _ M1 g1 n' hS1 hM hp1 hp2 (full g1 (by have h60 := mo_b1 h_49 c_52; omega))
        · skip
          refine mo_al0 (pc := 55) X dX3_planAll_55 ?_
          refine mo_al1 (pc := 56) X dX3_planAll_56 ?_
          refine mo_cVI (pc := 57) (As := [_]) X mo_k_X3_100 mo_y_yX3_greatestDebt rfl dX3_planAll_57 (ct3_greatestDebt hb hs hbh hS1 hI1 (by omega) hDr) (mo_Bk_o hb) rfl (by decide) (by decide) (Nat.le_of_ble_eq_true rfl) ?_
          rintro r_57 _ ⟨h_57, rfl⟩
          have h57r : -1 ≤ r_57 ∧ r_57 < 8 := by rcases mo_gdt_b (M1 (b + 10)) (g1 4).toNat with ⟨q1, q2, q3⟩ | ⟨o, o1, o2, o3, o4, o5, o6⟩ <;> omega
          refine mo_is5 (pc := 60) X dX3_planAll_60 rfl (by decide) ?_
          refine mo_il5 (pc := 62) X dX3_planAll_62 ?_
          refine mo_iconst (pc := 64) X dX3_planAll_64 ?_
          refine mo_ic_ne (pc := 65) (tgt := 70) X dX3_planAll_65 (by decide) ?_ ?_ (fun c_65 => ?_) (fun c_65 => ?_)
          · omega
          · omega
          · skip
            have hgb := mo_gdt_b (M1 (b + 10)) (g1 4).toNat
            rcases hgb with ⟨q1, -, -⟩ | ⟨o, o1, o2, o3, o4, o5, o6⟩
            · exact absurd (h_57.trans q1) c_65
            obtain rfl : r_57 = (o : Int) := h_57.trans o2
            refine mo_al0 (pc := 70) X dX3_planAll_70 ?_
            refine mo_al1 (pc := 71) X dX3_planAll_71 ?_
            refine mo_il5 (pc := 72) X dX3_planAll_72 ?_
            refine mo_cVI (pc := 74) (As := [_, _]) X mo_k_X3_104 mo_y_yX3_search rfl dX3_planAll_74 (ct3_search (w := w) (o := o) hb hs hbh hS1 hI1 (by omega) hW1 (by omega) (by omega) (by have h60 := mo_b0 h_49 c_52; omega)) (mo_Bk_o hb) rfl (by decide) (by decide) (Nat.le_of_ble_eq_true rfl) ?_
            rintro r_74 M_74 ⟨h_74, f_74, p_74⟩
            refine mo_if_eq (pc := 77) (tgt := 134) X dX3_planAll_77 (by decide) ?_ (fun c_77 => ?_) (fun c_77 => ?_)
            · omega
            · skip
              have hno := Decidable.not_not.mp (mo_b0 h_74 c_77)
              refine mo_al0 (pc := 134) X dX3_planAll_134 ?_
              refine mo_f_X3_29 (pc := 135) X dX3_planAll_135 (mo_Bk_o hb) (mo_Bk_p4 hb) ?_
              refine mo_il5 (pc := 138) X dX3_planAll_138 ?_
              refine mo_iconst (pc := 140) X dX3_planAll_140 ?_
              refine mo_cVV (pc := 141) (As := [_, _]) X mo_k_X3_93 mo_y_yX1_set rfl dX3_planAll_141 (ct_set (a := b + 10) (j := o) (mo_Bk_r4 hb) rfl (by omega) (by omega) (by omega) (by omega)) (mo_Bk_r4 hb).1 rfl (by decide) (by decide) (Nat.le_of_ble_eq_true rfl) ?_
              rintro M_141 h_141
              refine mo_ii4 (pc := 144) X dX3_planAll_144 rfl (by decide) ?_
              refine mo_goto (pc := 147) (tgt := 41) X dX3_planAll_147 (by decide) ?_
              refine ih (r + 1) _ _ _ g1 B1 n' _ (by omega) (by omega) ?_ hI1 (by omega) ?_ h4 h0 (fun j hj => ?_) (fun a h1 h2 => ?_) ?_ hfu hp1 hp2 (by omega)
              · rw [h_141]; exact mo_SR_fr hS1 fun a h1 h2 => by rw [mo_ur_n (by omega), f_74 a (by omega)]
              · rw [h_141]; exact mo_WB_fr hW1 fun a h1 h2 => by rw [mo_ur_n (by omega), f_74 a (by omega)]
              · rw [h_141, mo_ur_s, f_74 _ (by omega)]
                by_cases c : j = o
                · rw [c, mo_up_s]; exact Or.inr ⟨rfl, hno⟩
                · rw [mo_up_n c]; exact hD j hj
              · rw [h_141, mo_ur_n (by omega), f_74 a (by omega), hM a h1 h2]
              · rw [h_141, mo_ur_s, f_74 _ (by omega)]
                have h9 : mo_cd (va_up (M1 (b + 10)) o 0) n4 + 1 ≤ mo_cd (M1 (b + 10)) n4 := mo_cnt_lt2 (o := o) (decide_eq_true o4) (by rw [mo_up_s]; rfl) (by omega) fun j hj q => by
                  by_cases c : j = o
                  · rw [c, mo_up_s] at q; exact absurd q (by decide)
                  · rw [mo_up_n c] at q; exact q
                omega
            · skip
              have hys := mo_b1 h_74 c_77
              obtain ⟨v5, v6, v7⟩ := p_74 hys
              obtain ⟨c1, c2, c3, c4, c5, c6⟩ := mo_ch hys hJ6.1
              obtain ⟨sn, hsn⟩ : ∃ q : Nat, mo_sf g1 w o = q := ⟨(mo_sf g1 w o).toNat, by omega⟩
              rw [hsn, Int.toNat_natCast] at v6 v7 c4 c5
              obtain ⟨en, hen⟩ : ∃ q : Nat, mo_ef g1 w sn (mo_en5 g1) = q := ⟨(mo_ef g1 w sn (mo_en5 g1)).toNat, by omega⟩
              obtain ⟨vn, hvn⟩ : ∃ q : Nat, mo_vf g1 w o sn = q := ⟨(mo_vf g1 w o sn).toNat, by omega⟩
              rw [hsn] at v5 c1
              rw [hen] at v6 c4
              rw [hvn] at v7 c5
              have hE : ((mo_en5 g1 : Nat) : Int) = g1 5 := by unfold mo_en5; omega
              have hDo : M1 (b + 10) o = mo_ow g1 o w := by
                rcases hD o (by omega) with q | ⟨q, q2⟩
                · exact q
                · exact absurd q2 hys
              have hbo : mo_bo g1 w = o := mo_bo_at (by omega) hys (by omega) (fun j hj hs2 => by
                have h9 := o5 j hj
                rcases hD j (by omega) with q | ⟨q, q2⟩
                · omega
                · exact absurd q2 hs2) (fun j hj hs2 => by
                have h9 := o6 j (by omega)
                rcases hD j (by omega) with q | ⟨q, q2⟩
                · omega
                · exact absurd q2 hs2)
              have hS74 : mo_SR M_74 h g1 := mo_SR_fr hS1 fun a h1 h2 => f_74 a (by omega)
              refine mo_al1 (pc := 80) X dX3_planAll_80 ?_
              refine mo_il5 (pc := 81) X dX3_planAll_81 ?_
              refine mo_il2 (pc := 83) X dX3_planAll_83 ?_
              refine mo_al0 (pc := 84) X dX3_planAll_84 ?_
              refine mo_f_X3_108 (pc := 85) X dX3_planAll_85 (mo_Bk_o hb) ?_
              rw [v5]
              refine mo_al0 (pc := 88) X dX3_planAll_88 ?_
              refine mo_f_X3_111 (pc := 89) X dX3_planAll_89 (mo_Bk_o hb) ?_
              rw [v6]
              refine mo_al0 (pc := 92) X dX3_planAll_92 ?_
              refine mo_f_X3_114 (pc := 93) X dX3_planAll_93 (mo_Bk_o hb) ?_
              rw [v7]
              refine mo_cVI (pc := 96) (As := [_, _, _, _, _]) X mo_k_X3_117 mo_y_yX2_keepMeeting rfl dX3_planAll_96 (ct2_keepMeeting hs hS74 hI1 (by omega) (by omega)) (mo_St_o hs) rfl (by decide) (by decide) (Nat.le_of_ble_eq_true rfl) ?_
              rintro r_96 M_96 ⟨u_96, h_96, f_96⟩
              replace h_96 := And.intro u_96 h_96
              refine mo_pop (pc := 99) X dX3_planAll_99 rfl ?_
              refine mo_al0 (pc := 100) X dX3_planAll_100 ?_
              refine mo_il5 (pc := 101) X dX3_planAll_101 ?_
              refine mo_al0 (pc := 103) X dX3_planAll_103 ?_
              refine mo_f_X3_108 (pc := 104) X dX3_planAll_104 (mo_Bk_o hb) ?_
              rw [f_96 _ (by omega), v5]
              refine mo_al0 (pc := 107) X dX3_planAll_107 ?_
              refine mo_f_X3_111 (pc := 108) X dX3_planAll_108 (mo_Bk_o hb) ?_
              rw [f_96 _ (by omega), v6]
              refine mo_al0 (pc := 111) X dX3_planAll_111 ?_
              refine mo_f_X3_114 (pc := 112) X dX3_planAll_112 (mo_Bk_o hb) ?_
              rw [f_96 _ (by omega), v7]
              refine mo_cVV (pc := 115) (As := [_, _, _, _]) X mo_k_X3_49 mo_y_yX3_take rfl dX3_planAll_115 (ct3_take hb (by omega) (by omega) (by omega) (by omega)) (mo_Bk_o hb) rfl (by decide) (by decide) (Nat.le_of_ble_eq_true rfl) ?_
              rintro M_115 h_115
              refine mo_al0 (pc := 118) X dX3_planAll_118 ?_
              refine mo_f_X3_29 (pc := 119) X dX3_planAll_119 (mo_Bk_o hb) (mo_Bk_p4 hb) ?_
              refine mo_il5 (pc := 122) X dX3_planAll_122 ?_
              refine mo_iconst (pc := 124) X dX3_planAll_124 ?_
              refine mo_cVV (pc := 125) (As := [_, _]) X mo_k_X3_57 mo_y_yX1_add rfl dX3_planAll_125 (ct_add (a := b + 10) (j := o) (mo_Bk_r4 hb) rfl (by omega) (by omega) (by omega) (by omega)) (mo_Bk_r4 hb).1 rfl (by decide) (by decide) (Nat.le_of_ble_eq_true rfl) ?_
              rintro M_125 h_125
              rw [show M_115 (b + 10) = M1 (b + 10) by rw [h_115, mo_tk_n _ (by omega), f_96 _ (by omega), f_74 _ (by omega)]] at h_125
              refine mo_ii3 (pc := 128) X dX3_planAll_128 rfl (by decide) ?_
              refine mo_goto (pc := 131) (tgt := 144) X dX3_planAll_131 (by decide) ?_
              refine mo_ii4 (pc := 144) X dX3_planAll_144 rfl (by decide) ?_
              refine mo_goto (pc := 147) (tgt := 41) X dX3_planAll_147 (by decide) ?_
              have hl1 : mo_l1 g1 w = mo_ly g1 o w sn en vn := by unfold mo_l1; rw [hbo, Int.toNat_natCast, hsn, Int.toNat_natCast, hen, hvn]
              have hnk : mo_nk (mo_ly g1 o w sn en vn) = mo_nk g1 + 1 := by show ((mo_ly g1 o w sn en vn) 7).toNat = _; rw [mo_ly_7]; unfold mo_nk; omega
              obtain ⟨p1, p2, p3, p4, p5⟩ := mo_p1 hI1 hw (by rw [hbo]; omega)
              rw [hl1] at p1 p3
              obtain ⟨l0, l1, l2, l3, l4, l5, l6⟩ := mo_ly_n g1 o w sn en vn
              have hpl : ∀ k, mo_pl w (k + 1) g1 = ((mo_pl w k (mo_l1 g1 w)).1 + 1, (mo_pl w k (mo_l1 g1 w)).2) := fun k => by rw [mo_pl, if_neg (by rw [hbo]; omega)]
              obtain ⟨n2, rfl⟩ : ∃ n2, n' = n2 + 1 := ⟨n' - 1, by omega⟩
              rw [hpl, hl1] at hp1 hp2
              have d10 : M_115 (b + 10) = M1 (b + 10) := by rw [h_115, mo_tk_n _ (by omega), f_96 _ (by omega), f_74 _ (by omega)]
              refine ih (r + 1) _ _ _ (mo_ly g1 o w sn en vn) (B1 + 1) n2 _ (by omega) (by omega) ?_ p1 (by omega) ?_ ?_ ?_ (fun j hj => ?_) (fun a h1 h2 => ?_) ?_ (by omega) (by rw [← hp1]; simp only; omega) hp2 (by omega)
              · rw [h_125]; exact mo_SR_fr h_96.2 fun a h1 h2 => by rw [mo_ur_n (by omega), h_115, mo_tk_n _ (by omega)]
              · rw [h_125, hnk]
                refine mo_WB_fr (M := M_115) ?_ fun a h1 h2 => by rw [mo_ur_n (by omega)]
                rw [h_115]
                refine mo_WB_tk ?_ ?_ l1 l3 l4 l5
                · exact mo_WB_g (mo_WB_fr hW1 fun a h1 h2 => by rw [f_96 a (by omega), f_74 a (by omega)]) fun k j hk hj => mo_ly_f hk hj
                · unfold mo_std; rw [l2, l6]; simp
              · rw [mo_ly_o (by omega) (by omega) (by omega)]; exact h4
              · rw [mo_ly_o (by omega) (by omega) (by omega)]; exact h0
              · rw [h_125, mo_ur_s]
                by_cases c : j = o
                · rw [c, mo_up_s, mo_ow_ly (by omega) (by omega) hw (Or.inl (by omega)), if_pos rfl]
                  rcases hD o (by omega) with q | ⟨q, q2⟩
                  · exact Or.inl (by omega)
                  · exact absurd q2 hys
                · rw [mo_up_n c, mo_ow_ly (by omega) (by omega) hw (Or.inr (by omega)), if_neg (by omega), Int.sub_zero]
                  rcases hD j hj with q | ⟨q, q2⟩
                  · exact Or.inl q
                  · exact Or.inr ⟨q, mo_sf_up (by omega) (by omega) (by omega) (by omega) (by omega) (by omega) q2⟩
              · rw [h_125, mo_ur_n (by omega), h_115, mo_tk_n _ (by omega), f_96 _ h1, f_74 _ (by omega), hM a h1 h2]
              · rw [h_125, mo_ur_s]
                have h9 : mo_cd (va_up (M1 (b + 10)) o (M1 (b + 10) o + -1)) n4 ≤ mo_cd (M1 (b + 10)) n4 := mo_cnt_le2 fun j hj q => by
                  by_cases c : j = o
                  · rw [c]; exact decide_eq_true o4
                  · rw [mo_up_n c] at q; exact q
                rw [mo_ly_7]
                omega
          · skip
            refine mo_il3 (pc := 68) X dX3_planAll_68 ?_
            refine mo_iret (pc := 69) X Y rfl dX3_planAll_69 ⟨rfl, rfl, _, rfl, ?_⟩
            have hgb := mo_gdt_b (M1 (b + 10)) (g1 4).toNat
            refine stop _ M1 g1 n' hS1 hM hp1 hp2 (mo_bo_none fun j hj hs2 => ?_)
            rcases hgb with ⟨q1, q2, q3⟩ | ⟨o, o1, o2, o3, o4, o5, o6⟩
            · have h9 := q3 j (by omega)
              rcases hD j (by omega) with q | ⟨q, q5⟩
              · omega
              · exact absurd q5 hs2
            · omega
  have lp1 : ∀ (z i : Nat) (x : Int) (M0 M1 : mo_M), i + z = n4 → x = i → mo_SR M0 h g → mo_WB M0 b g w (mo_nk g) → (∀ a, (a < b + 2 ∨ b + 8 < a) → M0 a = M a) → (∀ a, a ≠ b + 10 → M1 a = M0 a) → (∀ j, j < i → M1 (b + 10) j = mo_ow g j w) → mo_V κ 0 0 8 [some (.ref b), some (.ref h), some (mo_iv w), some (mo_iv x), none, none] [] G M1 t := by
    intro z
    induction z with
    | zero =>
      intro i x M0 M1 hi hx hS0 hW0 hM0 hM1 hD
      subst hx
      have hS1 : mo_SR M1 h g := mo_SR_fr hS0 fun a h1 h2 => hM1 a (by omega)
      have hW1 : mo_WB M1 b g w (mo_nk g) := mo_WB_fr hW0 fun a h1 h2 => hM1 a (by omega)
      have hc8 : mo_cd (M1 (b + 10)) n4 ≤ n4 := (mo_cnt_le _ _).2
      refine mo_il3 (pc := 8) X dX3_planAll_8 ?_
      refine mo_al1 (pc := 9) X dX3_planAll_9 ?_
      refine mo_f_X3_87 (pc := 10) X dX3_planAll_10 (mo_St_o hs) ?_
      rw [hS1.1, hn4]
      refine mo_ic_ge (pc := 13) (tgt := 36) X dX3_planAll_13 (by decide) ?_ ?_ (fun c_13 => ?_) (fun c_13 => ?_)
      · omega
      · omega
      · skip
        refine mo_iconst (pc := 36) X dX3_planAll_36 ?_
        refine mo_is3 (pc := 37) X dX3_planAll_37 rfl (by decide) ?_
        refine mo_iconst (pc := 38) X dX3_planAll_38 ?_
        refine mo_is4 (pc := 39) X dX3_planAll_39 rfl (by decide) ?_
        refine lp2 68 0 0 0 M1 g B 61 none rfl rfl hS1 hI (by omega) hW1 rfl rfl (fun j hj => Or.inl (hD j (by omega))) (fun a h1 h2 => by rw [hM1 a (by omega), hM0 a (by omega)]) (by omega) (by omega) (Int.zero_add _) rfl (by omega)
      · exfalso
        omega
    | succ z ih =>
      intro i x M0 M1 hi hx hS0 hW0 hM0 hM1 hD
      subst hx
      have hS1 : mo_SR M1 h g := mo_SR_fr hS0 fun a h1 h2 => hM1 a (by omega)
      refine mo_il3 (pc := 8) X dX3_planAll_8 ?_
      refine mo_al1 (pc := 9) X dX3_planAll_9 ?_
      refine mo_f_X3_87 (pc := 10) X dX3_planAll_10 (mo_St_o hs) ?_
      rw [hS1.1, hn4]
      refine mo_ic_ge (pc := 13) (tgt := 36) X dX3_planAll_13 (by decide) ?_ ?_ (fun c_13 => ?_) (fun c_13 => ?_)
      · omega
      · omega
      · exfalso
        omega
      · skip
        refine mo_al0 (pc := 16) X dX3_planAll_16 ?_
        refine mo_f_X3_29 (pc := 17) X dX3_planAll_17 (mo_Bk_o hb) (mo_Bk_p4 hb) ?_
        refine mo_il3 (pc := 20) X dX3_planAll_20 ?_
        refine mo_al1 (pc := 21) X dX3_planAll_21 ?_
        refine mo_il3 (pc := 22) X dX3_planAll_22 ?_
        refine mo_il2 (pc := 23) X dX3_planAll_23 ?_
        refine mo_cVI (pc := 24) (As := [_, _]) X mo_k_X3_90 mo_y_yX2_debt rfl dX3_planAll_24 (ct2_debt (o := i) (w := w) hs hS1 hI (by omega) (by omega) hw) (mo_St_o hs) rfl (by decide) (by decide) (Nat.le_of_ble_eq_true rfl) ?_
        rintro r_24 _ ⟨h_24, rfl⟩
        refine mo_cVV (pc := 27) (As := [_, _]) X mo_k_X3_93 mo_y_yX1_set rfl dX3_planAll_27 (ct_set (a := b + 10) (j := i) (mo_Bk_r4 hb) rfl (by omega) (by omega) (by omega) (by omega)) (mo_Bk_r4 hb).1 rfl (by decide) (by decide) (Nat.le_of_ble_eq_true rfl) ?_
        rintro M_27 h_27
        refine mo_ii3 (pc := 30) X dX3_planAll_30 rfl (by decide) ?_
        refine mo_goto (pc := 33) (tgt := 8) X dX3_planAll_33 (by decide) ?_
        refine ih (i + 1) _ M0 _ (by omega) (by omega) hS0 hW0 hM0 (fun a ha => by rw [h_27, mo_ur_n ha, hM1 a ha]) (fun j hj => ?_)
        rw [h_27, mo_ur_s]
        by_cases c : j = i
        · rw [c, mo_up_s, h_24]
        · rw [mo_up_n c]; exact hD j (by omega)
  refine mo_al0 (pc := 0) X dX3_planAll_0 ?_
  refine mo_al1 (pc := 1) X dX3_planAll_1 ?_
  refine mo_il2 (pc := 2) X dX3_planAll_2 ?_
  refine mo_cVV (pc := 3) (As := [_, _]) X mo_k_X3_83 mo_y_yX3_open rfl dX3_planAll_3 (ct3_open hb hs hbh hS hI (by omega) (by omega)) (mo_Bk_o hb) rfl (by decide) (by decide) (Nat.le_of_ble_eq_true rfl) ?_
  rintro M_3 ⟨h_3, f_3⟩
  refine mo_iconst (pc := 6) X dX3_planAll_6 ?_
  refine mo_is3 (pc := 7) X dX3_planAll_7 rfl (by decide) ?_
  exact lp1 n4 0 0 M_3 M_3 (by omega) rfl (mo_SR_fr hS fun a h1 h2 => f_3 a (by omega)) h_3 f_3 (fun a ha => rfl) fun j hj => absurd hj (by omega)
