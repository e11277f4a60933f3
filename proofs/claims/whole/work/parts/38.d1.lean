/-- the digest's numbers are taken in one by one -/
def mo_fo (f : Nat → Int) : Nat → Int → Int
  | 0, S => S
  | n + 1, S => 31 * mo_fo f n S + f n
def mo_dg1 (g : Nat → Int) (o : Nat) (S : Int) : Int := mo_fo (fun w => g (8 + 20 * o + w)) 20 (mo_fo (fun k => mo_ov g o (k : Nat)) 7 S)
def mo_dgo (g : Nat → Int) : Nat → Int → Int
  | 0, S => S
  | n + 1, S => mo_dg1 g n (mo_dgo g n S)
def mo_dgs (g : Nat → Int) (n sv : Int) : Int := 31 * (31 * mo_fo (fun k => g (215 + k)) (7 * mo_nk g) (mo_fo (fun v => g (210 + v)) (g 6).toNat (mo_fo (fun k => mo_ev g (k / 4) ((k % 4 : Nat) : Int)) (4 * (g 5).toNat) (mo_dgo g (g 4).toNat (mo_fo (fun k => mo_nv g (k : Nat)) 10 (31 * 3739 + n))))) + mo_set 20 g) + sv
theorem mo_hsum_b {g : Nat → Int} {B : Int} (hI : mo_Iv g B) {o : Nat} (ho : o < 8) : ∀ n : Nat, n ≤ 20 → 0 ≤ mo_hsum g o n ∧ mo_hsum g o n ≤ 7 * n
  | 0, _ => ⟨Int.le_refl _, Int.le_refl _⟩
  | n + 1, hn => by
    have h2 := mo_hsum_b hI ho n (by omega)
    have h3 := hI.2.2.2.2.2.2.2.2.1 (20 * o + n) (by omega)
    have h4 : mo_hsum g o (n + 1) = mo_hsum g o n + g (8 + 20 * o + n) := rfl
    rw [show 8 + (20 * o + n) = 8 + 20 * o + n by omega] at h3
    omega
theorem mo_ov_In {g : Nat → Int} {B what : Int} {o : Nat} (hI : mo_Iv g B) (hB : B ≤ 1000000000) (ho : o < 8) : mo_In (mo_ov g o what) := by
  obtain ⟨hI0, hI1, hI2, hI3, hI4, hI5, hI6, hI7, hIh, hIa, hIe, hIm, -⟩ := id hI
  have h1 := hIh (20 * o + (g 0).toNat) (by omega)
  rw [show 8 + (20 * o + (g 0).toNat) = 8 + 20 * o + (g 0).toNat by omega] at h1
  have h2 := hIa o ho
  have h3 := hIe o ho
  have h4 := hIm o ho
  have h5 := mo_cnt_le (mo_plb g o 19) (mo_nk g)
  have h5b : ((mo_nk g : Nat) : Int) ≤ 60 := by unfold mo_nk; omega
  have h6 := mo_ow_rg hI ho (show (g 0).toNat < 20 by omega)
  have h7 := mo_hsum_b hI ho 20 (by omega)
  unfold mo_ov
  repeat' split
  all_goals omega
theorem mo_ev_In {g : Nat → Int} {B what : Int} {e : Nat} (hI : mo_Iv g B) (hB : B ≤ 1000000000) (he : e < 6) : mo_In (mo_ev g e what) := by
  obtain ⟨hI0, hI1, hI2, hI3, hI4, hI5, hI6, hI7, hIh, hIa, hIe, hIm, hIs, hIl, hIw, -⟩ := id hI
  have h1 := hIs e he
  have h2 := hIl e he
  have h3 := hIw e he
  have h5 := mo_mny_b g (g 0) (mo_nk g) e
  have h5b : ((mo_nk g : Nat) : Int) ≤ 60 := by unfold mo_nk; omega
  unfold mo_ev
  repeat' split
  all_goals omega
theorem mo_nv_In {g : Nat → Int} {B what : Int} (hI : mo_Iv g B) (hB : B ≤ 1000000000) : mo_In (mo_nv g what) := by
  obtain ⟨hI0, hI1, hI2, hI3, hI4, hI5, hI6, hI7, -⟩ := id hI
  have h1 := mo_owa_b hI (show (g 0).toNat < 20 by omega)
  unfold mo_nv
  repeat' split
  all_goals omega
theorem mo_set_b : ∀ (n : Nat) (g : Nat → Int) (B : Int), mo_Iv g B → -1 ≤ mo_set n g ∧ mo_set n g ≤ 19
  | 0, g, B, h => ⟨Int.le_refl _, by show (-1 : Int) ≤ 19; decide⟩
  | n + 1, g, B, h => by
    have h0 := h.1
    obtain ⟨p1, -⟩ := mo_pl_Iv (show (g 0).toNat < 20 by omega) 61 h
    obtain ⟨q1, q2, q3⟩ := mo_hw_b p1 (mo_nk (mo_pl (g 0).toNat 61 g).2) (Nat.le_refl _)
    have e0 := mo_pl_0 (show (g 0).toNat < 20 by omega) 61 h
    rw [mo_set]
    split
    · omega
    · split
      · exact mo_set_b n _ _ (mo_e_b q1 (by rw [q3, e0]; omega)).1
      · omega
def mo_DS (M M1 : mo_M) (m : Nat) (S : Int) : Prop := M1 m 14 = S ∧ M1 m 4 = 0 ∧ (∀ j, j ≠ 4 → j ≠ 14 → M1 m j = M m j) ∧ ∀ a, a ≠ m → a ≠ m + 4 → a ≠ m + 5 → a ≠ m + 6 → a ≠ m + 7 → M1 a = M a
theorem mo_DS_ad {M M1 : mo_M} {m : Nat} {S v : Int} (h : mo_DS M M1 m S) : mo_DS M (mo_ur M1 m (va_up (M1 m) 14 (31 * M1 m 14 + v))) m (31 * S + v) := by
  obtain ⟨h1, h2, h3, h4⟩ := h
  exact ⟨by rw [mo_ur_s, mo_up_s, h1], by rw [mo_ur_s, mo_up_n (by omega), h2], fun j q1 q2 => by rw [mo_ur_s, mo_up_n q2, h3 j q1 q2], fun a q1 q2 q3 q4 q5 => by rw [mo_ur_n q1, h4 a q1 q2 q3 q4 q5]⟩
theorem mo_DS_sc {M M1 : mo_M} {m : Nat} {S : Int} {f4 f5 f6 f7 : Nat → Int} (h : mo_DS M M1 m S) : mo_DS M (mo_sc M1 m f4 f5 f6 f7) m S := by
  obtain ⟨h1, h2, h3, h4⟩ := h
  exact ⟨by rw [mo_sc_r0, h1], by rw [mo_sc_r0, h2], fun j q1 q2 => by rw [mo_sc_r0, h3 j q1 q2], fun a q1 q2 q3 q4 q5 => by rw [mo_sc_r _ _ _ _ _ ⟨q2, q3, q4, q5⟩, h4 a q1 q2 q3 q4 q5]⟩
set_option maxHeartbeats 4000000 in
set_option maxRecDepth 100000 in
theorem ct5_adds {lf : Launch} {ρf : mo_E} {G : mo_G} {M : mo_M} {t : Nat} {m : Nat} (hm : mo_Md G m) {v : Int} (hv : mo_In v) : mo_Ct lf ρf yX5_adds cX5_adds 2 none 0 0 0 [.ref m, mo_iv v] G M t (mo_pv G t (fun M' => M' = mo_ur M m (va_up (M m) 14 (31 * M m 14 + v)))) := by
  refine mo_ofW (ls0 := [some (.ref m), some (mo_iv v)]) (by decide) rfl (Nat.le_of_ble_eq_true rfl) ?_
  intro κ X Y
  have X : mo_Cx κ lf ρf cX5_adds 2 RX5 none 0 := X
  refine mo_al0 (pc := 0) X dX5_adds_0 ?_
  refine mo_ldc2 (pc := 1) (v := 31) X dX5_adds_1 mo_wk_X5_251 ?_
  refine mo_al0 (pc := 4) X dX5_adds_4 ?_
  refine mo_f_X5_253 (pc := 5) X dX5_adds_5 (mo_Md_o hm) ?_
  refine mo_lmul (pc := 8) X dX5_adds_8 ?_
  refine mo_il1 (pc := 9) X dX5_adds_9 ?_
  refine mo_i2l (pc := 10) X dX5_adds_10 ?_ ?_
  · omega
  refine mo_ladd (pc := 11) X dX5_adds_11 ?_
  refine mo_p_X5_253 (pc := 12) X dX5_adds_12 (mo_Md_o hm) ?_
  refine mo_vret (pc := 15) X Y rfl dX5_adds_15 ⟨rfl, rfl, rfl, ?_⟩
  rfl
set_option maxHeartbeats 4000000 in
set_option maxRecDepth 100000 in
theorem ct5_addsOrder {lf : Launch} {ρf : mo_E} {G : mo_G} {M : mo_M} {t : Nat} {m : Nat} (hm : mo_Md G m) {B S : Int} {o : Nat} {M0 : mo_M} (hD : mo_DS M0 M m S) (hI : mo_Iv (M0 (m + 1)) B) (hB : B ≤ 1000000000) (ho : o < 8) : mo_Ct lf ρf yX5_addsOrder cX5_addsOrder 3 none 3 0 0 [.ref m, mo_iv o] G M t (mo_pv G t (fun M' => mo_DS M0 M' m (mo_dg1 (M0 (m + 1)) o S))) := by
  refine mo_ofW (ls0 := [some (.ref m), some (mo_iv o), none]) (by decide) rfl (Nat.le_of_ble_eq_true rfl) ?_
  intro κ X Y
  have X : mo_Cx κ lf ρf cX5_addsOrder 3 RX5 none 3 := X
  have eg : ∀ {M1 : mo_M} {S1 : Int}, mo_DS M0 M1 m S1 → M1 (m + 1) = M0 (m + 1) := fun h => h.2.2.2 (m + 1) (by omega) (by omega) (by omega) (by omega) (by omega)
  have lp2 : ∀ (z i : Nat) (x : Int) (M1 : mo_M), i + z = 20 → x = i → mo_DS M0 M1 m (mo_fo (fun w => M0 (m + 1) (8 + 20 * o + w)) i (mo_fo (fun k => mo_ov (M0 (m + 1)) o (k : Nat)) 7 S)) → mo_V κ 0 0 26 [some (.ref m), some (mo_iv o), some (mo_iv x)] [] G M1 t := by
    intro z
    induction z with
    | zero =>
      intro i x M1 hi hx hD1
      subst hx
      refine mo_il2 (pc := 26) X dX5_addsOrder_26 ?_
      refine mo_bipush (pc := 27) X dX5_addsOrder_27 (by decide) ?_
      refine mo_ic_ge (pc := 29) (tgt := 56) X dX5_addsOrder_29 (by decide) ?_ ?_ (fun c_29 => ?_) (fun c_29 => ?_)
      · omega
      · omega
      · skip
        refine mo_vret (pc := 56) X Y rfl dX5_addsOrder_56 ⟨rfl, rfl, rfl, ?_⟩
        rw [show i = 20 by omega] at hD1
        exact hD1
      · exfalso
        omega
    | succ z ih =>
      intro i x M1 hi hx hD1
      subst hx
      have hh := hI.2.2.2.2.2.2.2.2.1 (20 * o + i) (by omega)
      rw [show 8 + (20 * o + i) = 8 + 20 * o + i by omega] at hh
      refine mo_il2 (pc := 26) X dX5_addsOrder_26 ?_
      refine mo_bipush (pc := 27) X dX5_addsOrder_27 (by decide) ?_
      refine mo_ic_ge (pc := 29) (tgt := 56) X dX5_addsOrder_29 (by decide) ?_ ?_ (fun c_29 => ?_) (fun c_29 => ?_)
      · omega
      · omega
      · exfalso
        omega
      · skip
        refine mo_al0 (pc := 32) X dX5_addsOrder_32 ?_
        refine mo_al0 (pc := 33) X dX5_addsOrder_33 ?_
        refine mo_f_X5_7 (pc := 34) X dX5_addsOrder_34 (mo_Md_o hm) (mo_Md_p0 hm) ?_
        refine mo_bipush (pc := 37) X dX5_addsOrder_37 (by decide) ?_
        refine mo_bipush (pc := 39) X dX5_addsOrder_39 (by decide) ?_
        refine mo_il1 (pc := 41) X dX5_addsOrder_41 ?_
        refine mo_imul (pc := 42) X dX5_addsOrder_42 ?_
        refine mo_iadd (pc := 43) X dX5_addsOrder_43 ?_
        refine mo_il2 (pc := 44) X dX5_addsOrder_44 ?_
        refine mo_iadd (pc := 45) X dX5_addsOrder_45 ?_
        refine mo_iald (pc := 46) (j := 8 + 20 * o + i) X dX5_addsOrder_46 (mo_Md_r0 hm) (by omega) ?_ ?_ (by omega) ?_
        · omega
        · omega
        rw [eg hD1]
        refine mo_cVV (pc := 47) (As := [_]) X mo_k_X5_257 mo_y_yX5_adds rfl dX5_addsOrder_47 (ct5_adds hm (by omega)) (mo_Md_o hm) rfl (by decide) (by decide) (Nat.le_of_ble_eq_true rfl) ?_
        rintro _ rfl
        refine mo_ii2 (pc := 50) X dX5_addsOrder_50 rfl (by decide) ?_
        refine mo_goto (pc := 53) (tgt := 26) X dX5_addsOrder_53 (by decide) ?_
        exact ih (i + 1) _ _ (by omega) (by omega) (mo_DS_ad hD1)
  have lp1 : ∀ (z i : Nat) (x : Int) (M1 : mo_M), i + z = 7 → x = i → mo_DS M0 M1 m (mo_fo (fun k => mo_ov (M0 (m + 1)) o (k : Nat)) i S) → mo_V κ 0 0 2 [some (.ref m), some (mo_iv o), some (mo_iv x)] [] G M1 t := by
    intro z
    induction z with
    | zero =>
      intro i x M1 hi hx hD1
      subst hx
      refine mo_il2 (pc := 2) X dX5_addsOrder_2 ?_
      refine mo_bipush (pc := 3) X dX5_addsOrder_3 (by decide) ?_
      refine mo_ic_ge (pc := 5) (tgt := 24) X dX5_addsOrder_5 (by decide) ?_ ?_ (fun c_5 => ?_) (fun c_5 => ?_)
      · omega
      · omega
      · skip
        refine mo_iconst (pc := 24) X dX5_addsOrder_24 ?_
        refine mo_is2 (pc := 25) X dX5_addsOrder_25 rfl (by decide) ?_
        rw [show i = 7 by omega] at hD1
        exact lp2 20 0 0 _ rfl rfl hD1
      · exfalso
        omega
    | succ z ih =>
      intro i x M1 hi hx hD1
      subst hx
      refine mo_il2 (pc := 2) X dX5_addsOrder_2 ?_
      refine mo_bipush (pc := 3) X dX5_addsOrder_3 (by decide) ?_
      refine mo_ic_ge (pc := 5) (tgt := 24) X dX5_addsOrder_5 (by decide) ?_ ?_ (fun c_5 => ?_) (fun c_5 => ?_)
      · omega
      · omega
      · exfalso
        omega
      · skip
        refine mo_al0 (pc := 8) X dX5_addsOrder_8 ?_
        refine mo_al0 (pc := 9) X dX5_addsOrder_9 ?_
        refine mo_il1 (pc := 10) X dX5_addsOrder_10 ?_
        refine mo_il2 (pc := 11) X dX5_addsOrder_11 ?_
        refine mo_cVI (pc := 12) (As := [_, _]) X mo_k_X5_176 mo_y_yX5_orderValue rfl dX5_addsOrder_12 (ct5_orderValue (B := B) (o := o) hm (by rw [eg hD1]; exact hI) (by omega) ho (by omega)) (mo_Md_o hm) rfl (by decide) (by decide) (Nat.le_of_ble_eq_true rfl) ?_
        rintro r_12 _ ⟨h_12, rfl⟩
        rw [eg hD1] at h_12
        have hin := mo_ov_In (what := (i : Int)) hI hB ho
        rw [← h_12] at hin
        refine mo_cVV (pc := 15) (As := [_]) X mo_k_X5_257 mo_y_yX5_adds rfl dX5_addsOrder_15 (ct5_adds hm (by omega)) (mo_Md_o hm) rfl (by decide) (by decide) (Nat.le_of_ble_eq_true rfl) ?_
        rintro _ rfl
        refine mo_ii2 (pc := 18) X dX5_addsOrder_18 rfl (by decide) ?_
        refine mo_goto (pc := 21) (tgt := 2) X dX5_addsOrder_21 (by decide) ?_
        refine ih (i + 1) _ _ (by omega) (by omega) ?_
        rw [mo_fo, ← h_12]
        exact mo_DS_ad hD1
  refine mo_iconst (pc := 0) X dX5_addsOrder_0 ?_
  refine mo_is2 (pc := 1) X dX5_addsOrder_1 rfl (by decide) ?_
  exact lp1 7 0 0 M rfl rfl hD
set_option maxHeartbeats 4000000 in
set_option maxRecDepth 100000 in
theorem ct5_digest {lf : Launch} {ρf : mo_E} {G : mo_G} {M : mo_M} {t : Nat} {m : Nat} (hm : mo_Md G m) {B : Int} (hI : mo_Iv (M (m + 1)) B) (hB : B ≤ 800000000) {n sv : Int} (h10 : M m 10 = n) (hs : M m 2 = sv) (hnr : 0 ≤ n ∧ n ≤ 100) (hsr : 0 ≤ sv ∧ sv ≤ 4) : mo_Ct lf ρf yX5_digest cX5_digest 2 (some .long) 7 0 0 [.ref m] G M t (mo_pj G t (fun x M' => x = mo_dgs (M (m + 1)) n sv ∧ mo_Qr M M' m 0)) := by
  refine mo_ofW (ls0 := [some (.ref m), none]) (by decide) rfl (Nat.le_of_ble_eq_true rfl) ?_
  intro κ X Y
  have X : mo_Cx κ lf ρf cX5_digest 2 RX5 (some .long) 7 := X
  obtain ⟨hI0, hI1, hI2, hI3, hI4, hI5, hI6, hI7, hIh, hIa, hIe, hIm, hIs, hIl, hIw, hIr, hIt, hIs2, hIs3, hIz⟩ := id hI
  have hn : ((mo_nk (M (m + 1)) : Nat) : Int) = M (m + 1) 7 := by unfold mo_nk; omega
  have eg : ∀ {M1 : mo_M} {S1 : Int}, mo_DS M M1 m S1 → M1 (m + 1) = M (m + 1) := fun h => h.2.2.2 (m + 1) (by omega) (by omega) (by omega) (by omega) (by omega)
  have lp5 : ∀ (z i : Nat) (x : Int) (M1 : mo_M), i + z = 7 * mo_nk (M (m + 1)) → x = i → mo_DS M M1 m (mo_fo (fun k => (M (m + 1)) (215 + k)) i (mo_fo (fun v => (M (m + 1)) (210 + v)) ((M (m + 1)) 6).toNat (mo_fo (fun k => mo_ev (M (m + 1)) (k / 4) ((k % 4 : Nat) : Int)) (4 * ((M (m + 1)) 5).toNat) (mo_dgo (M (m + 1)) ((M (m + 1)) 4).toNat (mo_fo (fun k => mo_nv (M (m + 1)) (k : Nat)) 10 (31 * 3739 + n)))))) → mo_V κ 0 0 135 [some (.ref m), some (mo_iv x)] [] G M1 t := by
    intro z
    induction z with
    | zero =>
      intro i x M1 hi hx hD1
      subst hx
      refine mo_il1 (pc := 135) X dX5_digest_135 ?_
      refine mo_bipush (pc := 136) X dX5_digest_136 (by decide) ?_
      refine mo_al0 (pc := 138) X dX5_digest_138 ?_
      refine mo_f_X5_7 (pc := 139) X dX5_digest_139 (mo_Md_o hm) (mo_Md_p0 hm) ?_
      refine mo_bipush (pc := 142) X dX5_digest_142 (by decide) ?_
      refine mo_iald (pc := 144) (j := 7) X dX5_digest_144 (mo_Md_r0 hm) (by omega) ?_ ?_ rfl ?_
      · omega
      · omega
      rw [eg hD1]
      refine mo_imul (pc := 145) X dX5_digest_145 ?_
      refine mo_ic_ge (pc := 146) (tgt := 169) X dX5_digest_146 (by decide) ?_ ?_ (fun c_146 => ?_) (fun c_146 => ?_)
      · omega
      · omega
      · skip
        refine mo_al0 (pc := 169) X dX5_digest_169 ?_
        refine mo_al0 (pc := 170) X dX5_digest_170 ?_
        refine mo_cVI (pc := 171) (As := []) X mo_k_X5_206 mo_y_yX5_settled rfl dX5_digest_171 (ct5_settled (B := B) hm (by rw [eg hD1]; exact hI) (by omega)) (mo_Md_o hm) rfl (by decide) (by decide) (Nat.le_of_ble_eq_true rfl) ?_
        rintro r_171 M_171 ⟨h_171, a_171, f_171⟩
        rw [eg hD1] at h_171 a_171
        have hsb := mo_set_b 20 _ _ hI
        rw [← h_171] at hsb
        have e0 : M_171 m = M1 m := f_171 m (by unfold mo_o6; omega)
        refine mo_cVV (pc := 174) (As := [_]) X mo_k_X5_257 mo_y_yX5_adds rfl dX5_digest_174 (ct5_adds hm (by omega)) (mo_Md_o hm) rfl (by decide) (by decide) (Nat.le_of_ble_eq_true rfl) ?_
        rintro _ rfl
        refine mo_al0 (pc := 177) X dX5_digest_177 ?_
        refine mo_al0 (pc := 178) X dX5_digest_178 ?_
        refine mo_f_X5_41 (pc := 179) X dX5_digest_179 (mo_Md_o hm) ?_
        rw [mo_ur_s, mo_up_n (by omega), e0, hD1.2.2.1 2 (by omega) (by omega), hs]
        refine mo_cVV (pc := 182) (As := [_]) X mo_k_X5_257 mo_y_yX5_adds rfl dX5_digest_182 (ct5_adds hm (by omega)) (mo_Md_o hm) rfl (by decide) (by decide) (Nat.le_of_ble_eq_true rfl) ?_
        rintro _ rfl
        refine mo_al0 (pc := 185) X dX5_digest_185 ?_
        refine mo_f_X5_253 (pc := 186) X dX5_digest_186 (mo_Md_o hm) ?_
        refine mo_lret (pc := 189) X Y rfl dX5_digest_189 ⟨rfl, rfl, _, rfl, ?_⟩
        rw [show i = 7 * mo_nk (M (m + 1)) by omega] at hD1
        obtain ⟨d1, d2, d3, d4⟩ := hD1
        refine ⟨?_, ?_, ?_, ?_, ?_, ?_, ?_, fun a ha => ?_⟩
        · rw [mo_ur_s, mo_ur_s, mo_up_s, mo_up_s, d1, h_171]; rfl
        · rw [mo_ur_s, mo_up_n (by omega), mo_ur_s, mo_up_n (by omega), d2]
        · rw [mo_ur_s, mo_up_n (by omega), mo_ur_s, mo_up_n (by omega), d3 2 (by omega) (by omega)]
        · rw [mo_ur_s, mo_up_n (by omega), mo_ur_s, mo_up_n (by omega), d3 10 (by omega) (by omega)]
        · rw [mo_ur_n (by omega), mo_ur_n (by omega)]; exact a_171
        · rw [mo_ur_n (by omega), mo_ur_n (by omega), f_171 _ (by unfold mo_o6; omega), d4 _ (by omega) (by omega) (by omega) (by omega) (by omega)]
        · rw [mo_ur_n (by omega), mo_ur_n (by omega), f_171 _ (by unfold mo_o6; omega), d4 _ (by omega) (by omega) (by omega) (by omega) (by omega)]
        · rw [mo_ur_n (by omega), mo_ur_n (by omega), f_171 _ (by unfold mo_o6; omega), d4 _ (by omega) (by omega) (by omega) (by omega) (by omega)]
      · exfalso
        omega
    | succ z ih =>
      intro i x M1 hi hx hD1
      subst hx
      have hmt := hIt (i / 7) (by omega)
      unfold mo_Mt mo_fld at hmt
      have hii : mo_In (M (m + 1) (215 + i)) := by
        obtain q | q | q | q | q | q | q : i % 7 = 0 ∨ i % 7 = 1 ∨ i % 7 = 2 ∨ i % 7 = 3 ∨ i % 7 = 4 ∨ i % 7 = 5 ∨ i % 7 = 6 := by omega
        · rw [show 215 + i = 215 + 7 * (i / 7) + 0 by omega]; omega
        · rw [show 215 + i = 215 + 7 * (i / 7) + 1 by omega]; omega
        · rw [show 215 + i = 215 + 7 * (i / 7) + 2 by omega]; omega
        · rw [show 215 + i = 215 + 7 * (i / 7) + 3 by omega]; omega
        · rw [show 215 + i = 215 + 7 * (i / 7) + 4 by omega]; omega
        · rw [show 215 + i = 215 + 7 * (i / 7) + 5 by omega]; omega
        · rw [show 215 + i = 215 + 7 * (i / 7) + 6 by omega]; omega
      refine mo_il1 (pc := 135) X dX5_digest_135 ?_
      refine mo_bipush (pc := 136) X dX5_digest_136 (by decide) ?_
      refine mo_al0 (pc := 138) X dX5_digest_138 ?_
      refine mo_f_X5_7 (pc := 139) X dX5_digest_139 (mo_Md_o hm) (mo_Md_p0 hm) ?_
      refine mo_bipush (pc := 142) X dX5_digest_142 (by decide) ?_
      refine mo_iald (pc := 144) (j := 7) X dX5_digest_144 (mo_Md_r0 hm) (by omega) ?_ ?_ rfl ?_
      · omega
      · omega
      rw [eg hD1]
      refine mo_imul (pc := 145) X dX5_digest_145 ?_
      refine mo_ic_ge (pc := 146) (tgt := 169) X dX5_digest_146 (by decide) ?_ ?_ (fun c_146 => ?_) (fun c_146 => ?_)
      · omega
      · omega
      · exfalso
        omega
      · skip
        refine mo_al0 (pc := 149) X dX5_digest_149 ?_
        refine mo_al0 (pc := 150) X dX5_digest_150 ?_
        refine mo_f_X5_7 (pc := 151) X dX5_digest_151 (mo_Md_o hm) (mo_Md_p0 hm) ?_
        refine mo_sipush (pc := 154) X dX5_digest_154 (by decide) ?_
        refine mo_il1 (pc := 157) X dX5_digest_157 ?_
        refine mo_iadd (pc := 158) X dX5_digest_158 ?_
        refine mo_iald (pc := 159) (j := 215 + i) X dX5_digest_159 (mo_Md_r0 hm) (by omega) ?_ ?_ (by omega) ?_
        · omega
        · omega
        rw [eg hD1]
        refine mo_cVV (pc := 160) (As := [_]) X mo_k_X5_257 mo_y_yX5_adds rfl dX5_digest_160 (ct5_adds hm (by omega)) (mo_Md_o hm) rfl (by decide) (by decide) (Nat.le_of_ble_eq_true rfl) ?_
        rintro _ rfl
        refine mo_ii1 (pc := 163) X dX5_digest_163 rfl (by decide) ?_
        refine mo_goto (pc := 166) (tgt := 135) X dX5_digest_166 (by decide) ?_
        exact ih (i + 1) _ _ (by omega) (by omega) (mo_DS_ad hD1)
  have lp4 : ∀ (z i : Nat) (x : Int) (M1 : mo_M), i + z = (M (m + 1) 6).toNat → x = i → mo_DS M M1 m (mo_fo (fun v => (M (m + 1)) (210 + v)) i (mo_fo (fun k => mo_ev (M (m + 1)) (k / 4) ((k % 4 : Nat) : Int)) (4 * ((M (m + 1)) 5).toNat) (mo_dgo (M (m + 1)) ((M (m + 1)) 4).toNat (mo_fo (fun k => mo_nv (M (m + 1)) (k : Nat)) 10 (31 * 3739 + n))))) → mo_V κ 0 0 102 [some (.ref m), some (mo_iv x)] [] G M1 t := by
    intro z
    induction z with
    | zero =>
      intro i x M1 hi hx hD1
      subst hx
      refine mo_il1 (pc := 102) X dX5_digest_102 ?_
      refine mo_al0 (pc := 103) X dX5_digest_103 ?_
      refine mo_f_X5_7 (pc := 104) X dX5_digest_104 (mo_Md_o hm) (mo_Md_p0 hm) ?_
      refine mo_bipush (pc := 107) X dX5_digest_107 (by decide) ?_
      refine mo_iald (pc := 109) (j := 6) X dX5_digest_109 (mo_Md_r0 hm) (by omega) ?_ ?_ rfl ?_
      · omega
      · omega
      rw [eg hD1]
      refine mo_ic_ge (pc := 110) (tgt := 133) X dX5_digest_110 (by decide) ?_ ?_ (fun c_110 => ?_) (fun c_110 => ?_)
      · omega
      · omega
      · skip
        refine mo_iconst (pc := 133) X dX5_digest_133 ?_
        refine mo_is1 (pc := 134) X dX5_digest_134 rfl (by decide) ?_
        rw [show i = (M (m + 1) 6).toNat by omega] at hD1
        exact lp5 _ 0 0 _ (Nat.zero_add _) rfl hD1
      · exfalso
        omega
    | succ z ih =>
      intro i x M1 hi hx hD1
      subst hx
      have hir := hIr i (by omega)
      refine mo_il1 (pc := 102) X dX5_digest_102 ?_
      refine mo_al0 (pc := 103) X dX5_digest_103 ?_
      refine mo_f_X5_7 (pc := 104) X dX5_digest_104 (mo_Md_o hm) (mo_Md_p0 hm) ?_
      refine mo_bipush (pc := 107) X dX5_digest_107 (by decide) ?_
      refine mo_iald (pc := 109) (j := 6) X dX5_digest_109 (mo_Md_r0 hm) (by omega) ?_ ?_ rfl ?_
      · omega
      · omega
      rw [eg hD1]
      refine mo_ic_ge (pc := 110) (tgt := 133) X dX5_digest_110 (by decide) ?_ ?_ (fun c_110 => ?_) (fun c_110 => ?_)
      · omega
      · omega
      · exfalso
        omega
      · skip
        refine mo_al0 (pc := 113) X dX5_digest_113 ?_
        refine mo_al0 (pc := 114) X dX5_digest_114 ?_
        refine mo_f_X5_7 (pc := 115) X dX5_digest_115 (mo_Md_o hm) (mo_Md_p0 hm) ?_
        refine mo_sipush (pc := 118) X dX5_digest_118 (by decide) ?_
        refine mo_il1 (pc := 121) X dX5_digest_121 ?_
        refine mo_iadd (pc := 122) X dX5_digest_122 ?_
        refine mo_iald (pc := 123) (j := 210 + i) X dX5_digest_123 (mo_Md_r0 hm) (by omega) ?_ ?_ (by omega) ?_
        · omega
        · omega
        rw [eg hD1]
        refine mo_cVV (pc := 124) (As := [_]) X mo_k_X5_257 mo_y_yX5_adds rfl dX5_digest_124 (ct5_adds hm (by omega)) (mo_Md_o hm) rfl (by decide) (by decide) (Nat.le_of_ble_eq_true rfl) ?_
        rintro _ rfl
        refine mo_ii1 (pc := 127) X dX5_digest_127 rfl (by decide) ?_
        refine mo_goto (pc := 130) (tgt := 102) X dX5_digest_130 (by decide) ?_
        exact ih (i + 1) _ _ (by omega) (by omega) (mo_DS_ad hD1)
  have lp3 : ∀ (z i : Nat) (x : Int) (M1 : mo_M), i + z = 4 * (M (m + 1) 5).toNat → x = i → mo_DS M M1 m (mo_fo (fun k => mo_ev (M (m + 1)) (k / 4) ((k % 4 : Nat) : Int)) i (mo_dgo (M (m + 1)) ((M (m + 1)) 4).toNat (mo_fo (fun k => mo_nv (M (m + 1)) (k : Nat)) 10 (31 * 3739 + n)))) → mo_V κ 0 0 68 [some (.ref m), some (mo_iv x)] [] G M1 t := by
    intro z
    induction z with
    | zero =>
      intro i x M1 hi hx hD1
      subst hx
      refine mo_il1 (pc := 68) X dX5_digest_68 ?_
      refine mo_iconst (pc := 69) X dX5_digest_69 ?_
      refine mo_al0 (pc := 70) X dX5_digest_70 ?_
      refine mo_f_X5_7 (pc := 71) X dX5_digest_71 (mo_Md_o hm) (mo_Md_p0 hm) ?_
      refine mo_iconst (pc := 74) X dX5_digest_74 ?_
      refine mo_iald (pc := 75) (j := 5) X dX5_digest_75 (mo_Md_r0 hm) (by omega) ?_ ?_ rfl ?_
      · omega
      · omega
      rw [eg hD1]
      refine mo_imul (pc := 76) X dX5_digest_76 ?_
      refine mo_ic_ge (pc := 77) (tgt := 100) X dX5_digest_77 (by decide) ?_ ?_ (fun c_77 => ?_) (fun c_77 => ?_)
      · omega
      · omega
      · skip
        refine mo_iconst (pc := 100) X dX5_digest_100 ?_
        refine mo_is1 (pc := 101) X dX5_digest_101 rfl (by decide) ?_
        rw [show i = 4 * (M (m + 1) 5).toNat by omega] at hD1
        exact lp4 _ 0 0 _ (Nat.zero_add _) rfl hD1
      · exfalso
        omega
    | succ z ih =>
      intro i x M1 hi hx hD1
      subst hx
      refine mo_il1 (pc := 68) X dX5_digest_68 ?_
      refine mo_iconst (pc := 69) X dX5_digest_69 ?_
      refine mo_al0 (pc := 70) X dX5_digest_70 ?_
      refine mo_f_X5_7 (pc := 71) X dX5_digest_71 (mo_Md_o hm) (mo_Md_p0 hm) ?_
      refine mo_iconst (pc := 74) X dX5_digest_74 ?_
      refine mo_iald (pc := 75) (j := 5) X dX5_digest_75 (mo_Md_r0 hm) (by omega) ?_ ?_ rfl ?_
      · omega
      · omega
      rw [eg hD1]
      refine mo_imul (pc := 76) X dX5_digest_76 ?_
      refine mo_ic_ge (pc := 77) (tgt := 100) X dX5_digest_77 (by decide) ?_ ?_ (fun c_77 => ?_) (fun c_77 => ?_)
      · omega
      · omega
      · exfalso
        omega
      · skip
        refine mo_al0 (pc := 80) X dX5_digest_80 ?_
        refine mo_al0 (pc := 81) X dX5_digest_81 ?_
        refine mo_il1 (pc := 82) X dX5_digest_82 ?_
        refine mo_iconst (pc := 83) X dX5_digest_83 ?_
        refine mo_idiv (pc := 84) X dX5_digest_84 ?_ ?_ ?_
        · omega
        · omega
        refine mo_il1 (pc := 85) X dX5_digest_85 ?_
        refine mo_iconst (pc := 86) X dX5_digest_86 ?_
        refine mo_irem (pc := 87) X dX5_digest_87 ?_ ?_ ?_
        · omega
        · omega
        rw [show (i : Int) / 4 = ((i / 4 : Nat) : Int) by omega, show (i : Int) % 4 = ((i % 4 : Nat) : Int) by omega]
        refine mo_cVI (pc := 88) (As := [_, _]) X mo_k_X5_186 mo_y_yX5_escortValue rfl dX5_digest_88 (ct5_escortValue (B := B) (e := i / 4) hm (by rw [eg hD1]; exact hI) (by omega) (by omega) (by omega)) (mo_Md_o hm) rfl (by decide) (by decide) (Nat.le_of_ble_eq_true rfl) ?_
        rintro r_88 M_88 ⟨f4, f5, f6, f7, hM_88, h_88⟩
        rw [eg hD1] at h_88
        have hin := mo_ev_In (what := ((i % 4 : Nat) : Int)) (e := i / 4) hI (by omega) (by omega)
        rw [← h_88] at hin
        have hD2 := mo_DS_sc (f4 := f4) (f5 := f5) (f6 := f6) (f7 := f7) hD1
        rw [← hM_88] at hD2
        refine mo_cVV (pc := 91) (As := [_]) X mo_k_X5_257 mo_y_yX5_adds rfl dX5_digest_91 (ct5_adds hm (by omega)) (mo_Md_o hm) rfl (by decide) (by decide) (Nat.le_of_ble_eq_true rfl) ?_
        rintro _ rfl
        refine mo_ii1 (pc := 94) X dX5_digest_94 rfl (by decide) ?_
        refine mo_goto (pc := 97) (tgt := 68) X dX5_digest_97 (by decide) ?_
        refine ih (i + 1) _ _ (by omega) (by omega) ?_
        rw [mo_fo, ← h_88]
        exact mo_DS_ad hD2
  have lp2 : ∀ (z i : Nat) (x : Int) (M1 : mo_M), i + z = (M (m + 1) 4).toNat → x = i → mo_DS M M1 m (mo_dgo (M (m + 1)) i (mo_fo (fun k => mo_nv (M (m + 1)) (k : Nat)) 10 (31 * 3739 + n))) → mo_V κ 0 0 45 [some (.ref m), some (mo_iv x)] [] G M1 t := by
    intro z
    induction z with
    | zero =>
      intro i x M1 hi hx hD1
      subst hx
      refine mo_il1 (pc := 45) X dX5_digest_45 ?_
      refine mo_al0 (pc := 46) X dX5_digest_46 ?_
      refine mo_f_X5_7 (pc := 47) X dX5_digest_47 (mo_Md_o hm) (mo_Md_p0 hm) ?_
      refine mo_iconst (pc := 50) X dX5_digest_50 ?_
      refine mo_iald (pc := 51) (j := 4) X dX5_digest_51 (mo_Md_r0 hm) (by omega) ?_ ?_ rfl ?_
      · omega
      · omega
      rw [eg hD1]
      refine mo_ic_ge (pc := 52) (tgt := 66) X dX5_digest_52 (by decide) ?_ ?_ (fun c_52 => ?_) (fun c_52 => ?_)
      · omega
      · omega
      · skip
        refine mo_iconst (pc := 66) X dX5_digest_66 ?_
        refine mo_is1 (pc := 67) X dX5_digest_67 rfl (by decide) ?_
        rw [show i = (M (m + 1) 4).toNat by omega] at hD1
        exact lp3 _ 0 0 _ (Nat.zero_add _) rfl hD1
      · exfalso
        omega
    | succ z ih =>
      intro i x M1 hi hx hD1
      subst hx
      refine mo_il1 (pc := 45) X dX5_digest_45 ?_
      refine mo_al0 (pc := 46) X dX5_digest_46 ?_
      refine mo_f_X5_7 (pc := 47) X dX5_digest_47 (mo_Md_o hm) (mo_Md_p0 hm) ?_
      refine mo_iconst (pc := 50) X dX5_digest_50 ?_
      refine mo_iald (pc := 51) (j := 4) X dX5_digest_51 (mo_Md_r0 hm) (by omega) ?_ ?_ rfl ?_
      · omega
      · omega
      rw [eg hD1]
      refine mo_ic_ge (pc := 52) (tgt := 66) X dX5_digest_52 (by decide) ?_ ?_ (fun c_52 => ?_) (fun c_52 => ?_)
      · omega
      · omega
      · exfalso
        omega
      · skip
        refine mo_al0 (pc := 55) X dX5_digest_55 ?_
        refine mo_il1 (pc := 56) X dX5_digest_56 ?_
        refine mo_cVV (pc := 57) (As := [_]) X mo_k_X5_262 mo_y_yX5_addsOrder rfl dX5_digest_57 (ct5_addsOrder (o := i) hm hD1 hI (by omega) (by omega)) (mo_Md_o hm) rfl (by decide) (by decide) (Nat.le_of_ble_eq_true rfl) ?_
        rintro M_57 h_57
        refine mo_ii1 (pc := 60) X dX5_digest_60 rfl (by decide) ?_
        refine mo_goto (pc := 63) (tgt := 45) X dX5_digest_63 (by decide) ?_
        exact ih (i + 1) _ _ (by omega) (by omega) h_57
  have lp1 : ∀ (z i : Nat) (x : Int) (M1 : mo_M), i + z = 10 → x = i → mo_DS M M1 m (mo_fo (fun k => mo_nv (M (m + 1)) (k : Nat)) i (31 * 3739 + n)) → mo_V κ 0 0 22 [some (.ref m), some (mo_iv x)] [] G M1 t := by
    intro z
    induction z with
    | zero =>
      intro i x M1 hi hx hD1
      subst hx
      refine mo_il1 (pc := 22) X dX5_digest_22 ?_
      refine mo_bipush (pc := 23) X dX5_digest_23 (by decide) ?_
      refine mo_ic_ge (pc := 25) (tgt := 43) X dX5_digest_25 (by decide) ?_ ?_ (fun c_25 => ?_) (fun c_25 => ?_)
      · omega
      · omega
      · skip
        refine mo_iconst (pc := 43) X dX5_digest_43 ?_
        refine mo_is1 (pc := 44) X dX5_digest_44 rfl (by decide) ?_
        rw [show i = 10 by omega] at hD1
        exact lp2 _ 0 0 _ (Nat.zero_add _) rfl hD1
      · exfalso
        omega
    | succ z ih =>
      intro i x M1 hi hx hD1
      subst hx
      refine mo_il1 (pc := 22) X dX5_digest_22 ?_
      refine mo_bipush (pc := 23) X dX5_digest_23 (by decide) ?_
      refine mo_ic_ge (pc := 25) (tgt := 43) X dX5_digest_25 (by decide) ?_ ?_ (fun c_25 => ?_) (fun c_25 => ?_)
      · omega
      · omega
      · exfalso
        omega
      · skip
        refine mo_al0 (pc := 28) X dX5_digest_28 ?_
        refine mo_al0 (pc := 29) X dX5_digest_29 ?_
        refine mo_il1 (pc := 30) X dX5_digest_30 ?_
        refine mo_cVI (pc := 31) (As := [_]) X mo_k_X5_194 mo_y_yX5_numberOf rfl dX5_digest_31 (ct5_numberOf (B := B) hm (by rw [eg hD1]; exact hI) (by omega) (by omega)) (mo_Md_o hm) rfl (by decide) (by decide) (Nat.le_of_ble_eq_true rfl) ?_
        rintro r_31 _ ⟨h_31, rfl⟩
        rw [eg hD1] at h_31
        have hin := mo_nv_In (what := (i : Int)) hI (by omega)
        rw [← h_31] at hin
        refine mo_cVV (pc := 34) (As := [_]) X mo_k_X5_257 mo_y_yX5_adds rfl dX5_digest_34 (ct5_adds hm (by omega)) (mo_Md_o hm) rfl (by decide) (by decide) (Nat.le_of_ble_eq_true rfl) ?_
        rintro _ rfl
        refine mo_ii1 (pc := 37) X dX5_digest_37 rfl (by decide) ?_
        refine mo_goto (pc := 40) (tgt := 22) X dX5_digest_40 (by decide) ?_
        refine ih (i + 1) _ _ (by omega) (by omega) ?_
        rw [mo_fo, ← h_31]
        exact mo_DS_ad hD1
  refine mo_al0 (pc := 0) X dX5_digest_0 ?_
  refine mo_iconst (pc := 1) X dX5_digest_1 ?_
  refine mo_p_X5_37 (pc := 2) X dX5_digest_2 (mo_Md_o hm) ?_
  refine mo_al0 (pc := 5) X dX5_digest_5 ?_
  refine mo_ldc2 (pc := 6) (v := 3739) X dX5_digest_6 mo_wk_X5_260 ?_
  refine mo_p_X5_253 (pc := 9) X dX5_digest_9 (mo_Md_o hm) ?_
  refine mo_al0 (pc := 12) X dX5_digest_12 ?_
  refine mo_al0 (pc := 13) X dX5_digest_13 ?_
  refine mo_f_X5_211 (pc := 14) X dX5_digest_14 (mo_Md_o hm) ?_
  rw [mo_ur_s, mo_up_n (by omega), mo_ur_s, mo_up_n (by omega), h10]
  refine mo_cVV (pc := 17) (As := [_]) X mo_k_X5_257 mo_y_yX5_adds rfl dX5_digest_17 (ct5_adds hm (by omega)) (mo_Md_o hm) rfl (by decide) (by decide) (Nat.le_of_ble_eq_true rfl) ?_
  rintro _ rfl
  refine mo_iconst (pc := 20) X dX5_digest_20 ?_
  refine mo_is1 (pc := 21) X dX5_digest_21 rfl (by decide) ?_
  refine lp1 10 0 0 _ rfl rfl ⟨?_, ?_, fun j q1 q2 => ?_, fun a q1 q2 q3 q4 q5 => ?_⟩
  · rw [mo_ur_s, mo_up_s, mo_ur_s, mo_up_s]; rfl
  · rw [mo_ur_s, mo_up_n (by omega), mo_ur_s, mo_up_n (by omega), mo_up_s]
  · rw [mo_ur_s, mo_up_n q2, mo_ur_s, mo_up_n q2, mo_up_n q1]
  · rw [mo_ur_n q1, mo_ur_n q1, mo_ur_n q1]
