/-! the reference's public methods: what each answers, notes and leaves -/
abbrev mo_kp (m a : Nat) : Prop := a = m ∨ a = m + 2 ∨ a = m + 8 ∨ a < m ∨ m + 9 < a
def mo_Qr (M M' : mo_M) (m : Nat) (T : Int) : Prop := M' m 4 = T ∧ M' m 2 = M m 2 ∧ M' m 10 = M m 10 ∧ mo_ag (M' (m + 1)) (M (m + 1)) ∧ M' (m + 2) = M (m + 2) ∧ M' (m + 8) = M (m + 8) ∧ ∀ a, (a < m ∨ m + 9 < a) → M' a = M a
def mo_Ur (M M' : mo_M) (m n : Nat) (g : Nat → Int) : Prop := M' m 4 = 0 ∧ M' m 2 = ((mo_svq n + 1 : Nat) : Int) ∧ M' m 10 = M m 10 ∧ mo_ag (M' (m + 1)) g ∧ (∀ k, k < 640 → M' (m + 2) (640 * mo_svq n + k) = M (m + 1) k) ∧ (∀ i k, i < mo_svq n → k < 640 → M' (m + 2) (640 * i + k) = M (m + 2) (640 * (if n = 4 then i + 1 else i) + k)) ∧ M' (m + 8) = M (m + 8) ∧ ∀ a, (a < m ∨ m + 9 < a) → M' a = M a
theorem mo_ag_rf (g : Nat → Int) : mo_ag g g := fun _ _ => rfl
theorem mo_Qr_of {M M1 M' : mo_M} {m : Nat} {T T' : Int} (h1 : M1 = mo_ur M m (va_up (M m) 4 T)) (hT : T = T') (h2 : mo_ag (M' (m + 1)) (M (m + 1))) (h3 : ∀ a, mo_kp m a → M' a = M1 a) : mo_Qr M M' m T' := by
  subst hT
  refine ⟨?_, ?_, ?_, h2, ?_, ?_, fun a ha => ?_⟩
  · rw [h3 m (Or.inl rfl), h1, mo_ur_s, mo_up_s]
  · rw [h3 m (Or.inl rfl), h1, mo_ur_s, mo_up_n (by omega)]
  · rw [h3 m (Or.inl rfl), h1, mo_ur_s, mo_up_n (by omega)]
  · rw [h3 (m + 2) (by omega), h1, mo_ur_n (by omega)]
  · rw [h3 (m + 8) (by omega), h1, mo_ur_n (by omega)]
  · rw [h3 a (by omega), h1, mo_ur_n (by omega)]
theorem mo_Qr_go {M M1 : mo_M} {m : Nat} {T T' : Int} (h1 : M1 = mo_ur M m (va_up (M m) 4 T)) (hT : T = T') : mo_Qr M M1 m T' :=
  mo_Qr_of h1 hT (by rw [h1, mo_ur_n (by omega)]; exact mo_ag_rf _) (fun _ _ => rfl)
theorem mo_Ur_of {M M1 M2 M' : mo_M} {m n : Nat} {g : Nat → Int} {T : Int} (h1 : M1 = mo_ur M m (va_up (M m) 4 T)) (hT : T = 0) (h2 : mo_Sv M1 M2 m n) (h3 : mo_ag (M' (m + 1)) g) (h4 : ∀ a, mo_kp m a → M' a = M2 a) : mo_Ur M M' m n g := by
  subst hT
  obtain ⟨s1, s2, s3, s4, s5⟩ := h2
  have e1 : M1 (m + 1) = M (m + 1) := by rw [h1, mo_ur_n (by omega)]
  have e2 : M1 (m + 2) = M (m + 2) := by rw [h1, mo_ur_n (by omega)]
  refine ⟨?_, ?_, ?_, h3, fun k hk => ?_, fun i k hi hk => ?_, ?_, fun a ha => ?_⟩
  · rw [h4 m (Or.inl rfl), s4 4 (by omega), h1, mo_ur_s, mo_up_s]
  · rw [h4 m (Or.inl rfl)]; exact s1
  · rw [h4 m (Or.inl rfl), s4 10 (by omega), h1, mo_ur_s, mo_up_n (by omega)]
  · rw [h4 (m + 2) (by omega), s2 k hk, e1]
  · rw [h4 (m + 2) (by omega), s3 i k hi hk, e2]
  · rw [h4 (m + 8) (by omega), s5 _ (by omega) (by omega), h1, mo_ur_n (by omega)]
  · rw [h4 a (by omega), s5 _ (by omega) (by omega), h1, mo_ur_n (by omega)]
theorem mo_pl_hi {w : Nat} (hw : w < 20) : ∀ (n : Nat) {g : Nat → Int} {B : Int}, mo_Iv g B → ∀ k, 640 ≤ k → (mo_pl w n g).2 k = g k
  | 0, g, B, h, k, hk => rfl
  | n + 1, g, B, h, k, hk => by
    rw [mo_pl]
    split
    · rfl
    · rename_i hb
      obtain ⟨p1, p2, -⟩ := mo_p1 h hw hb
      show (mo_pl w n (mo_l1 g w)).2 k = g k
      rw [mo_pl_hi hw n p1 k hk]
      have h7 := h.2.2.2.2.2.2.2.1
      have hn : ((mo_nk g : Nat) : Int) = g 7 := by unfold mo_nk; omega
      exact mo_ly_o (by omega) (by omega) (by omega)
def mo_gAO (g : Nat → Int) (h v : Int) : Nat → Int := fun j => if j = 4 then g 4 + 1 else if j = 168 + (g 4).toNat then v else if 8 + 20 * (g 4).toNat ≤ j ∧ j < 8 + 20 * (g 4).toNat + 20 then (if (j : Int) - (8 + 20 * (g 4).toNat : Nat) < g 0 then 0 else h) else g j
def mo_gCH (g : Nat → Int) (o w : Nat) (h : Int) : Nat → Int := fun j => if 8 + 20 * o + w ≤ j ∧ j < 8 + 20 * o + 20 then h else g j
def mo_gAE (g : Nat → Int) (s l : Int) : Nat → Int := va_up (va_up (va_up g (192 + (g 5).toNat) s) (198 + (g 5).toNat) l) 5 (g 5 + 1)
def mo_gAV (g : Nat → Int) (r : Int) : Nat → Int := va_up (va_up g (210 + (g 6).toNat) r) 6 (g 6 + 1)
set_option maxHeartbeats 4000000 in
set_option maxRecDepth 100000 in
theorem ct5_changes {lf : Launch} {ρf : mo_E} {G : mo_G} {M : mo_M} {t : Nat} {m : Nat} (hm : mo_Md G m) {o w : Nat} {h : Int} (ho : o < 8) (hw : w < 20) : mo_Ct lf ρf yX5_changes cX5_changes 5 none 0 0 0 [.ref m, mo_iv o, mo_iv w, mo_iv h] G M t (mo_pv G t (fun M' => M' = mo_ur M (m + 1) (mo_gCH (M (m + 1)) o w h))) := by
  refine mo_ofW (ls0 := [some (.ref m), some (mo_iv o), some (mo_iv w), some (mo_iv h), none]) (by decide) rfl (Nat.le_of_ble_eq_true rfl) ?_
  intro κ X Y
  have X : mo_Cx κ lf ρf cX5_changes 5 RX5 none 0 := X
  have lp1 : ∀ (z i : Nat) (x : Int) (f : Nat → Int), i + z = 20 → w ≤ i → x = i → (∀ j, f j = if 8 + 20 * o + w ≤ j ∧ j < 8 + 20 * o + i then h else M (m + 1) j) → mo_V κ 0 0 3 [some (.ref m), some (mo_iv o), some (mo_iv w), some (mo_iv h), some (mo_iv x)] [] G (mo_ur M (m + 1) f) t := by
    intro z
    induction z with
    | zero =>
      intro i x f hi hwi hx hf
      subst hx
      refine mo_il4 (pc := 3) X dX5_changes_3 ?_
      refine mo_bipush (pc := 5) X dX5_changes_5 (by decide) ?_
      refine mo_ic_ge (pc := 7) (tgt := 32) X dX5_changes_7 (by decide) ?_ ?_ (fun c_7 => ?_) (fun c_7 => ?_)
      · omega
      · omega
      · skip
        refine mo_vret (pc := 32) X Y rfl dX5_changes_32 ⟨rfl, rfl, rfl, ?_⟩
        show mo_ur _ _ _ = _
        congr 1
        funext j
        rw [hf]
        unfold mo_gCH
        rw [show i = 20 by omega]
      · exfalso
        omega
    | succ z ih =>
      intro i x f hi hwi hx hf
      subst hx
      refine mo_il4 (pc := 3) X dX5_changes_3 ?_
      refine mo_bipush (pc := 5) X dX5_changes_5 (by decide) ?_
      refine mo_ic_ge (pc := 7) (tgt := 32) X dX5_changes_7 (by decide) ?_ ?_ (fun c_7 => ?_) (fun c_7 => ?_)
      · omega
      · omega
      · exfalso
        omega
      · skip
        refine mo_al0 (pc := 10) X dX5_changes_10 ?_
        refine mo_f_X5_7 (pc := 11) X dX5_changes_11 (mo_Md_o hm) (mo_Md_p0 hm) ?_
        refine mo_bipush (pc := 14) X dX5_changes_14 (by decide) ?_
        refine mo_bipush (pc := 16) X dX5_changes_16 (by decide) ?_
        refine mo_il1 (pc := 18) X dX5_changes_18 ?_
        refine mo_imul (pc := 19) X dX5_changes_19 ?_
        refine mo_iadd (pc := 20) X dX5_changes_20 ?_
        refine mo_il4 (pc := 21) X dX5_changes_21 ?_
        refine mo_iadd (pc := 23) X dX5_changes_23 ?_
        refine mo_il3 (pc := 24) X dX5_changes_24 ?_
        refine mo_iast (pc := 25) (j := 8 + 20 * o + i) X dX5_changes_25 (mo_Md_r0 hm) (by omega) ?_ ?_ (by omega) ?_
        · omega
        · omega
        try simp only [mo_ur_ur, mo_ur_s]
        refine mo_ii4 (pc := 26) X dX5_changes_26 rfl (by decide) ?_
        refine mo_goto (pc := 29) (tgt := 3) X dX5_changes_29 (by decide) ?_
        refine ih (i + 1) _ _ (by omega) (by omega) (by omega) (fun j => ?_)
        by_cases e : j = 8 + 20 * o + i
        · rw [e, mo_up_s, if_pos (by omega)]
        · rw [mo_up_n e, hf]
          by_cases c : 8 + 20 * o + w ≤ j ∧ j < 8 + 20 * o + i
          · rw [if_pos c, if_pos (by omega)]
          · rw [if_neg c, if_neg (by omega)]
  have h0 := lp1 (20 - w) w w (M (m + 1)) (by omega) (Nat.le_refl _) rfl (fun j => by rw [if_neg (by omega)])
  rw [mo_ur_id] at h0
  refine mo_il2 (pc := 0) X dX5_changes_0 ?_
  refine mo_is4 (pc := 1) X dX5_changes_1 rfl (by decide) ?_
  exact h0
set_option maxHeartbeats 4000000 in
set_option maxRecDepth 100000 in
theorem ct5_mayChange {lf : Launch} {ρf : mo_E} {G : mo_G} {M : mo_M} {t : Nat} {m : Nat} (hm : mo_Md G m) {w h : Int} (hw : mo_In w) (hh : mo_In h) (h0 : mo_In (M (m + 1) 0)) : mo_Ct lf ρf yX5_mayChange cX5_mayChange 3 (some .boolean) 1 0 0 [.ref m, mo_iv w, mo_iv h] G M t (mo_pi G t (fun x M' => ((x = 1 ∧ ((M (m + 1) 0 ≤ w ∧ w ≤ 19) ∧ (0 ≤ h ∧ h ≤ 7))) ∨ (x = 0 ∧ ¬ ((M (m + 1) 0 ≤ w ∧ w ≤ 19) ∧ (0 ≤ h ∧ h ≤ 7)))) ∧ M = M')) := by
  refine mo_ofW (ls0 := [some (.ref m), some (mo_iv w), some (mo_iv h)]) (by decide) rfl (Nat.le_of_ble_eq_true rfl) ?_
  intro κ X Y
  have X : mo_Cx κ lf ρf cX5_mayChange 3 RX5 (some .boolean) 1 := X
  refine mo_il1 (pc := 0) X dX5_mayChange_0 ?_
  refine mo_i2l (pc := 1) X dX5_mayChange_1 ?_ ?_
  · omega
  refine mo_al0 (pc := 2) X dX5_mayChange_2 ?_
  refine mo_f_X5_7 (pc := 3) X dX5_mayChange_3 (mo_Md_o hm) (mo_Md_p0 hm) ?_
  refine mo_iconst (pc := 6) X dX5_mayChange_6 ?_
  refine mo_iald (pc := 7) (j := 0) X dX5_mayChange_7 (mo_Md_r0 hm) (by omega) ?_ ?_ rfl ?_
  · omega
  · omega
  refine mo_i2l (pc := 8) X dX5_mayChange_8 ?_ ?_
  · omega
  refine mo_ldc2 (pc := 9) (v := 19) X dX5_mayChange_9 mo_wk_X5_48 ?_
  refine mo_cSI (pc := 12) (As := [_, _, _]) X mo_k_X5_44 mo_y_yX5_in dX5_mayChange_12 (ct5_in (by omega) (by omega) (by omega)) rfl (by decide) (by decide) (Nat.le_of_ble_eq_true rfl) ?_
  rintro r_12 _ ⟨h_12, rfl⟩
  refine mo_if_eq (pc := 15) (tgt := 34) X dX5_mayChange_15 (by decide) ?_ (fun c_15 => ?_) (fun c_15 => ?_)
  · omega
  · skip
    refine mo_iconst (pc := 34) X dX5_mayChange_34 ?_
    refine mo_zret (pc := 35) X Y rfl ?_ dX5_mayChange_35 ⟨rfl, rfl, _, rfl, ?_⟩
    · omega
    refine ⟨?_, rfl⟩
    omega
  · skip
    refine mo_il2 (pc := 18) X dX5_mayChange_18 ?_
    refine mo_i2l (pc := 19) X dX5_mayChange_19 ?_ ?_
    · omega
    refine mo_lconst (pc := 20) (z := 0) X dX5_mayChange_20 (by decide) ?_
    refine mo_ldc2 (pc := 21) (v := 7) X dX5_mayChange_21 mo_wk_X5_52 ?_
    refine mo_cSI (pc := 24) (As := [_, _, _]) X mo_k_X5_44 mo_y_yX5_in dX5_mayChange_24 (ct5_in (by omega) (by omega) (by omega)) rfl (by decide) (by decide) (Nat.le_of_ble_eq_true rfl) ?_
    rintro r_24 _ ⟨h_24, rfl⟩
    refine mo_if_eq (pc := 27) (tgt := 34) X dX5_mayChange_27 (by decide) ?_ (fun c_27 => ?_) (fun c_27 => ?_)
    · omega
    · skip
      refine mo_iconst (pc := 34) X dX5_mayChange_34 ?_
      refine mo_zret (pc := 35) X Y rfl ?_ dX5_mayChange_35 ⟨rfl, rfl, _, rfl, ?_⟩
      · omega
      refine ⟨?_, rfl⟩
      omega
    · skip
      refine mo_iconst (pc := 30) X dX5_mayChange_30 ?_
      refine mo_goto (pc := 31) (tgt := 35) X dX5_mayChange_31 (by decide) ?_
      refine mo_zret (pc := 35) X Y rfl ?_ dX5_mayChange_35 ⟨rfl, rfl, _, rfl, ?_⟩
      · omega
      refine ⟨?_, rfl⟩
      omega
set_option maxHeartbeats 4000000 in
set_option maxRecDepth 100000 in
theorem ct5_addOrder {lf : Launch} {ρf : mo_E} {G : mo_G} {M : mo_M} {t : Nat} {m : Nat} (hm : mo_Md G m) {B p v : Int} (hI : mo_Iv (M (m + 1)) B) (hB : B ≤ 800000000) {n : Nat} (hs : M m 2 = n) (hn4 : n ≤ 4) (hp : mo_In p) (hv : mo_In v) : mo_Ct lf ρf yX5_addOrder cX5_addOrder 5 (some .int) 2 0 0 [.ref m, mo_iv p, mo_iv v] G M t (mo_pi G t (fun x M' => (¬ ((0 ≤ p ∧ p ≤ 7) ∧ (0 ≤ v ∧ v < 2 ^ (M (m + 1) 6).toNat)) ∧ x = 0 ∧ mo_Qr M M' m 1) ∨ (((0 ≤ p ∧ p ≤ 7) ∧ (0 ≤ v ∧ v < 2 ^ (M (m + 1) 6).toNat)) ∧ ¬ (M (m + 1) 4 < 8) ∧ x = 0 ∧ mo_Qr M M' m 2) ∨ (((0 ≤ p ∧ p ≤ 7) ∧ (0 ≤ v ∧ v < 2 ^ (M (m + 1) 6).toNat)) ∧ (M (m + 1) 4 < 8) ∧ x = M (m + 1) 4 ∧ mo_Ur M M' m n (mo_gAO (M (m + 1)) p v)))) := by
  refine mo_ofW (ls0 := [some (.ref m), some (mo_iv p), some (mo_iv v), none, none]) (by decide) rfl (Nat.le_of_ble_eq_true rfl) ?_
  intro κ X Y
  have X : mo_Cx κ lf ρf cX5_addOrder 5 RX5 (some .int) 2 := X
  obtain ⟨hI0, hI1, hI2, hI3, hI4, hI5, hI6, hI7, hIh, hIa, hIe, hIm, hIs, hIl, hIw, hIr, hIt, hIs2, hIs3, hIz⟩ := id hI
  have hn : ((mo_nk (M (m + 1)) : Nat) : Int) = M (m + 1) 7 := by unfold mo_nk; omega
  obtain ⟨on, hon⟩ := Int.eq_ofNat_of_zero_le hI4.1
  have lp1 : ∀ (z i : Nat) (x : Int) (Mz : mo_M) (f : Nat → Int), on < 8 → i + z = 20 → x = i → (∀ j, f j = if 8 + 20 * on ≤ j ∧ j < 8 + 20 * on + i then (if (j : Int) - (8 + 20 * on : Nat) < M (m + 1) 0 then 0 else p) else M (m + 1) j) → (∀ Mw : mo_M, Mw = mo_ur Mz (m + 1) (mo_gAO (M (m + 1)) p v) → (fun x M' => (¬ ((0 ≤ p ∧ p ≤ 7) ∧ (0 ≤ v ∧ v < 2 ^ (M (m + 1) 6).toNat)) ∧ x = 0 ∧ mo_Qr M M' m 1) ∨ (((0 ≤ p ∧ p ≤ 7) ∧ (0 ≤ v ∧ v < 2 ^ (M (m + 1) 6).toNat)) ∧ ¬ (M (m + 1) 4 < 8) ∧ x = 0 ∧ mo_Qr M M' m 2) ∨ (((0 ≤ p ∧ p ≤ 7) ∧ (0 ≤ v ∧ v < 2 ^ (M (m + 1) 6).toNat)) ∧ (M (m + 1) 4 < 8) ∧ x = M (m + 1) 4 ∧ mo_Ur M M' m n (mo_gAO (M (m + 1)) p v))) (on : Int) Mw) → mo_V κ 0 0 65 [some (.ref m), some (mo_iv p), some (mo_iv v), some (mo_iv on), some (mo_iv x)] [] G (mo_ur Mz (m + 1) f) t := by
    intro z
    induction z with
    | zero =>
      intro i x Mz f ho8 hi hx hf kk
      subst hx
      have f4 : f 4 = M (m + 1) 4 := by rw [hf, if_neg (by omega)]
      refine mo_il4 (pc := 65) X dX5_addOrder_65 ?_
      refine mo_bipush (pc := 67) X dX5_addOrder_67 (by decide) ?_
      refine mo_ic_ge (pc := 69) (tgt := 109) X dX5_addOrder_69 (by decide) ?_ ?_ (fun c_69 => ?_) (fun c_69 => ?_)
      · omega
      · omega
      · skip
        refine mo_al0 (pc := 109) X dX5_addOrder_109 ?_
        refine mo_f_X5_7 (pc := 110) X dX5_addOrder_110 (mo_Md_o hm) (mo_Md_p0 hm) ?_
        refine mo_sipush (pc := 113) X dX5_addOrder_113 (by decide) ?_
        refine mo_il3 (pc := 116) X dX5_addOrder_116 ?_
        refine mo_iadd (pc := 117) X dX5_addOrder_117 ?_
        refine mo_il2 (pc := 118) X dX5_addOrder_118 ?_
        refine mo_iast (pc := 119) (j := 168 + on) X dX5_addOrder_119 (mo_Md_r0 hm) (by omega) ?_ ?_ (by omega) ?_
        · omega
        · omega
        try simp only [mo_ur_ur, mo_ur_s]
        refine mo_al0 (pc := 120) X dX5_addOrder_120 ?_
        refine mo_f_X5_7 (pc := 121) X dX5_addOrder_121 (mo_Md_o hm) (mo_Md_p0 hm) ?_
        refine mo_iconst (pc := 124) X dX5_addOrder_124 ?_
        refine mo_dup2 (pc := 125) X dX5_addOrder_125 rfl rfl ?_
        refine mo_iald (pc := 126) (j := 4) X dX5_addOrder_126 (mo_Md_r0 hm) (by omega) ?_ ?_ rfl ?_
        · omega
        · omega
        try simp only [mo_ur_ur, mo_ur_s]
        rw [mo_up_n (by omega), f4]
        refine mo_iconst (pc := 127) X dX5_addOrder_127 ?_
        refine mo_iadd (pc := 128) X dX5_addOrder_128 ?_
        refine mo_iast (pc := 129) (j := 4) X dX5_addOrder_129 (mo_Md_r0 hm) (by omega) ?_ ?_ rfl ?_
        · omega
        · omega
        refine mo_il3 (pc := 130) X dX5_addOrder_130 ?_
        refine mo_iret (pc := 131) X Y rfl dX5_addOrder_131 ⟨rfl, rfl, _, rfl, ?_⟩
        refine kk _ ?_
        simp only [mo_ur_ur, mo_ur_s]
        congr 1
        funext j
        unfold mo_gAO va_up
        rw [hon, Int.toNat_natCast, hf]
        split
        · rfl
        · split
          · rfl
          · rw [show i = 20 by omega]
      · exfalso
        omega
    | succ z ih =>
      intro i x Mz f ho8 hi hx hf kk
      subst hx
      have f0 : f 0 = M (m + 1) 0 := by rw [hf, if_neg (by omega)]
      refine mo_il4 (pc := 65) X dX5_addOrder_65 ?_
      refine mo_bipush (pc := 67) X dX5_addOrder_67 (by decide) ?_
      refine mo_ic_ge (pc := 69) (tgt := 109) X dX5_addOrder_69 (by decide) ?_ ?_ (fun c_69 => ?_) (fun c_69 => ?_)
      · omega
      · omega
      · exfalso
        omega
      · skip
        refine mo_al0 (pc := 72) X dX5_addOrder_72 ?_
        refine mo_f_X5_7 (pc := 73) X dX5_addOrder_73 (mo_Md_o hm) (mo_Md_p0 hm) ?_
        refine mo_bipush (pc := 76) X dX5_addOrder_76 (by decide) ?_
        refine mo_bipush (pc := 78) X dX5_addOrder_78 (by decide) ?_
        refine mo_il3 (pc := 80) X dX5_addOrder_80 ?_
        refine mo_imul (pc := 81) X dX5_addOrder_81 ?_
        refine mo_iadd (pc := 82) X dX5_addOrder_82 ?_
        refine mo_il4 (pc := 83) X dX5_addOrder_83 ?_
        refine mo_iadd (pc := 85) X dX5_addOrder_85 ?_
        refine mo_il4 (pc := 86) X dX5_addOrder_86 ?_
        refine mo_al0 (pc := 88) X dX5_addOrder_88 ?_
        refine mo_f_X5_7 (pc := 89) X dX5_addOrder_89 (mo_Md_o hm) (mo_Md_p0 hm) ?_
        refine mo_iconst (pc := 92) X dX5_addOrder_92 ?_
        refine mo_iald (pc := 93) (j := 0) X dX5_addOrder_93 (mo_Md_r0 hm) (by omega) ?_ ?_ rfl ?_
        · omega
        · omega
        try simp only [mo_ur_ur, mo_ur_s]
        rw [f0]
        refine mo_ic_ge (pc := 94) (tgt := 101) X dX5_addOrder_94 (by decide) ?_ ?_ (fun c_94 => ?_) (fun c_94 => ?_)
        · omega
        · omega
        · skip
          refine mo_il1 (pc := 101) X dX5_addOrder_101 ?_
          refine mo_iast (pc := 102) (j := 8 + 20 * on + i) X dX5_addOrder_102 (mo_Md_r0 hm) (by omega) ?_ ?_ (by omega) ?_
          · omega
          · omega
          try simp only [mo_ur_ur, mo_ur_s]
          refine mo_ii4 (pc := 103) X dX5_addOrder_103 rfl (by decide) ?_
          refine mo_goto (pc := 106) (tgt := 65) X dX5_addOrder_106 (by decide) ?_
          refine ih (i + 1) _ Mz _ ho8 (by omega) (by omega) (fun j => ?_) kk
          by_cases e : j = 8 + 20 * on + i
          · rw [e, mo_up_s, if_pos (by omega)]
            first
              | rw [if_pos (by omega)]
              | rw [if_neg (by omega)]
          · rw [mo_up_n e, hf]
            by_cases c : 8 + 20 * on ≤ j ∧ j < 8 + 20 * on + i
            · rw [if_pos c]
              exact (if_pos (by omega)).symm
            · rw [if_neg c]
              exact (if_neg (by omega)).symm
        · skip
          refine mo_iconst (pc := 97) X dX5_addOrder_97 ?_
          refine mo_goto (pc := 98) (tgt := 102) X dX5_addOrder_98 (by decide) ?_
          refine mo_iast (pc := 102) (j := 8 + 20 * on + i) X dX5_addOrder_102 (mo_Md_r0 hm) (by omega) ?_ ?_ (by omega) ?_
          · omega
          · omega
          try simp only [mo_ur_ur, mo_ur_s]
          refine mo_ii4 (pc := 103) X dX5_addOrder_103 rfl (by decide) ?_
          refine mo_goto (pc := 106) (tgt := 65) X dX5_addOrder_106 (by decide) ?_
          refine ih (i + 1) _ Mz _ ho8 (by omega) (by omega) (fun j => ?_) kk
          by_cases e : j = 8 + 20 * on + i
          · rw [e, mo_up_s, if_pos (by omega)]
            first
              | rw [if_pos (by omega)]
              | rw [if_neg (by omega)]
          · rw [mo_up_n e, hf]
            by_cases c : 8 + 20 * on ≤ j ∧ j < 8 + 20 * on + i
            · rw [if_pos c]
              exact (if_pos (by omega)).symm
            · rw [if_neg c]
              exact (if_neg (by omega)).symm
  refine mo_al0 (pc := 0) X dX5_addOrder_0 ?_
  refine mo_il1 (pc := 1) X dX5_addOrder_1 ?_
  refine mo_i2l (pc := 2) X dX5_addOrder_2 ?_ ?_
  · omega
  refine mo_lconst (pc := 3) (z := 0) X dX5_addOrder_3 (by decide) ?_
  refine mo_ldc2 (pc := 4) (v := 7) X dX5_addOrder_4 mo_wk_X5_52 ?_
  refine mo_cSI (pc := 7) (As := [_, _, _]) X mo_k_X5_44 mo_y_yX5_in dX5_addOrder_7 (ct5_in (by omega) (by omega) (by omega)) rfl (by decide) (by decide) (Nat.le_of_ble_eq_true rfl) ?_
  rintro r_7 _ ⟨h_7, rfl⟩
  refine mo_if_eq (pc := 10) (tgt := 25) X dX5_addOrder_10 (by decide) ?_ (fun c_10 => ?_) (fun c_10 => ?_)
  · omega
  · skip
    refine mo_iconst (pc := 25) X dX5_addOrder_25 ?_
    refine mo_al0 (pc := 26) X dX5_addOrder_26 ?_
    refine mo_f_X5_7 (pc := 27) X dX5_addOrder_27 (mo_Md_o hm) (mo_Md_p0 hm) ?_
    refine mo_iconst (pc := 30) X dX5_addOrder_30 ?_
    refine mo_iald (pc := 31) (j := 4) X dX5_addOrder_31 (mo_Md_r0 hm) (by omega) ?_ ?_ rfl ?_
    · omega
    · omega
    refine mo_bipush (pc := 32) X dX5_addOrder_32 (by decide) ?_
    refine mo_ic_ge (pc := 34) (tgt := 41) X dX5_addOrder_34 (by decide) ?_ ?_ (fun c_34 => ?_) (fun c_34 => ?_)
    · omega
    · omega
    · skip
      refine mo_iconst (pc := 41) X dX5_addOrder_41 ?_
      refine mo_iconst (pc := 42) X dX5_addOrder_42 ?_
      refine mo_cVI (pc := 43) (As := [_, _, _]) X mo_k_X5_58 mo_y_yX5_goes rfl dX5_addOrder_43 (ct5_goes hm (by omega) (by omega) (by omega)) (mo_Md_o hm) rfl (by decide) (by decide) (Nat.le_of_ble_eq_true rfl) ?_
      rintro r_43 M_43 ⟨T_43, hT_43, h_43⟩
      have eg_43 : M_43 (m + 1) = M (m + 1) := by rw [hT_43, mo_ur_n (by omega)]
      have es_43 : M_43 m 2 = M m 2 := by rw [hT_43, mo_ur_s, mo_up_n (by omega)]
      refine mo_if_ne (pc := 46) (tgt := 51) X dX5_addOrder_46 (by decide) ?_ (fun c_46 => ?_) (fun c_46 => ?_)
      · omega
      · skip
        refine mo_al0 (pc := 51) X dX5_addOrder_51 ?_
        refine mo_cVV (pc := 52) (As := []) X mo_k_X5_62 mo_y_yX5_save rfl dX5_addOrder_52 (ct5_save (n := n) hm (by rw [es_43]; exact hs) hn4) (mo_Md_o hm) rfl (by decide) (by decide) (Nat.le_of_ble_eq_true rfl) ?_
        rintro M_52 h_52
        have eg_52 : M_52 (m + 1) = M (m + 1) := by rw [h_52.2.2.2.2 _ (by omega) (by omega), eg_43]
        refine mo_al0 (pc := 55) X dX5_addOrder_55 ?_
        refine mo_f_X5_7 (pc := 56) X dX5_addOrder_56 (mo_Md_o hm) (mo_Md_p0 hm) ?_
        refine mo_iconst (pc := 59) X dX5_addOrder_59 ?_
        refine mo_iald (pc := 60) (j := 4) X dX5_addOrder_60 (mo_Md_r0 hm) (by omega) ?_ ?_ rfl ?_
        · omega
        · omega
        rw [eg_52, hon]
        refine mo_is3 (pc := 61) X dX5_addOrder_61 rfl (by decide) ?_
        refine mo_iconst (pc := 62) X dX5_addOrder_62 ?_
        refine mo_is4 (pc := 63) X dX5_addOrder_63 rfl (by decide) ?_
        have h0 := lp1 20 0 0 M_52 (M (m + 1)) (by omega) (by omega) rfl (fun j => by rw [if_neg (by omega)]) (fun Mw hMw => Or.inr (Or.inr ⟨by omega, by omega, by omega, mo_Ur_of hT_43 (by omega) h_52 (by rw [hMw, mo_ur_s]; exact mo_ag_rf _) (fun a q => by rw [hMw, mo_ur_n (by omega)])⟩))
        rw [← eg_52, mo_ur_id] at h0
        exact h0
      · skip
        refine mo_iconst (pc := 49) X dX5_addOrder_49 ?_
        refine mo_iret (pc := 50) X Y rfl dX5_addOrder_50 ⟨rfl, rfl, _, rfl, ?_⟩
        rcases h_43 with q | q | q | q
        all_goals
          first
            | exact Or.inl ⟨by omega, rfl, mo_Qr_go hT_43 (by omega)⟩
            | exact Or.inr (Or.inl ⟨by omega, by omega, rfl, mo_Qr_go hT_43 (by omega)⟩)
            | (exfalso; omega)
    · skip
      refine mo_iconst (pc := 37) X dX5_addOrder_37 ?_
      refine mo_goto (pc := 38) (tgt := 42) X dX5_addOrder_38 (by decide) ?_
      refine mo_iconst (pc := 42) X dX5_addOrder_42 ?_
      refine mo_cVI (pc := 43) (As := [_, _, _]) X mo_k_X5_58 mo_y_yX5_goes rfl dX5_addOrder_43 (ct5_goes hm (by omega) (by omega) (by omega)) (mo_Md_o hm) rfl (by decide) (by decide) (Nat.le_of_ble_eq_true rfl) ?_
      rintro r_43 M_43 ⟨T_43, hT_43, h_43⟩
      have eg_43 : M_43 (m + 1) = M (m + 1) := by rw [hT_43, mo_ur_n (by omega)]
      have es_43 : M_43 m 2 = M m 2 := by rw [hT_43, mo_ur_s, mo_up_n (by omega)]
      refine mo_if_ne (pc := 46) (tgt := 51) X dX5_addOrder_46 (by decide) ?_ (fun c_46 => ?_) (fun c_46 => ?_)
      · omega
      · skip
        refine mo_al0 (pc := 51) X dX5_addOrder_51 ?_
        refine mo_cVV (pc := 52) (As := []) X mo_k_X5_62 mo_y_yX5_save rfl dX5_addOrder_52 (ct5_save (n := n) hm (by rw [es_43]; exact hs) hn4) (mo_Md_o hm) rfl (by decide) (by decide) (Nat.le_of_ble_eq_true rfl) ?_
        rintro M_52 h_52
        have eg_52 : M_52 (m + 1) = M (m + 1) := by rw [h_52.2.2.2.2 _ (by omega) (by omega), eg_43]
        refine mo_al0 (pc := 55) X dX5_addOrder_55 ?_
        refine mo_f_X5_7 (pc := 56) X dX5_addOrder_56 (mo_Md_o hm) (mo_Md_p0 hm) ?_
        refine mo_iconst (pc := 59) X dX5_addOrder_59 ?_
        refine mo_iald (pc := 60) (j := 4) X dX5_addOrder_60 (mo_Md_r0 hm) (by omega) ?_ ?_ rfl ?_
        · omega
        · omega
        rw [eg_52, hon]
        refine mo_is3 (pc := 61) X dX5_addOrder_61 rfl (by decide) ?_
        refine mo_iconst (pc := 62) X dX5_addOrder_62 ?_
        refine mo_is4 (pc := 63) X dX5_addOrder_63 rfl (by decide) ?_
        have h0 := lp1 20 0 0 M_52 (M (m + 1)) (by omega) (by omega) rfl (fun j => by rw [if_neg (by omega)]) (fun Mw hMw => Or.inr (Or.inr ⟨by omega, by omega, by omega, mo_Ur_of hT_43 (by omega) h_52 (by rw [hMw, mo_ur_s]; exact mo_ag_rf _) (fun a q => by rw [hMw, mo_ur_n (by omega)])⟩))
        rw [← eg_52, mo_ur_id] at h0
        exact h0
      · skip
        refine mo_iconst (pc := 49) X dX5_addOrder_49 ?_
        refine mo_iret (pc := 50) X Y rfl dX5_addOrder_50 ⟨rfl, rfl, _, rfl, ?_⟩
        rcases h_43 with q | q | q | q
        all_goals
          first
            | exact Or.inl ⟨by omega, rfl, mo_Qr_go hT_43 (by omega)⟩
            | exact Or.inr (Or.inl ⟨by omega, by omega, rfl, mo_Qr_go hT_43 (by omega)⟩)
            | (exfalso; omega)
  · skip
    refine mo_al0 (pc := 13) X dX5_addOrder_13 ?_
    refine mo_il2 (pc := 14) X dX5_addOrder_14 ?_
    refine mo_cVI (pc := 15) (As := [_]) X mo_k_X5_54 mo_y_yX5_areVenues rfl dX5_addOrder_15 (ct5_areVenues hm hv hI6) (mo_Md_o hm) rfl (by decide) (by decide) (Nat.le_of_ble_eq_true rfl) ?_
    rintro r_15 _ ⟨h_15, rfl⟩
    refine mo_if_eq (pc := 18) (tgt := 25) X dX5_addOrder_18 (by decide) ?_ (fun c_18 => ?_) (fun c_18 => ?_)
    · omega
    · skip
      refine mo_iconst (pc := 25) X dX5_addOrder_25 ?_
      refine mo_al0 (pc := 26) X dX5_addOrder_26 ?_
      refine mo_f_X5_7 (pc := 27) X dX5_addOrder_27 (mo_Md_o hm) (mo_Md_p0 hm) ?_
      refine mo_iconst (pc := 30) X dX5_addOrder_30 ?_
      refine mo_iald (pc := 31) (j := 4) X dX5_addOrder_31 (mo_Md_r0 hm) (by omega) ?_ ?_ rfl ?_
      · omega
      · omega
      refine mo_bipush (pc := 32) X dX5_addOrder_32 (by decide) ?_
      refine mo_ic_ge (pc := 34) (tgt := 41) X dX5_addOrder_34 (by decide) ?_ ?_ (fun c_34 => ?_) (fun c_34 => ?_)
      · omega
      · omega
      · skip
        refine mo_iconst (pc := 41) X dX5_addOrder_41 ?_
        refine mo_iconst (pc := 42) X dX5_addOrder_42 ?_
        refine mo_cVI (pc := 43) (As := [_, _, _]) X mo_k_X5_58 mo_y_yX5_goes rfl dX5_addOrder_43 (ct5_goes hm (by omega) (by omega) (by omega)) (mo_Md_o hm) rfl (by decide) (by decide) (Nat.le_of_ble_eq_true rfl) ?_
        rintro r_43 M_43 ⟨T_43, hT_43, h_43⟩
        have eg_43 : M_43 (m + 1) = M (m + 1) := by rw [hT_43, mo_ur_n (by omega)]
        have es_43 : M_43 m 2 = M m 2 := by rw [hT_43, mo_ur_s, mo_up_n (by omega)]
        refine mo_if_ne (pc := 46) (tgt := 51) X dX5_addOrder_46 (by decide) ?_ (fun c_46 => ?_) (fun c_46 => ?_)
        · omega
        · skip
          refine mo_al0 (pc := 51) X dX5_addOrder_51 ?_
          refine mo_cVV (pc := 52) (As := []) X mo_k_X5_62 mo_y_yX5_save rfl dX5_addOrder_52 (ct5_save (n := n) hm (by rw [es_43]; exact hs) hn4) (mo_Md_o hm) rfl (by decide) (by decide) (Nat.le_of_ble_eq_true rfl) ?_
          rintro M_52 h_52
          have eg_52 : M_52 (m + 1) = M (m + 1) := by rw [h_52.2.2.2.2 _ (by omega) (by omega), eg_43]
          refine mo_al0 (pc := 55) X dX5_addOrder_55 ?_
          refine mo_f_X5_7 (pc := 56) X dX5_addOrder_56 (mo_Md_o hm) (mo_Md_p0 hm) ?_
          refine mo_iconst (pc := 59) X dX5_addOrder_59 ?_
          refine mo_iald (pc := 60) (j := 4) X dX5_addOrder_60 (mo_Md_r0 hm) (by omega) ?_ ?_ rfl ?_
          · omega
          · omega
          rw [eg_52, hon]
          refine mo_is3 (pc := 61) X dX5_addOrder_61 rfl (by decide) ?_
          refine mo_iconst (pc := 62) X dX5_addOrder_62 ?_
          refine mo_is4 (pc := 63) X dX5_addOrder_63 rfl (by decide) ?_
          have h0 := lp1 20 0 0 M_52 (M (m + 1)) (by omega) (by omega) rfl (fun j => by rw [if_neg (by omega)]) (fun Mw hMw => Or.inr (Or.inr ⟨by omega, by omega, by omega, mo_Ur_of hT_43 (by omega) h_52 (by rw [hMw, mo_ur_s]; exact mo_ag_rf _) (fun a q => by rw [hMw, mo_ur_n (by omega)])⟩))
          rw [← eg_52, mo_ur_id] at h0
          exact h0
        · skip
          refine mo_iconst (pc := 49) X dX5_addOrder_49 ?_
          refine mo_iret (pc := 50) X Y rfl dX5_addOrder_50 ⟨rfl, rfl, _, rfl, ?_⟩
          rcases h_43 with q | q | q | q
          all_goals
            first
              | exact Or.inl ⟨by omega, rfl, mo_Qr_go hT_43 (by omega)⟩
              | exact Or.inr (Or.inl ⟨by omega, by omega, rfl, mo_Qr_go hT_43 (by omega)⟩)
              | (exfalso; omega)
      · skip
        refine mo_iconst (pc := 37) X dX5_addOrder_37 ?_
        refine mo_goto (pc := 38) (tgt := 42) X dX5_addOrder_38 (by decide) ?_
        refine mo_iconst (pc := 42) X dX5_addOrder_42 ?_
        refine mo_cVI (pc := 43) (As := [_, _, _]) X mo_k_X5_58 mo_y_yX5_goes rfl dX5_addOrder_43 (ct5_goes hm (by omega) (by omega) (by omega)) (mo_Md_o hm) rfl (by decide) (by decide) (Nat.le_of_ble_eq_true rfl) ?_
        rintro r_43 M_43 ⟨T_43, hT_43, h_43⟩
        have eg_43 : M_43 (m + 1) = M (m + 1) := by rw [hT_43, mo_ur_n (by omega)]
        have es_43 : M_43 m 2 = M m 2 := by rw [hT_43, mo_ur_s, mo_up_n (by omega)]
        refine mo_if_ne (pc := 46) (tgt := 51) X dX5_addOrder_46 (by decide) ?_ (fun c_46 => ?_) (fun c_46 => ?_)
        · omega
        · skip
          refine mo_al0 (pc := 51) X dX5_addOrder_51 ?_
          refine mo_cVV (pc := 52) (As := []) X mo_k_X5_62 mo_y_yX5_save rfl dX5_addOrder_52 (ct5_save (n := n) hm (by rw [es_43]; exact hs) hn4) (mo_Md_o hm) rfl (by decide) (by decide) (Nat.le_of_ble_eq_true rfl) ?_
          rintro M_52 h_52
          have eg_52 : M_52 (m + 1) = M (m + 1) := by rw [h_52.2.2.2.2 _ (by omega) (by omega), eg_43]
          refine mo_al0 (pc := 55) X dX5_addOrder_55 ?_
          refine mo_f_X5_7 (pc := 56) X dX5_addOrder_56 (mo_Md_o hm) (mo_Md_p0 hm) ?_
          refine mo_iconst (pc := 59) X dX5_addOrder_59 ?_
          refine mo_iald (pc := 60) (j := 4) X dX5_addOrder_60 (mo_Md_r0 hm) (by omega) ?_ ?_ rfl ?_
          · omega
          · omega
          rw [eg_52, hon]
          refine mo_is3 (pc := 61) X dX5_addOrder_61 rfl (by decide) ?_
          refine mo_iconst (pc := 62) X dX5_addOrder_62 ?_
          refine mo_is4 (pc := 63) X dX5_addOrder_63 rfl (by decide) ?_
          have h0 := lp1 20 0 0 M_52 (M (m + 1)) (by omega) (by omega) rfl (fun j => by rw [if_neg (by omega)]) (fun Mw hMw => Or.inr (Or.inr ⟨by omega, by omega, by omega, mo_Ur_of hT_43 (by omega) h_52 (by rw [hMw, mo_ur_s]; exact mo_ag_rf _) (fun a q => by rw [hMw, mo_ur_n (by omega)])⟩))
          rw [← eg_52, mo_ur_id] at h0
          exact h0
        · skip
          refine mo_iconst (pc := 49) X dX5_addOrder_49 ?_
          refine mo_iret (pc := 50) X Y rfl dX5_addOrder_50 ⟨rfl, rfl, _, rfl, ?_⟩
          rcases h_43 with q | q | q | q
          all_goals
            first
              | exact Or.inl ⟨by omega, rfl, mo_Qr_go hT_43 (by omega)⟩
              | exact Or.inr (Or.inl ⟨by omega, by omega, rfl, mo_Qr_go hT_43 (by omega)⟩)
              | (exfalso; omega)
    · skip
      refine mo_iconst (pc := 21) X dX5_addOrder_21 ?_
      refine mo_goto (pc := 22) (tgt := 26) X dX5_addOrder_22 (by decide) ?_
      refine mo_al0 (pc := 26) X dX5_addOrder_26 ?_
      refine mo_f_X5_7 (pc := 27) X dX5_addOrder_27 (mo_Md_o hm) (mo_Md_p0 hm) ?_
      refine mo_iconst (pc := 30) X dX5_addOrder_30 ?_
      refine mo_iald (pc := 31) (j := 4) X dX5_addOrder_31 (mo_Md_r0 hm) (by omega) ?_ ?_ rfl ?_
      · omega
      · omega
      refine mo_bipush (pc := 32) X dX5_addOrder_32 (by decide) ?_
      refine mo_ic_ge (pc := 34) (tgt := 41) X dX5_addOrder_34 (by decide) ?_ ?_ (fun c_34 => ?_) (fun c_34 => ?_)
      · omega
      · omega
      · skip
        refine mo_iconst (pc := 41) X dX5_addOrder_41 ?_
        refine mo_iconst (pc := 42) X dX5_addOrder_42 ?_
        refine mo_cVI (pc := 43) (As := [_, _, _]) X mo_k_X5_58 mo_y_yX5_goes rfl dX5_addOrder_43 (ct5_goes hm (by omega) (by omega) (by omega)) (mo_Md_o hm) rfl (by decide) (by decide) (Nat.le_of_ble_eq_true rfl) ?_
        rintro r_43 M_43 ⟨T_43, hT_43, h_43⟩
        have eg_43 : M_43 (m + 1) = M (m + 1) := by rw [hT_43, mo_ur_n (by omega)]
        have es_43 : M_43 m 2 = M m 2 := by rw [hT_43, mo_ur_s, mo_up_n (by omega)]
        refine mo_if_ne (pc := 46) (tgt := 51) X dX5_addOrder_46 (by decide) ?_ (fun c_46 => ?_) (fun c_46 => ?_)
        · omega
        · skip
          refine mo_al0 (pc := 51) X dX5_addOrder_51 ?_
          refine mo_cVV (pc := 52) (As := []) X mo_k_X5_62 mo_y_yX5_save rfl dX5_addOrder_52 (ct5_save (n := n) hm (by rw [es_43]; exact hs) hn4) (mo_Md_o hm) rfl (by decide) (by decide) (Nat.le_of_ble_eq_true rfl) ?_
          rintro M_52 h_52
          have eg_52 : M_52 (m + 1) = M (m + 1) := by rw [h_52.2.2.2.2 _ (by omega) (by omega), eg_43]
          refine mo_al0 (pc := 55) X dX5_addOrder_55 ?_
          refine mo_f_X5_7 (pc := 56) X dX5_addOrder_56 (mo_Md_o hm) (mo_Md_p0 hm) ?_
          refine mo_iconst (pc := 59) X dX5_addOrder_59 ?_
          refine mo_iald (pc := 60) (j := 4) X dX5_addOrder_60 (mo_Md_r0 hm) (by omega) ?_ ?_ rfl ?_
          · omega
          · omega
          rw [eg_52, hon]
          refine mo_is3 (pc := 61) X dX5_addOrder_61 rfl (by decide) ?_
          refine mo_iconst (pc := 62) X dX5_addOrder_62 ?_
          refine mo_is4 (pc := 63) X dX5_addOrder_63 rfl (by decide) ?_
          have h0 := lp1 20 0 0 M_52 (M (m + 1)) (by omega) (by omega) rfl (fun j => by rw [if_neg (by omega)]) (fun Mw hMw => Or.inr (Or.inr ⟨by omega, by omega, by omega, mo_Ur_of hT_43 (by omega) h_52 (by rw [hMw, mo_ur_s]; exact mo_ag_rf _) (fun a q => by rw [hMw, mo_ur_n (by omega)])⟩))
          rw [← eg_52, mo_ur_id] at h0
          exact h0
        · skip
          refine mo_iconst (pc := 49) X dX5_addOrder_49 ?_
          refine mo_iret (pc := 50) X Y rfl dX5_addOrder_50 ⟨rfl, rfl, _, rfl, ?_⟩
          rcases h_43 with q | q | q | q
          all_goals
            first
              | exact Or.inl ⟨by omega, rfl, mo_Qr_go hT_43 (by omega)⟩
              | exact Or.inr (Or.inl ⟨by omega, by omega, rfl, mo_Qr_go hT_43 (by omega)⟩)
              | (exfalso; omega)
      · skip
        refine mo_iconst (pc := 37) X dX5_addOrder_37 ?_
        refine mo_goto (pc := 38) (tgt := 42) X dX5_addOrder_38 (by decide) ?_
        refine mo_iconst (pc := 42) X dX5_addOrder_42 ?_
        refine mo_cVI (pc := 43) (As := [_, _, _]) X mo_k_X5_58 mo_y_yX5_goes rfl dX5_addOrder_43 (ct5_goes hm (by omega) (by omega) (by omega)) (mo_Md_o hm) rfl (by decide) (by decide) (Nat.le_of_ble_eq_true rfl) ?_
        rintro r_43 M_43 ⟨T_43, hT_43, h_43⟩
        have eg_43 : M_43 (m + 1) = M (m + 1) := by rw [hT_43, mo_ur_n (by omega)]
        have es_43 : M_43 m 2 = M m 2 := by rw [hT_43, mo_ur_s, mo_up_n (by omega)]
        refine mo_if_ne (pc := 46) (tgt := 51) X dX5_addOrder_46 (by decide) ?_ (fun c_46 => ?_) (fun c_46 => ?_)
        · omega
        · skip
          refine mo_al0 (pc := 51) X dX5_addOrder_51 ?_
          refine mo_cVV (pc := 52) (As := []) X mo_k_X5_62 mo_y_yX5_save rfl dX5_addOrder_52 (ct5_save (n := n) hm (by rw [es_43]; exact hs) hn4) (mo_Md_o hm) rfl (by decide) (by decide) (Nat.le_of_ble_eq_true rfl) ?_
          rintro M_52 h_52
          have eg_52 : M_52 (m + 1) = M (m + 1) := by rw [h_52.2.2.2.2 _ (by omega) (by omega), eg_43]
          refine mo_al0 (pc := 55) X dX5_addOrder_55 ?_
          refine mo_f_X5_7 (pc := 56) X dX5_addOrder_56 (mo_Md_o hm) (mo_Md_p0 hm) ?_
          refine mo_iconst (pc := 59) X dX5_addOrder_59 ?_
          refine mo_iald (pc := 60) (j := 4) X dX5_addOrder_60 (mo_Md_r0 hm) (by omega) ?_ ?_ rfl ?_
          · omega
          · omega
          rw [eg_52, hon]
          refine mo_is3 (pc := 61) X dX5_addOrder_61 rfl (by decide) ?_
          refine mo_iconst (pc := 62) X dX5_addOrder_62 ?_
          refine mo_is4 (pc := 63) X dX5_addOrder_63 rfl (by decide) ?_
          have h0 := lp1 20 0 0 M_52 (M (m + 1)) (by omega) (by omega) rfl (fun j => by rw [if_neg (by omega)]) (fun Mw hMw => Or.inr (Or.inr ⟨by omega, by omega, by omega, mo_Ur_of hT_43 (by omega) h_52 (by rw [hMw, mo_ur_s]; exact mo_ag_rf _) (fun a q => by rw [hMw, mo_ur_n (by omega)])⟩))
          rw [← eg_52, mo_ur_id] at h0
          exact h0
        · skip
          refine mo_iconst (pc := 49) X dX5_addOrder_49 ?_
          refine mo_iret (pc := 50) X Y rfl dX5_addOrder_50 ⟨rfl, rfl, _, rfl, ?_⟩
          rcases h_43 with q | q | q | q
          all_goals
            first
              | exact Or.inl ⟨by omega, rfl, mo_Qr_go hT_43 (by omega)⟩
              | exact Or.inr (Or.inl ⟨by omega, by omega, rfl, mo_Qr_go hT_43 (by omega)⟩)
              | (exfalso; omega)
set_option maxHeartbeats 4000000 in
set_option maxRecDepth 100000 in
theorem ct5_change {lf : Launch} {ρf : mo_E} {G : mo_G} {M : mo_M} {t : Nat} {m : Nat} (hm : mo_Md G m) {B p w h : Int} (hI : mo_Iv (M (m + 1)) B) (hB : B ≤ 800000000) {n : Nat} (hs : M m 2 = n) (hn4 : n ≤ 4) (hp : mo_In p) (hw : mo_In w) (hh : mo_In h) : mo_Ct lf ρf yX5_change cX5_change 5 (some .int) 2 0 0 [.ref m, mo_iv p, mo_iv w, mo_iv h] G M t (mo_pi G t (fun x M' => (¬ (0 ≤ p ∧ p < M (m + 1) 4) ∧ x = 0 ∧ mo_Qr M M' m 1) ∨ ((0 ≤ p ∧ p < M (m + 1) 4) ∧ ¬ ((M (m + 1) 0 ≤ w ∧ w ≤ 19) ∧ (0 ≤ h ∧ h ≤ 7)) ∧ x = 0 ∧ mo_Qr M M' m 2) ∨ ((0 ≤ p ∧ p < M (m + 1) 4) ∧ ((M (m + 1) 0 ≤ w ∧ w ≤ 19) ∧ (0 ≤ h ∧ h ≤ 7)) ∧ x = M (m + 1) (8 + 20 * p.toNat + w.toNat) ∧ mo_Ur M M' m n (mo_gCH (M (m + 1)) p.toNat w.toNat h)))) := by
  refine mo_ofW (ls0 := [some (.ref m), some (mo_iv p), some (mo_iv w), some (mo_iv h), none]) (by decide) rfl (Nat.le_of_ble_eq_true rfl) ?_
  intro κ X Y
  have X : mo_Cx κ lf ρf cX5_change 5 RX5 (some .int) 2 := X
  obtain ⟨hI0, hI1, hI2, hI3, hI4, hI5, hI6, hI7, hIh, hIa, hIe, hIm, hIs, hIl, hIw, hIr, hIt, hIs2, hIs3, hIz⟩ := id hI
  have hn : ((mo_nk (M (m + 1)) : Nat) : Int) = M (m + 1) 7 := by unfold mo_nk; omega
  refine mo_al0 (pc := 0) X dX5_change_0 ?_
  refine mo_al0 (pc := 1) X dX5_change_1 ?_
  refine mo_il1 (pc := 2) X dX5_change_2 ?_
  refine mo_cVI (pc := 3) (As := [_]) X mo_k_X5_65 mo_y_yX5_isOrder rfl dX5_change_3 (ct5_isOrder hm hp (by omega)) (mo_Md_o hm) rfl (by decide) (by decide) (Nat.le_of_ble_eq_true rfl) ?_
  rintro r_3 _ ⟨h_3, rfl⟩
  refine mo_al0 (pc := 6) X dX5_change_6 ?_
  refine mo_il2 (pc := 7) X dX5_change_7 ?_
  refine mo_il3 (pc := 8) X dX5_change_8 ?_
  refine mo_cVI (pc := 9) (As := [_, _]) X mo_k_X5_68 mo_y_yX5_mayChange rfl dX5_change_9 (ct5_mayChange hm hw hh (by omega)) (mo_Md_o hm) rfl (by decide) (by decide) (Nat.le_of_ble_eq_true rfl) ?_
  rintro r_9 _ ⟨h_9, rfl⟩
  refine mo_iconst (pc := 12) X dX5_change_12 ?_
  refine mo_cVI (pc := 13) (As := [_, _, _]) X mo_k_X5_58 mo_y_yX5_goes rfl dX5_change_13 (ct5_goes hm (by omega) (by omega) (by omega)) (mo_Md_o hm) rfl (by decide) (by decide) (Nat.le_of_ble_eq_true rfl) ?_
  rintro r_13 M_13 ⟨T_13, hT_13, h_13⟩
  have eg_13 : M_13 (m + 1) = M (m + 1) := by rw [hT_13, mo_ur_n (by omega)]
  have es_13 : M_13 m 2 = M m 2 := by rw [hT_13, mo_ur_s, mo_up_n (by omega)]
  refine mo_if_ne (pc := 16) (tgt := 21) X dX5_change_16 (by decide) ?_ (fun c_16 => ?_) (fun c_16 => ?_)
  · omega
  · skip
    obtain ⟨pn, rfl⟩ := Int.eq_ofNat_of_zero_le (show 0 ≤ p by omega)
    obtain ⟨wn, rfl⟩ := Int.eq_ofNat_of_zero_le (show 0 ≤ w by omega)
    try simp only [Int.toNat_natCast]
    refine mo_al0 (pc := 21) X dX5_change_21 ?_
    refine mo_cVV (pc := 22) (As := []) X mo_k_X5_62 mo_y_yX5_save rfl dX5_change_22 (ct5_save (n := n) hm (by rw [es_13]; exact hs) hn4) (mo_Md_o hm) rfl (by decide) (by decide) (Nat.le_of_ble_eq_true rfl) ?_
    rintro M_22 h_22
    have eg_22 : M_22 (m + 1) = M (m + 1) := by rw [h_22.2.2.2.2 _ (by omega) (by omega), eg_13]
    refine mo_al0 (pc := 25) X dX5_change_25 ?_
    refine mo_f_X5_7 (pc := 26) X dX5_change_26 (mo_Md_o hm) (mo_Md_p0 hm) ?_
    refine mo_bipush (pc := 29) X dX5_change_29 (by decide) ?_
    refine mo_bipush (pc := 31) X dX5_change_31 (by decide) ?_
    refine mo_il1 (pc := 33) X dX5_change_33 ?_
    refine mo_imul (pc := 34) X dX5_change_34 ?_
    refine mo_iadd (pc := 35) X dX5_change_35 ?_
    refine mo_il2 (pc := 36) X dX5_change_36 ?_
    refine mo_iadd (pc := 37) X dX5_change_37 ?_
    refine mo_iald (pc := 38) (j := 8 + 20 * pn + wn) X dX5_change_38 (mo_Md_r0 hm) (by omega) ?_ ?_ (by omega) ?_
    · omega
    · omega
    rw [eg_22]
    refine mo_is4 (pc := 39) X dX5_change_39 rfl (by decide) ?_
    refine mo_al0 (pc := 41) X dX5_change_41 ?_
    refine mo_il1 (pc := 42) X dX5_change_42 ?_
    refine mo_il2 (pc := 43) X dX5_change_43 ?_
    refine mo_il3 (pc := 44) X dX5_change_44 ?_
    refine mo_cVV (pc := 45) (As := [_, _, _]) X mo_k_X5_72 mo_y_yX5_changes rfl dX5_change_45 (ct5_changes (o := pn) (w := wn) (h := h) hm (by omega) (by omega)) (mo_Md_o hm) rfl (by decide) (by decide) (Nat.le_of_ble_eq_true rfl) ?_
    rintro M_45 h_45
    rw [eg_22] at h_45
    refine mo_il4 (pc := 48) X dX5_change_48 ?_
    refine mo_iret (pc := 50) X Y rfl dX5_change_50 ⟨rfl, rfl, _, rfl, ?_⟩
    refine Or.inr (Or.inr ⟨by omega, by omega, ?_, ?_⟩)
    · simp only [Int.toNat_natCast]
    · exact mo_Ur_of hT_13 (by omega) h_22 (by rw [h_45, mo_ur_s]; simp only [Int.toNat_natCast]; exact mo_ag_rf _) (fun a q => by rw [h_45, mo_ur_n (by omega)])
  · skip
    refine mo_iconst (pc := 19) X dX5_change_19 ?_
    refine mo_iret (pc := 20) X Y rfl dX5_change_20 ⟨rfl, rfl, _, rfl, ?_⟩
    rcases h_13 with q | q | q | q
    all_goals
      first
        | exact Or.inl ⟨by omega, rfl, mo_Qr_go hT_13 (by omega)⟩
        | exact Or.inr (Or.inl ⟨by omega, by omega, rfl, mo_Qr_go hT_13 (by omega)⟩)
        | (exfalso; omega)
set_option maxHeartbeats 4000000 in
set_option maxRecDepth 100000 in
theorem ct5_exchange {lf : Launch} {ρf : mo_E} {G : mo_G} {M : mo_M} {t : Nat} {m : Nat} (hm : mo_Md G m) {p : Nat} {v : Int} {n : Nat} (hs : M m 2 = n) (hn4 : n ≤ 4) (hp : p < 640) : mo_Ct lf ρf yX5_exchange cX5_exchange 4 (some .int) 1 0 0 [.ref m, mo_iv p, mo_iv v] G M t (mo_pi G t (fun x M' => x = M (m + 1) p ∧ ∃ M2, mo_Sv M M2 m n ∧ M' = mo_ur M2 (m + 1) (va_up (M (m + 1)) p v))) := by
  refine mo_ofW (ls0 := [some (.ref m), some (mo_iv p), some (mo_iv v), none]) (by decide) rfl (Nat.le_of_ble_eq_true rfl) ?_
  intro κ X Y
  have X : mo_Cx κ lf ρf cX5_exchange 4 RX5 (some .int) 1 := X
  refine mo_al0 (pc := 0) X dX5_exchange_0 ?_
  refine mo_cVV (pc := 1) (As := []) X mo_k_X5_62 mo_y_yX5_save rfl dX5_exchange_1 (ct5_save (n := n) hm hs hn4) (mo_Md_o hm) rfl (by decide) (by decide) (Nat.le_of_ble_eq_true rfl) ?_
  rintro M_1 h_1
  have eg : M_1 (m + 1) = M (m + 1) := h_1.2.2.2.2 _ (by omega) (by omega)
  refine mo_al0 (pc := 4) X dX5_exchange_4 ?_
  refine mo_f_X5_7 (pc := 5) X dX5_exchange_5 (mo_Md_o hm) (mo_Md_p0 hm) ?_
  refine mo_il1 (pc := 8) X dX5_exchange_8 ?_
  refine mo_iald (pc := 9) (j := p) X dX5_exchange_9 (mo_Md_r0 hm) (by omega) ?_ ?_ (by omega) ?_
  · omega
  · omega
  rw [eg]
  refine mo_is3 (pc := 10) X dX5_exchange_10 rfl (by decide) ?_
  refine mo_al0 (pc := 11) X dX5_exchange_11 ?_
  refine mo_f_X5_7 (pc := 12) X dX5_exchange_12 (mo_Md_o hm) (mo_Md_p0 hm) ?_
  refine mo_il1 (pc := 15) X dX5_exchange_15 ?_
  refine mo_il2 (pc := 16) X dX5_exchange_16 ?_
  refine mo_iast (pc := 17) (j := p) X dX5_exchange_17 (mo_Md_r0 hm) (by omega) ?_ ?_ (by omega) ?_
  · omega
  · omega
  rw [eg]
  refine mo_il3 (pc := 18) X dX5_exchange_18 ?_
  refine mo_iret (pc := 19) X Y rfl dX5_exchange_19 ⟨rfl, rfl, _, rfl, ?_⟩
  exact ⟨rfl, M_1, h_1, rfl⟩
set_option maxHeartbeats 4000000 in
set_option maxRecDepth 100000 in
theorem ct5_allow {lf : Launch} {ρf : mo_E} {G : mo_G} {M : mo_M} {t : Nat} {m : Nat} (hm : mo_Md G m) {B p v : Int} (hI : mo_Iv (M (m + 1)) B) (hB : B ≤ 800000000) {n : Nat} (hs : M m 2 = n) (hn4 : n ≤ 4) (hp : mo_In p) (hv : mo_In v) : mo_Ct lf ρf yX5_allow cX5_allow 3 (some .int) 2 0 0 [.ref m, mo_iv p, mo_iv v] G M t (mo_pi G t (fun x M' => (¬ (0 ≤ p ∧ p < M (m + 1) 4) ∧ x = 0 ∧ mo_Qr M M' m 1) ∨ ((0 ≤ p ∧ p < M (m + 1) 4) ∧ ¬ (0 ≤ v ∧ v < 2 ^ (M (m + 1) 6).toNat) ∧ x = 0 ∧ mo_Qr M M' m 2) ∨ ((0 ≤ p ∧ p < M (m + 1) 4) ∧ (0 ≤ v ∧ v < 2 ^ (M (m + 1) 6).toNat) ∧ x = M (m + 1) (168 + p.toNat) ∧ mo_Ur M M' m n (va_up (M (m + 1)) (168 + p.toNat) v)))) := by
  refine mo_ofW (ls0 := [some (.ref m), some (mo_iv p), some (mo_iv v)]) (by decide) rfl (Nat.le_of_ble_eq_true rfl) ?_
  intro κ X Y
  have X : mo_Cx κ lf ρf cX5_allow 3 RX5 (some .int) 2 := X
  obtain ⟨hI0, hI1, hI2, hI3, hI4, hI5, hI6, hI7, hIh, hIa, hIe, hIm, hIs, hIl, hIw, hIr, hIt, hIs2, hIs3, hIz⟩ := id hI
  have hn : ((mo_nk (M (m + 1)) : Nat) : Int) = M (m + 1) 7 := by unfold mo_nk; omega
  refine mo_al0 (pc := 0) X dX5_allow_0 ?_
  refine mo_al0 (pc := 1) X dX5_allow_1 ?_
  refine mo_il1 (pc := 2) X dX5_allow_2 ?_
  refine mo_cVI (pc := 3) (As := [_]) X mo_k_X5_65 mo_y_yX5_isOrder rfl dX5_allow_3 (ct5_isOrder hm hp (by omega)) (mo_Md_o hm) rfl (by decide) (by decide) (Nat.le_of_ble_eq_true rfl) ?_
  rintro r_3 _ ⟨h_3, rfl⟩
  refine mo_al0 (pc := 6) X dX5_allow_6 ?_
  refine mo_il2 (pc := 7) X dX5_allow_7 ?_
  refine mo_cVI (pc := 8) (As := [_]) X mo_k_X5_54 mo_y_yX5_areVenues rfl dX5_allow_8 (ct5_areVenues hm hv hI6) (mo_Md_o hm) rfl (by decide) (by decide) (Nat.le_of_ble_eq_true rfl) ?_
  rintro r_8 _ ⟨h_8, rfl⟩
  refine mo_iconst (pc := 11) X dX5_allow_11 ?_
  refine mo_cVI (pc := 12) (As := [_, _, _]) X mo_k_X5_58 mo_y_yX5_goes rfl dX5_allow_12 (ct5_goes hm (by omega) (by omega) (by omega)) (mo_Md_o hm) rfl (by decide) (by decide) (Nat.le_of_ble_eq_true rfl) ?_
  rintro r_12 M_12 ⟨T_12, hT_12, h_12⟩
  have eg_12 : M_12 (m + 1) = M (m + 1) := by rw [hT_12, mo_ur_n (by omega)]
  have es_12 : M_12 m 2 = M m 2 := by rw [hT_12, mo_ur_s, mo_up_n (by omega)]
  refine mo_if_eq (pc := 15) (tgt := 31) X dX5_allow_15 (by decide) ?_ (fun c_15 => ?_) (fun c_15 => ?_)
  · omega
  · skip
    refine mo_iconst (pc := 31) X dX5_allow_31 ?_
    refine mo_iret (pc := 32) X Y rfl dX5_allow_32 ⟨rfl, rfl, _, rfl, ?_⟩
    first
      | (rcases h_12 with q | q | q | q
         all_goals
           first
             | exact Or.inl ⟨by omega, rfl, mo_Qr_go hT_12 (by omega)⟩
             | exact Or.inr (Or.inl ⟨by omega, by omega, rfl, mo_Qr_go hT_12 (by omega)⟩)
             | (exfalso; omega))
      | (refine Or.inr (Or.inr ⟨by omega, by omega, ?_, ?_⟩)
         · simp only [Int.toNat_natCast]; exact h_25
         · exact mo_Ur_of hT_12 (by omega) hsv (by rw [hM_25, mo_ur_s]; simp only [Int.toNat_natCast]; exact mo_ag_rf _) (fun a q => by rw [hM_25, mo_ur_n (by omega)]))
  · skip
    refine mo_al0 (pc := 18) X dX5_allow_18 ?_
    refine mo_sipush (pc := 19) X dX5_allow_19 (by decide) ?_
    refine mo_il1 (pc := 22) X dX5_allow_22 ?_
    refine mo_iadd (pc := 23) X dX5_allow_23 ?_
    refine mo_il2 (pc := 24) X dX5_allow_24 ?_
    obtain ⟨pn, rfl⟩ := Int.eq_ofNat_of_zero_le (show 0 ≤ p by omega)
    rw [show (168 : Int) + (pn : Int) = ((168 + pn : Nat) : Int) by omega]
    refine mo_cVI (pc := 25) (As := [_, _]) X mo_k_X5_76 mo_y_yX5_exchange rfl dX5_allow_25 (ct5_exchange (p := 168 + pn) (n := n) hm (by rw [es_12]; exact hs) hn4 (by omega)) (mo_Md_o hm) rfl (by decide) (by decide) (Nat.le_of_ble_eq_true rfl) ?_
    rintro r_25 M_25 ⟨h_25, M2, hsv, hM_25⟩
    rw [eg_12] at h_25 hM_25
    refine mo_goto (pc := 28) (tgt := 32) X dX5_allow_28 (by decide) ?_
    refine mo_iret (pc := 32) X Y rfl dX5_allow_32 ⟨rfl, rfl, _, rfl, ?_⟩
    first
      | (rcases h_12 with q | q | q | q
         all_goals
           first
             | exact Or.inl ⟨by omega, rfl, mo_Qr_go hT_12 (by omega)⟩
             | exact Or.inr (Or.inl ⟨by omega, by omega, rfl, mo_Qr_go hT_12 (by omega)⟩)
             | (exfalso; omega))
      | (refine Or.inr (Or.inr ⟨by omega, by omega, ?_, ?_⟩)
         · simp only [Int.toNat_natCast]; exact h_25
         · exact mo_Ur_of hT_12 (by omega) hsv (by rw [hM_25, mo_ur_s]; simp only [Int.toNat_natCast]; exact mo_ag_rf _) (fun a q => by rw [hM_25, mo_ur_n (by omega)]))
set_option maxHeartbeats 4000000 in
set_option maxRecDepth 100000 in
theorem ct5_setSlots {lf : Launch} {ρf : mo_E} {G : mo_G} {M : mo_M} {t : Nat} {m : Nat} (hm : mo_Md G m) {B p v : Int} (hI : mo_Iv (M (m + 1)) B) (hB : B ≤ 800000000) {n : Nat} (hs : M m 2 = n) (hn4 : n ≤ 4) (hp : mo_In p) (hv : mo_In v) : mo_Ct lf ρf yX5_setSlots cX5_setSlots 3 (some .int) 2 0 0 [.ref m, mo_iv p, mo_iv v] G M t (mo_pi G t (fun x M' => (¬ (0 ≤ p ∧ p < M (m + 1) 5) ∧ x = 0 ∧ mo_Qr M M' m 1) ∨ ((0 ≤ p ∧ p < M (m + 1) 5) ∧ ¬ (0 ≤ v ∧ v ≤ 268435455) ∧ x = 0 ∧ mo_Qr M M' m 2) ∨ ((0 ≤ p ∧ p < M (m + 1) 5) ∧ (0 ≤ v ∧ v ≤ 268435455) ∧ x = M (m + 1) (192 + p.toNat) ∧ mo_Ur M M' m n (va_up (M (m + 1)) (192 + p.toNat) v)))) := by
  refine mo_ofW (ls0 := [some (.ref m), some (mo_iv p), some (mo_iv v)]) (by decide) rfl (Nat.le_of_ble_eq_true rfl) ?_
  intro κ X Y
  have X : mo_Cx κ lf ρf cX5_setSlots 3 RX5 (some .int) 2 := X
  obtain ⟨hI0, hI1, hI2, hI3, hI4, hI5, hI6, hI7, hIh, hIa, hIe, hIm, hIs, hIl, hIw, hIr, hIt, hIs2, hIs3, hIz⟩ := id hI
  have hn : ((mo_nk (M (m + 1)) : Nat) : Int) = M (m + 1) 7 := by unfold mo_nk; omega
  refine mo_al0 (pc := 0) X dX5_setSlots_0 ?_
  refine mo_al0 (pc := 1) X dX5_setSlots_1 ?_
  refine mo_il1 (pc := 2) X dX5_setSlots_2 ?_
  refine mo_cVI (pc := 3) (As := [_]) X mo_k_X5_84 mo_y_yX5_isEscort rfl dX5_setSlots_3 (ct5_isEscort hm hp (by omega)) (mo_Md_o hm) rfl (by decide) (by decide) (Nat.le_of_ble_eq_true rfl) ?_
  rintro r_3 _ ⟨h_3, rfl⟩
  refine mo_il2 (pc := 6) X dX5_setSlots_6 ?_
  refine mo_i2l (pc := 7) X dX5_setSlots_7 ?_ ?_
  · omega
  refine mo_lconst (pc := 8) (z := 0) X dX5_setSlots_8 (by decide) ?_
  refine mo_ldc2 (pc := 9) (v := 268435455) X dX5_setSlots_9 mo_wk_X5_80 ?_
  refine mo_cSI (pc := 12) (As := [_, _, _]) X mo_k_X5_44 mo_y_yX5_in dX5_setSlots_12 (ct5_in (by omega) (by omega) (by omega)) rfl (by decide) (by decide) (Nat.le_of_ble_eq_true rfl) ?_
  rintro r_12 _ ⟨h_12, rfl⟩
  refine mo_iconst (pc := 15) X dX5_setSlots_15 ?_
  refine mo_cVI (pc := 16) (As := [_, _, _]) X mo_k_X5_58 mo_y_yX5_goes rfl dX5_setSlots_16 (ct5_goes hm (by omega) (by omega) (by omega)) (mo_Md_o hm) rfl (by decide) (by decide) (Nat.le_of_ble_eq_true rfl) ?_
  rintro r_16 M_16 ⟨T_16, hT_16, h_16⟩
  have eg_16 : M_16 (m + 1) = M (m + 1) := by rw [hT_16, mo_ur_n (by omega)]
  have es_16 : M_16 m 2 = M m 2 := by rw [hT_16, mo_ur_s, mo_up_n (by omega)]
  refine mo_if_eq (pc := 19) (tgt := 35) X dX5_setSlots_19 (by decide) ?_ (fun c_19 => ?_) (fun c_19 => ?_)
  · omega
  · skip
    refine mo_iconst (pc := 35) X dX5_setSlots_35 ?_
    refine mo_iret (pc := 36) X Y rfl dX5_setSlots_36 ⟨rfl, rfl, _, rfl, ?_⟩
    first
      | (rcases h_16 with q | q | q | q
         all_goals
           first
             | exact Or.inl ⟨by omega, rfl, mo_Qr_go hT_16 (by omega)⟩
             | exact Or.inr (Or.inl ⟨by omega, by omega, rfl, mo_Qr_go hT_16 (by omega)⟩)
             | (exfalso; omega))
      | (refine Or.inr (Or.inr ⟨by omega, by omega, ?_, ?_⟩)
         · simp only [Int.toNat_natCast]; exact h_29
         · exact mo_Ur_of hT_16 (by omega) hsv (by rw [hM_29, mo_ur_s]; simp only [Int.toNat_natCast]; exact mo_ag_rf _) (fun a q => by rw [hM_29, mo_ur_n (by omega)]))
  · skip
    refine mo_al0 (pc := 22) X dX5_setSlots_22 ?_
    refine mo_sipush (pc := 23) X dX5_setSlots_23 (by decide) ?_
    refine mo_il1 (pc := 26) X dX5_setSlots_26 ?_
    refine mo_iadd (pc := 27) X dX5_setSlots_27 ?_
    refine mo_il2 (pc := 28) X dX5_setSlots_28 ?_
    obtain ⟨pn, rfl⟩ := Int.eq_ofNat_of_zero_le (show 0 ≤ p by omega)
    rw [show (192 : Int) + (pn : Int) = ((192 + pn : Nat) : Int) by omega]
    refine mo_cVI (pc := 29) (As := [_, _]) X mo_k_X5_76 mo_y_yX5_exchange rfl dX5_setSlots_29 (ct5_exchange (p := 192 + pn) (n := n) hm (by rw [es_16]; exact hs) hn4 (by omega)) (mo_Md_o hm) rfl (by decide) (by decide) (Nat.le_of_ble_eq_true rfl) ?_
    rintro r_29 M_29 ⟨h_29, M2, hsv, hM_29⟩
    rw [eg_16] at h_29 hM_29
    refine mo_goto (pc := 32) (tgt := 36) X dX5_setSlots_32 (by decide) ?_
    refine mo_iret (pc := 36) X Y rfl dX5_setSlots_36 ⟨rfl, rfl, _, rfl, ?_⟩
    first
      | (rcases h_16 with q | q | q | q
         all_goals
           first
             | exact Or.inl ⟨by omega, rfl, mo_Qr_go hT_16 (by omega)⟩
             | exact Or.inr (Or.inl ⟨by omega, by omega, rfl, mo_Qr_go hT_16 (by omega)⟩)
             | (exfalso; omega))
      | (refine Or.inr (Or.inr ⟨by omega, by omega, ?_, ?_⟩)
         · simp only [Int.toNat_natCast]; exact h_29
         · exact mo_Ur_of hT_16 (by omega) hsv (by rw [hM_29, mo_ur_s]; simp only [Int.toNat_natCast]; exact mo_ag_rf _) (fun a q => by rw [hM_29, mo_ur_n (by omega)]))
set_option maxHeartbeats 4000000 in
set_option maxRecDepth 100000 in
theorem ct5_addEscort {lf : Launch} {ρf : mo_E} {G : mo_G} {M : mo_M} {t : Nat} {m : Nat} (hm : mo_Md G m) {B p v : Int} (hI : mo_Iv (M (m + 1)) B) (hB : B ≤ 800000000) {n : Nat} (hs : M m 2 = n) (hn4 : n ≤ 4) (hp : mo_In p) (hv : mo_In v) : mo_Ct lf ρf yX5_addEscort cX5_addEscort 4 (some .int) 1 0 0 [.ref m, mo_iv p, mo_iv v] G M t (mo_pi G t (fun x M' => (¬ ((0 ≤ p ∧ p ≤ 268435455) ∧ (1 ≤ v ∧ v ≤ 20)) ∧ x = 0 ∧ mo_Qr M M' m 1) ∨ (((0 ≤ p ∧ p ≤ 268435455) ∧ (1 ≤ v ∧ v ≤ 20)) ∧ ¬ (M (m + 1) 5 < 6) ∧ x = 0 ∧ mo_Qr M M' m 2) ∨ (((0 ≤ p ∧ p ≤ 268435455) ∧ (1 ≤ v ∧ v ≤ 20)) ∧ (M (m + 1) 5 < 6) ∧ x = M (m + 1) 5 ∧ mo_Ur M M' m n (mo_gAE (M (m + 1)) p v)))) := by
  refine mo_ofW (ls0 := [some (.ref m), some (mo_iv p), some (mo_iv v), none]) (by decide) rfl (Nat.le_of_ble_eq_true rfl) ?_
  intro κ X Y
  have X : mo_Cx κ lf ρf cX5_addEscort 4 RX5 (some .int) 1 := X
  obtain ⟨hI0, hI1, hI2, hI3, hI4, hI5, hI6, hI7, hIh, hIa, hIe, hIm, hIs, hIl, hIw, hIr, hIt, hIs2, hIs3, hIz⟩ := id hI
  have hn : ((mo_nk (M (m + 1)) : Nat) : Int) = M (m + 1) 7 := by unfold mo_nk; omega
  obtain ⟨en, hen⟩ := Int.eq_ofNat_of_zero_le hI5.1
  refine mo_al0 (pc := 0) X dX5_addEscort_0 ?_
  refine mo_il1 (pc := 1) X dX5_addEscort_1 ?_
  refine mo_i2l (pc := 2) X dX5_addEscort_2 ?_ ?_
  · omega
  refine mo_lconst (pc := 3) (z := 0) X dX5_addEscort_3 (by decide) ?_
  refine mo_ldc2 (pc := 4) (v := 268435455) X dX5_addEscort_4 mo_wk_X5_80 ?_
  refine mo_cSI (pc := 7) (As := [_, _, _]) X mo_k_X5_44 mo_y_yX5_in dX5_addEscort_7 (ct5_in (by omega) (by omega) (by omega)) rfl (by decide) (by decide) (Nat.le_of_ble_eq_true rfl) ?_
  rintro r_7 _ ⟨h_7, rfl⟩
  refine mo_if_eq (pc := 10) (tgt := 29) X dX5_addEscort_10 (by decide) ?_ (fun c_10 => ?_) (fun c_10 => ?_)
  · omega
  · skip
    refine mo_iconst (pc := 29) X dX5_addEscort_29 ?_
    refine mo_al0 (pc := 30) X dX5_addEscort_30 ?_
    refine mo_f_X5_7 (pc := 31) X dX5_addEscort_31 (mo_Md_o hm) (mo_Md_p0 hm) ?_
    refine mo_iconst (pc := 34) X dX5_addEscort_34 ?_
    refine mo_iald (pc := 35) (j := 5) X dX5_addEscort_35 (mo_Md_r0 hm) (by omega) ?_ ?_ rfl ?_
    · omega
    · omega
    refine mo_bipush (pc := 36) X dX5_addEscort_36 (by decide) ?_
    refine mo_ic_ge (pc := 38) (tgt := 45) X dX5_addEscort_38 (by decide) ?_ ?_ (fun c_38 => ?_) (fun c_38 => ?_)
    · omega
    · omega
    · skip
      refine mo_iconst (pc := 45) X dX5_addEscort_45 ?_
      refine mo_iconst (pc := 46) X dX5_addEscort_46 ?_
      refine mo_cVI (pc := 47) (As := [_, _, _]) X mo_k_X5_58 mo_y_yX5_goes rfl dX5_addEscort_47 (ct5_goes hm (by omega) (by omega) (by omega)) (mo_Md_o hm) rfl (by decide) (by decide) (Nat.le_of_ble_eq_true rfl) ?_
      rintro r_47 M_47 ⟨T_47, hT_47, h_47⟩
      have eg_47 : M_47 (m + 1) = M (m + 1) := by rw [hT_47, mo_ur_n (by omega)]
      have es_47 : M_47 m 2 = M m 2 := by rw [hT_47, mo_ur_s, mo_up_n (by omega)]
      refine mo_if_ne (pc := 50) (tgt := 55) X dX5_addEscort_50 (by decide) ?_ (fun c_50 => ?_) (fun c_50 => ?_)
      · omega
      · skip
        refine mo_al0 (pc := 55) X dX5_addEscort_55 ?_
        refine mo_cVV (pc := 56) (As := []) X mo_k_X5_62 mo_y_yX5_save rfl dX5_addEscort_56 (ct5_save (n := n) hm (by rw [es_47]; exact hs) hn4) (mo_Md_o hm) rfl (by decide) (by decide) (Nat.le_of_ble_eq_true rfl) ?_
        rintro M_56 h_56
        have eg_56 : M_56 (m + 1) = M (m + 1) := by rw [h_56.2.2.2.2 _ (by omega) (by omega), eg_47]
        refine mo_al0 (pc := 59) X dX5_addEscort_59 ?_
        refine mo_f_X5_7 (pc := 60) X dX5_addEscort_60 (mo_Md_o hm) (mo_Md_p0 hm) ?_
        refine mo_iconst (pc := 63) X dX5_addEscort_63 ?_
        refine mo_iald (pc := 64) (j := 5) X dX5_addEscort_64 (mo_Md_r0 hm) (by omega) ?_ ?_ rfl ?_
        · omega
        · omega
        rw [eg_56, hen]
        refine mo_is3 (pc := 65) X dX5_addEscort_65 rfl (by decide) ?_
        refine mo_al0 (pc := 66) X dX5_addEscort_66 ?_
        refine mo_f_X5_7 (pc := 67) X dX5_addEscort_67 (mo_Md_o hm) (mo_Md_p0 hm) ?_
        refine mo_sipush (pc := 70) X dX5_addEscort_70 (by decide) ?_
        refine mo_il3 (pc := 73) X dX5_addEscort_73 ?_
        refine mo_iadd (pc := 74) X dX5_addEscort_74 ?_
        refine mo_il1 (pc := 75) X dX5_addEscort_75 ?_
        refine mo_iast (pc := 76) (j := 192 + en) X dX5_addEscort_76 (mo_Md_r0 hm) (by omega) ?_ ?_ (by omega) ?_
        · omega
        · omega
        rw [eg_56]
        refine mo_al0 (pc := 77) X dX5_addEscort_77 ?_
        refine mo_f_X5_7 (pc := 78) X dX5_addEscort_78 (mo_Md_o hm) (mo_Md_p0 hm) ?_
        refine mo_sipush (pc := 81) X dX5_addEscort_81 (by decide) ?_
        refine mo_il3 (pc := 84) X dX5_addEscort_84 ?_
        refine mo_iadd (pc := 85) X dX5_addEscort_85 ?_
        refine mo_il2 (pc := 86) X dX5_addEscort_86 ?_
        refine mo_iast (pc := 87) (j := 198 + en) X dX5_addEscort_87 (mo_Md_r0 hm) (by omega) ?_ ?_ (by omega) ?_
        · omega
        · omega
        try simp only [mo_ur_ur, mo_ur_s]
        refine mo_al0 (pc := 88) X dX5_addEscort_88 ?_
        refine mo_f_X5_7 (pc := 89) X dX5_addEscort_89 (mo_Md_o hm) (mo_Md_p0 hm) ?_
        refine mo_iconst (pc := 92) X dX5_addEscort_92 ?_
        refine mo_dup2 (pc := 93) X dX5_addEscort_93 rfl rfl ?_
        refine mo_iald (pc := 94) (j := 5) X dX5_addEscort_94 (mo_Md_r0 hm) (by omega) ?_ ?_ rfl ?_
        · omega
        · omega
        try simp only [mo_ur_ur, mo_ur_s]
        rw [mo_up_n (by omega), mo_up_n (by omega)]
        refine mo_iconst (pc := 95) X dX5_addEscort_95 ?_
        refine mo_iadd (pc := 96) X dX5_addEscort_96 ?_
        refine mo_iast (pc := 97) (j := 5) X dX5_addEscort_97 (mo_Md_r0 hm) (by omega) ?_ ?_ rfl ?_
        · omega
        · omega
        refine mo_il3 (pc := 98) X dX5_addEscort_98 ?_
        refine mo_iret (pc := 99) X Y rfl dX5_addEscort_99 ⟨rfl, rfl, _, rfl, ?_⟩
        refine Or.inr (Or.inr ⟨by omega, by omega, ?_, ?_⟩)
        · omega
        · refine mo_Ur_of hT_47 (by omega) h_56 ?_ (fun a q => by simp only [mo_ur_ur]; rw [mo_ur_n (by omega)])
          simp only [mo_ur_s]
          unfold mo_gAE
          rw [hen, Int.toNat_natCast]
          exact mo_ag_rf _
      · skip
        refine mo_iconst (pc := 53) X dX5_addEscort_53 ?_
        refine mo_iret (pc := 54) X Y rfl dX5_addEscort_54 ⟨rfl, rfl, _, rfl, ?_⟩
        rcases h_47 with q | q | q | q
        all_goals
          first
            | exact Or.inl ⟨by omega, rfl, mo_Qr_go hT_47 (by omega)⟩
            | exact Or.inr (Or.inl ⟨by omega, by omega, rfl, mo_Qr_go hT_47 (by omega)⟩)
            | (exfalso; omega)
    · skip
      refine mo_iconst (pc := 41) X dX5_addEscort_41 ?_
      refine mo_goto (pc := 42) (tgt := 46) X dX5_addEscort_42 (by decide) ?_
      refine mo_iconst (pc := 46) X dX5_addEscort_46 ?_
      refine mo_cVI (pc := 47) (As := [_, _, _]) X mo_k_X5_58 mo_y_yX5_goes rfl dX5_addEscort_47 (ct5_goes hm (by omega) (by omega) (by omega)) (mo_Md_o hm) rfl (by decide) (by decide) (Nat.le_of_ble_eq_true rfl) ?_
      rintro r_47 M_47 ⟨T_47, hT_47, h_47⟩
      have eg_47 : M_47 (m + 1) = M (m + 1) := by rw [hT_47, mo_ur_n (by omega)]
      have es_47 : M_47 m 2 = M m 2 := by rw [hT_47, mo_ur_s, mo_up_n (by omega)]
      refine mo_if_ne (pc := 50) (tgt := 55) X dX5_addEscort_50 (by decide) ?_ (fun c_50 => ?_) (fun c_50 => ?_)
      · omega
      · skip
        refine mo_al0 (pc := 55) X dX5_addEscort_55 ?_
        refine mo_cVV (pc := 56) (As := []) X mo_k_X5_62 mo_y_yX5_save rfl dX5_addEscort_56 (ct5_save (n := n) hm (by rw [es_47]; exact hs) hn4) (mo_Md_o hm) rfl (by decide) (by decide) (Nat.le_of_ble_eq_true rfl) ?_
        rintro M_56 h_56
        have eg_56 : M_56 (m + 1) = M (m + 1) := by rw [h_56.2.2.2.2 _ (by omega) (by omega), eg_47]
        refine mo_al0 (pc := 59) X dX5_addEscort_59 ?_
        refine mo_f_X5_7 (pc := 60) X dX5_addEscort_60 (mo_Md_o hm) (mo_Md_p0 hm) ?_
        refine mo_iconst (pc := 63) X dX5_addEscort_63 ?_
        refine mo_iald (pc := 64) (j := 5) X dX5_addEscort_64 (mo_Md_r0 hm) (by omega) ?_ ?_ rfl ?_
        · omega
        · omega
        rw [eg_56, hen]
        refine mo_is3 (pc := 65) X dX5_addEscort_65 rfl (by decide) ?_
        refine mo_al0 (pc := 66) X dX5_addEscort_66 ?_
        refine mo_f_X5_7 (pc := 67) X dX5_addEscort_67 (mo_Md_o hm) (mo_Md_p0 hm) ?_
        refine mo_sipush (pc := 70) X dX5_addEscort_70 (by decide) ?_
        refine mo_il3 (pc := 73) X dX5_addEscort_73 ?_
        refine mo_iadd (pc := 74) X dX5_addEscort_74 ?_
        refine mo_il1 (pc := 75) X dX5_addEscort_75 ?_
        refine mo_iast (pc := 76) (j := 192 + en) X dX5_addEscort_76 (mo_Md_r0 hm) (by omega) ?_ ?_ (by omega) ?_
        · omega
        · omega
        rw [eg_56]
        refine mo_al0 (pc := 77) X dX5_addEscort_77 ?_
        refine mo_f_X5_7 (pc := 78) X dX5_addEscort_78 (mo_Md_o hm) (mo_Md_p0 hm) ?_
        refine mo_sipush (pc := 81) X dX5_addEscort_81 (by decide) ?_
        refine mo_il3 (pc := 84) X dX5_addEscort_84 ?_
        refine mo_iadd (pc := 85) X dX5_addEscort_85 ?_
        refine mo_il2 (pc := 86) X dX5_addEscort_86 ?_
        refine mo_iast (pc := 87) (j := 198 + en) X dX5_addEscort_87 (mo_Md_r0 hm) (by omega) ?_ ?_ (by omega) ?_
        · omega
        · omega
        try simp only [mo_ur_ur, mo_ur_s]
        refine mo_al0 (pc := 88) X dX5_addEscort_88 ?_
        refine mo_f_X5_7 (pc := 89) X dX5_addEscort_89 (mo_Md_o hm) (mo_Md_p0 hm) ?_
        refine mo_iconst (pc := 92) X dX5_addEscort_92 ?_
        refine mo_dup2 (pc := 93) X dX5_addEscort_93 rfl rfl ?_
        refine mo_iald (pc := 94) (j := 5) X dX5_addEscort_94 (mo_Md_r0 hm) (by omega) ?_ ?_ rfl ?_
        · omega
        · omega
        try simp only [mo_ur_ur, mo_ur_s]
        rw [mo_up_n (by omega), mo_up_n (by omega)]
        refine mo_iconst (pc := 95) X dX5_addEscort_95 ?_
        refine mo_iadd (pc := 96) X dX5_addEscort_96 ?_
        refine mo_iast (pc := 97) (j := 5) X dX5_addEscort_97 (mo_Md_r0 hm) (by omega) ?_ ?_ rfl ?_
        · omega
        · omega
        refine mo_il3 (pc := 98) X dX5_addEscort_98 ?_
        refine mo_iret (pc := 99) X Y rfl dX5_addEscort_99 ⟨rfl, rfl, _, rfl, ?_⟩
        refine Or.inr (Or.inr ⟨by omega, by omega, ?_, ?_⟩)
        · omega
        · refine mo_Ur_of hT_47 (by omega) h_56 ?_ (fun a q => by simp only [mo_ur_ur]; rw [mo_ur_n (by omega)])
          simp only [mo_ur_s]
          unfold mo_gAE
          rw [hen, Int.toNat_natCast]
          exact mo_ag_rf _
      · skip
        refine mo_iconst (pc := 53) X dX5_addEscort_53 ?_
        refine mo_iret (pc := 54) X Y rfl dX5_addEscort_54 ⟨rfl, rfl, _, rfl, ?_⟩
        rcases h_47 with q | q | q | q
        all_goals
          first
            | exact Or.inl ⟨by omega, rfl, mo_Qr_go hT_47 (by omega)⟩
            | exact Or.inr (Or.inl ⟨by omega, by omega, rfl, mo_Qr_go hT_47 (by omega)⟩)
            | (exfalso; omega)
  · skip
    refine mo_il2 (pc := 13) X dX5_addEscort_13 ?_
    refine mo_i2l (pc := 14) X dX5_addEscort_14 ?_ ?_
    · omega
    refine mo_lconst (pc := 15) (z := 1) X dX5_addEscort_15 (by decide) ?_
    refine mo_ldc2 (pc := 16) (v := 20) X dX5_addEscort_16 mo_wk_X5_82 ?_
    refine mo_cSI (pc := 19) (As := [_, _, _]) X mo_k_X5_44 mo_y_yX5_in dX5_addEscort_19 (ct5_in (by omega) (by omega) (by omega)) rfl (by decide) (by decide) (Nat.le_of_ble_eq_true rfl) ?_
    rintro r_19 _ ⟨h_19, rfl⟩
    refine mo_if_eq (pc := 22) (tgt := 29) X dX5_addEscort_22 (by decide) ?_ (fun c_22 => ?_) (fun c_22 => ?_)
    · omega
    · skip
      refine mo_iconst (pc := 29) X dX5_addEscort_29 ?_
      refine mo_al0 (pc := 30) X dX5_addEscort_30 ?_
      refine mo_f_X5_7 (pc := 31) X dX5_addEscort_31 (mo_Md_o hm) (mo_Md_p0 hm) ?_
      refine mo_iconst (pc := 34) X dX5_addEscort_34 ?_
      refine mo_iald (pc := 35) (j := 5) X dX5_addEscort_35 (mo_Md_r0 hm) (by omega) ?_ ?_ rfl ?_
      · omega
      · omega
      refine mo_bipush (pc := 36) X dX5_addEscort_36 (by decide) ?_
      refine mo_ic_ge (pc := 38) (tgt := 45) X dX5_addEscort_38 (by decide) ?_ ?_ (fun c_38 => ?_) (fun c_38 => ?_)
      · omega
      · omega
      · skip
        refine mo_iconst (pc := 45) X dX5_addEscort_45 ?_
        refine mo_iconst (pc := 46) X dX5_addEscort_46 ?_
        refine mo_cVI (pc := 47) (As := [_, _, _]) X mo_k_X5_58 mo_y_yX5_goes rfl dX5_addEscort_47 (ct5_goes hm (by omega) (by omega) (by omega)) (mo_Md_o hm) rfl (by decide) (by decide) (Nat.le_of_ble_eq_true rfl) ?_
        rintro r_47 M_47 ⟨T_47, hT_47, h_47⟩
        have eg_47 : M_47 (m + 1) = M (m + 1) := by rw [hT_47, mo_ur_n (by omega)]
        have es_47 : M_47 m 2 = M m 2 := by rw [hT_47, mo_ur_s, mo_up_n (by omega)]
        refine mo_if_ne (pc := 50) (tgt := 55) X dX5_addEscort_50 (by decide) ?_ (fun c_50 => ?_) (fun c_50 => ?_)
        · omega
        · skip
          refine mo_al0 (pc := 55) X dX5_addEscort_55 ?_
          refine mo_cVV (pc := 56) (As := []) X mo_k_X5_62 mo_y_yX5_save rfl dX5_addEscort_56 (ct5_save (n := n) hm (by rw [es_47]; exact hs) hn4) (mo_Md_o hm) rfl (by decide) (by decide) (Nat.le_of_ble_eq_true rfl) ?_
          rintro M_56 h_56
          have eg_56 : M_56 (m + 1) = M (m + 1) := by rw [h_56.2.2.2.2 _ (by omega) (by omega), eg_47]
          refine mo_al0 (pc := 59) X dX5_addEscort_59 ?_
          refine mo_f_X5_7 (pc := 60) X dX5_addEscort_60 (mo_Md_o hm) (mo_Md_p0 hm) ?_
          refine mo_iconst (pc := 63) X dX5_addEscort_63 ?_
          refine mo_iald (pc := 64) (j := 5) X dX5_addEscort_64 (mo_Md_r0 hm) (by omega) ?_ ?_ rfl ?_
          · omega
          · omega
          rw [eg_56, hen]
          refine mo_is3 (pc := 65) X dX5_addEscort_65 rfl (by decide) ?_
          refine mo_al0 (pc := 66) X dX5_addEscort_66 ?_
          refine mo_f_X5_7 (pc := 67) X dX5_addEscort_67 (mo_Md_o hm) (mo_Md_p0 hm) ?_
          refine mo_sipush (pc := 70) X dX5_addEscort_70 (by decide) ?_
          refine mo_il3 (pc := 73) X dX5_addEscort_73 ?_
          refine mo_iadd (pc := 74) X dX5_addEscort_74 ?_
          refine mo_il1 (pc := 75) X dX5_addEscort_75 ?_
          refine mo_iast (pc := 76) (j := 192 + en) X dX5_addEscort_76 (mo_Md_r0 hm) (by omega) ?_ ?_ (by omega) ?_
          · omega
          · omega
          rw [eg_56]
          refine mo_al0 (pc := 77) X dX5_addEscort_77 ?_
          refine mo_f_X5_7 (pc := 78) X dX5_addEscort_78 (mo_Md_o hm) (mo_Md_p0 hm) ?_
          refine mo_sipush (pc := 81) X dX5_addEscort_81 (by decide) ?_
          refine mo_il3 (pc := 84) X dX5_addEscort_84 ?_
          refine mo_iadd (pc := 85) X dX5_addEscort_85 ?_
          refine mo_il2 (pc := 86) X dX5_addEscort_86 ?_
          refine mo_iast (pc := 87) (j := 198 + en) X dX5_addEscort_87 (mo_Md_r0 hm) (by omega) ?_ ?_ (by omega) ?_
          · omega
          · omega
          try simp only [mo_ur_ur, mo_ur_s]
          refine mo_al0 (pc := 88) X dX5_addEscort_88 ?_
          refine mo_f_X5_7 (pc := 89) X dX5_addEscort_89 (mo_Md_o hm) (mo_Md_p0 hm) ?_
          refine mo_iconst (pc := 92) X dX5_addEscort_92 ?_
          refine mo_dup2 (pc := 93) X dX5_addEscort_93 rfl rfl ?_
          refine mo_iald (pc := 94) (j := 5) X dX5_addEscort_94 (mo_Md_r0 hm) (by omega) ?_ ?_ rfl ?_
          · omega
          · omega
          try simp only [mo_ur_ur, mo_ur_s]
          rw [mo_up_n (by omega), mo_up_n (by omega)]
          refine mo_iconst (pc := 95) X dX5_addEscort_95 ?_
          refine mo_iadd (pc := 96) X dX5_addEscort_96 ?_
          refine mo_iast (pc := 97) (j := 5) X dX5_addEscort_97 (mo_Md_r0 hm) (by omega) ?_ ?_ rfl ?_
          · omega
          · omega
          refine mo_il3 (pc := 98) X dX5_addEscort_98 ?_
          refine mo_iret (pc := 99) X Y rfl dX5_addEscort_99 ⟨rfl, rfl, _, rfl, ?_⟩
          refine Or.inr (Or.inr ⟨by omega, by omega, ?_, ?_⟩)
          · omega
          · refine mo_Ur_of hT_47 (by omega) h_56 ?_ (fun a q => by simp only [mo_ur_ur]; rw [mo_ur_n (by omega)])
            simp only [mo_ur_s]
            unfold mo_gAE
            rw [hen, Int.toNat_natCast]
            exact mo_ag_rf _
        · skip
          refine mo_iconst (pc := 53) X dX5_addEscort_53 ?_
          refine mo_iret (pc := 54) X Y rfl dX5_addEscort_54 ⟨rfl, rfl, _, rfl, ?_⟩
          rcases h_47 with q | q | q | q
          all_goals
            first
              | exact Or.inl ⟨by omega, rfl, mo_Qr_go hT_47 (by omega)⟩
              | exact Or.inr (Or.inl ⟨by omega, by omega, rfl, mo_Qr_go hT_47 (by omega)⟩)
              | (exfalso; omega)
      · skip
        refine mo_iconst (pc := 41) X dX5_addEscort_41 ?_
        refine mo_goto (pc := 42) (tgt := 46) X dX5_addEscort_42 (by decide) ?_
        refine mo_iconst (pc := 46) X dX5_addEscort_46 ?_
        refine mo_cVI (pc := 47) (As := [_, _, _]) X mo_k_X5_58 mo_y_yX5_goes rfl dX5_addEscort_47 (ct5_goes hm (by omega) (by omega) (by omega)) (mo_Md_o hm) rfl (by decide) (by decide) (Nat.le_of_ble_eq_true rfl) ?_
        rintro r_47 M_47 ⟨T_47, hT_47, h_47⟩
        have eg_47 : M_47 (m + 1) = M (m + 1) := by rw [hT_47, mo_ur_n (by omega)]
        have es_47 : M_47 m 2 = M m 2 := by rw [hT_47, mo_ur_s, mo_up_n (by omega)]
        refine mo_if_ne (pc := 50) (tgt := 55) X dX5_addEscort_50 (by decide) ?_ (fun c_50 => ?_) (fun c_50 => ?_)
        · omega
        · skip
          refine mo_al0 (pc := 55) X dX5_addEscort_55 ?_
          refine mo_cVV (pc := 56) (As := []) X mo_k_X5_62 mo_y_yX5_save rfl dX5_addEscort_56 (ct5_save (n := n) hm (by rw [es_47]; exact hs) hn4) (mo_Md_o hm) rfl (by decide) (by decide) (Nat.le_of_ble_eq_true rfl) ?_
          rintro M_56 h_56
          have eg_56 : M_56 (m + 1) = M (m + 1) := by rw [h_56.2.2.2.2 _ (by omega) (by omega), eg_47]
          refine mo_al0 (pc := 59) X dX5_addEscort_59 ?_
          refine mo_f_X5_7 (pc := 60) X dX5_addEscort_60 (mo_Md_o hm) (mo_Md_p0 hm) ?_
          refine mo_iconst (pc := 63) X dX5_addEscort_63 ?_
          refine mo_iald (pc := 64) (j := 5) X dX5_addEscort_64 (mo_Md_r0 hm) (by omega) ?_ ?_ rfl ?_
          · omega
          · omega
          rw [eg_56, hen]
          refine mo_is3 (pc := 65) X dX5_addEscort_65 rfl (by decide) ?_
          refine mo_al0 (pc := 66) X dX5_addEscort_66 ?_
          refine mo_f_X5_7 (pc := 67) X dX5_addEscort_67 (mo_Md_o hm) (mo_Md_p0 hm) ?_
          refine mo_sipush (pc := 70) X dX5_addEscort_70 (by decide) ?_
          refine mo_il3 (pc := 73) X dX5_addEscort_73 ?_
          refine mo_iadd (pc := 74) X dX5_addEscort_74 ?_
          refine mo_il1 (pc := 75) X dX5_addEscort_75 ?_
          refine mo_iast (pc := 76) (j := 192 + en) X dX5_addEscort_76 (mo_Md_r0 hm) (by omega) ?_ ?_ (by omega) ?_
          · omega
          · omega
          rw [eg_56]
          refine mo_al0 (pc := 77) X dX5_addEscort_77 ?_
          refine mo_f_X5_7 (pc := 78) X dX5_addEscort_78 (mo_Md_o hm) (mo_Md_p0 hm) ?_
          refine mo_sipush (pc := 81) X dX5_addEscort_81 (by decide) ?_
          refine mo_il3 (pc := 84) X dX5_addEscort_84 ?_
          refine mo_iadd (pc := 85) X dX5_addEscort_85 ?_
          refine mo_il2 (pc := 86) X dX5_addEscort_86 ?_
          refine mo_iast (pc := 87) (j := 198 + en) X dX5_addEscort_87 (mo_Md_r0 hm) (by omega) ?_ ?_ (by omega) ?_
          · omega
          · omega
          try simp only [mo_ur_ur, mo_ur_s]
          refine mo_al0 (pc := 88) X dX5_addEscort_88 ?_
          refine mo_f_X5_7 (pc := 89) X dX5_addEscort_89 (mo_Md_o hm) (mo_Md_p0 hm) ?_
          refine mo_iconst (pc := 92) X dX5_addEscort_92 ?_
          refine mo_dup2 (pc := 93) X dX5_addEscort_93 rfl rfl ?_
          refine mo_iald (pc := 94) (j := 5) X dX5_addEscort_94 (mo_Md_r0 hm) (by omega) ?_ ?_ rfl ?_
          · omega
          · omega
          try simp only [mo_ur_ur, mo_ur_s]
          rw [mo_up_n (by omega), mo_up_n (by omega)]
          refine mo_iconst (pc := 95) X dX5_addEscort_95 ?_
          refine mo_iadd (pc := 96) X dX5_addEscort_96 ?_
          refine mo_iast (pc := 97) (j := 5) X dX5_addEscort_97 (mo_Md_r0 hm) (by omega) ?_ ?_ rfl ?_
          · omega
          · omega
          refine mo_il3 (pc := 98) X dX5_addEscort_98 ?_
          refine mo_iret (pc := 99) X Y rfl dX5_addEscort_99 ⟨rfl, rfl, _, rfl, ?_⟩
          refine Or.inr (Or.inr ⟨by omega, by omega, ?_, ?_⟩)
          · omega
          · refine mo_Ur_of hT_47 (by omega) h_56 ?_ (fun a q => by simp only [mo_ur_ur]; rw [mo_ur_n (by omega)])
            simp only [mo_ur_s]
            unfold mo_gAE
            rw [hen, Int.toNat_natCast]
            exact mo_ag_rf _
        · skip
          refine mo_iconst (pc := 53) X dX5_addEscort_53 ?_
          refine mo_iret (pc := 54) X Y rfl dX5_addEscort_54 ⟨rfl, rfl, _, rfl, ?_⟩
          rcases h_47 with q | q | q | q
          all_goals
            first
              | exact Or.inl ⟨by omega, rfl, mo_Qr_go hT_47 (by omega)⟩
              | exact Or.inr (Or.inl ⟨by omega, by omega, rfl, mo_Qr_go hT_47 (by omega)⟩)
              | (exfalso; omega)
    · skip
      refine mo_iconst (pc := 25) X dX5_addEscort_25 ?_
      refine mo_goto (pc := 26) (tgt := 30) X dX5_addEscort_26 (by decide) ?_
      refine mo_al0 (pc := 30) X dX5_addEscort_30 ?_
      refine mo_f_X5_7 (pc := 31) X dX5_addEscort_31 (mo_Md_o hm) (mo_Md_p0 hm) ?_
      refine mo_iconst (pc := 34) X dX5_addEscort_34 ?_
      refine mo_iald (pc := 35) (j := 5) X dX5_addEscort_35 (mo_Md_r0 hm) (by omega) ?_ ?_ rfl ?_
      · omega
      · omega
      refine mo_bipush (pc := 36) X dX5_addEscort_36 (by decide) ?_
      refine mo_ic_ge (pc := 38) (tgt := 45) X dX5_addEscort_38 (by decide) ?_ ?_ (fun c_38 => ?_) (fun c_38 => ?_)
      · omega
      · omega
      · skip
        refine mo_iconst (pc := 45) X dX5_addEscort_45 ?_
        refine mo_iconst (pc := 46) X dX5_addEscort_46 ?_
        refine mo_cVI (pc := 47) (As := [_, _, _]) X mo_k_X5_58 mo_y_yX5_goes rfl dX5_addEscort_47 (ct5_goes hm (by omega) (by omega) (by omega)) (mo_Md_o hm) rfl (by decide) (by decide) (Nat.le_of_ble_eq_true rfl) ?_
        rintro r_47 M_47 ⟨T_47, hT_47, h_47⟩
        have eg_47 : M_47 (m + 1) = M (m + 1) := by rw [hT_47, mo_ur_n (by omega)]
        have es_47 : M_47 m 2 = M m 2 := by rw [hT_47, mo_ur_s, mo_up_n (by omega)]
        refine mo_if_ne (pc := 50) (tgt := 55) X dX5_addEscort_50 (by decide) ?_ (fun c_50 => ?_) (fun c_50 => ?_)
        · omega
        · skip
          refine mo_al0 (pc := 55) X dX5_addEscort_55 ?_
          refine mo_cVV (pc := 56) (As := []) X mo_k_X5_62 mo_y_yX5_save rfl dX5_addEscort_56 (ct5_save (n := n) hm (by rw [es_47]; exact hs) hn4) (mo_Md_o hm) rfl (by decide) (by decide) (Nat.le_of_ble_eq_true rfl) ?_
          rintro M_56 h_56
          have eg_56 : M_56 (m + 1) = M (m + 1) := by rw [h_56.2.2.2.2 _ (by omega) (by omega), eg_47]
          refine mo_al0 (pc := 59) X dX5_addEscort_59 ?_
          refine mo_f_X5_7 (pc := 60) X dX5_addEscort_60 (mo_Md_o hm) (mo_Md_p0 hm) ?_
          refine mo_iconst (pc := 63) X dX5_addEscort_63 ?_
          refine mo_iald (pc := 64) (j := 5) X dX5_addEscort_64 (mo_Md_r0 hm) (by omega) ?_ ?_ rfl ?_
          · omega
          · omega
          rw [eg_56, hen]
          refine mo_is3 (pc := 65) X dX5_addEscort_65 rfl (by decide) ?_
          refine mo_al0 (pc := 66) X dX5_addEscort_66 ?_
          refine mo_f_X5_7 (pc := 67) X dX5_addEscort_67 (mo_Md_o hm) (mo_Md_p0 hm) ?_
          refine mo_sipush (pc := 70) X dX5_addEscort_70 (by decide) ?_
          refine mo_il3 (pc := 73) X dX5_addEscort_73 ?_
          refine mo_iadd (pc := 74) X dX5_addEscort_74 ?_
          refine mo_il1 (pc := 75) X dX5_addEscort_75 ?_
          refine mo_iast (pc := 76) (j := 192 + en) X dX5_addEscort_76 (mo_Md_r0 hm) (by omega) ?_ ?_ (by omega) ?_
          · omega
          · omega
          rw [eg_56]
          refine mo_al0 (pc := 77) X dX5_addEscort_77 ?_
          refine mo_f_X5_7 (pc := 78) X dX5_addEscort_78 (mo_Md_o hm) (mo_Md_p0 hm) ?_
          refine mo_sipush (pc := 81) X dX5_addEscort_81 (by decide) ?_
          refine mo_il3 (pc := 84) X dX5_addEscort_84 ?_
          refine mo_iadd (pc := 85) X dX5_addEscort_85 ?_
          refine mo_il2 (pc := 86) X dX5_addEscort_86 ?_
          refine mo_iast (pc := 87) (j := 198 + en) X dX5_addEscort_87 (mo_Md_r0 hm) (by omega) ?_ ?_ (by omega) ?_
          · omega
          · omega
          try simp only [mo_ur_ur, mo_ur_s]
          refine mo_al0 (pc := 88) X dX5_addEscort_88 ?_
          refine mo_f_X5_7 (pc := 89) X dX5_addEscort_89 (mo_Md_o hm) (mo_Md_p0 hm) ?_
          refine mo_iconst (pc := 92) X dX5_addEscort_92 ?_
          refine mo_dup2 (pc := 93) X dX5_addEscort_93 rfl rfl ?_
          refine mo_iald (pc := 94) (j := 5) X dX5_addEscort_94 (mo_Md_r0 hm) (by omega) ?_ ?_ rfl ?_
          · omega
          · omega
          try simp only [mo_ur_ur, mo_ur_s]
          rw [mo_up_n (by omega), mo_up_n (by omega)]
          refine mo_iconst (pc := 95) X dX5_addEscort_95 ?_
          refine mo_iadd (pc := 96) X dX5_addEscort_96 ?_
          refine mo_iast (pc := 97) (j := 5) X dX5_addEscort_97 (mo_Md_r0 hm) (by omega) ?_ ?_ rfl ?_
          · omega
          · omega
          refine mo_il3 (pc := 98) X dX5_addEscort_98 ?_
          refine mo_iret (pc := 99) X Y rfl dX5_addEscort_99 ⟨rfl, rfl, _, rfl, ?_⟩
          refine Or.inr (Or.inr ⟨by omega, by omega, ?_, ?_⟩)
          · omega
          · refine mo_Ur_of hT_47 (by omega) h_56 ?_ (fun a q => by simp only [mo_ur_ur]; rw [mo_ur_n (by omega)])
            simp only [mo_ur_s]
            unfold mo_gAE
            rw [hen, Int.toNat_natCast]
            exact mo_ag_rf _
        · skip
          refine mo_iconst (pc := 53) X dX5_addEscort_53 ?_
          refine mo_iret (pc := 54) X Y rfl dX5_addEscort_54 ⟨rfl, rfl, _, rfl, ?_⟩
          rcases h_47 with q | q | q | q
          all_goals
            first
              | exact Or.inl ⟨by omega, rfl, mo_Qr_go hT_47 (by omega)⟩
              | exact Or.inr (Or.inl ⟨by omega, by omega, rfl, mo_Qr_go hT_47 (by omega)⟩)
              | (exfalso; omega)
      · skip
        refine mo_iconst (pc := 41) X dX5_addEscort_41 ?_
        refine mo_goto (pc := 42) (tgt := 46) X dX5_addEscort_42 (by decide) ?_
        refine mo_iconst (pc := 46) X dX5_addEscort_46 ?_
        refine mo_cVI (pc := 47) (As := [_, _, _]) X mo_k_X5_58 mo_y_yX5_goes rfl dX5_addEscort_47 (ct5_goes hm (by omega) (by omega) (by omega)) (mo_Md_o hm) rfl (by decide) (by decide) (Nat.le_of_ble_eq_true rfl) ?_
        rintro r_47 M_47 ⟨T_47, hT_47, h_47⟩
        have eg_47 : M_47 (m + 1) = M (m + 1) := by rw [hT_47, mo_ur_n (by omega)]
        have es_47 : M_47 m 2 = M m 2 := by rw [hT_47, mo_ur_s, mo_up_n (by omega)]
        refine mo_if_ne (pc := 50) (tgt := 55) X dX5_addEscort_50 (by decide) ?_ (fun c_50 => ?_) (fun c_50 => ?_)
        · omega
        · skip
          refine mo_al0 (pc := 55) X dX5_addEscort_55 ?_
          refine mo_cVV (pc := 56) (As := []) X mo_k_X5_62 mo_y_yX5_save rfl dX5_addEscort_56 (ct5_save (n := n) hm (by rw [es_47]; exact hs) hn4) (mo_Md_o hm) rfl (by decide) (by decide) (Nat.le_of_ble_eq_true rfl) ?_
          rintro M_56 h_56
          have eg_56 : M_56 (m + 1) = M (m + 1) := by rw [h_56.2.2.2.2 _ (by omega) (by omega), eg_47]
          refine mo_al0 (pc := 59) X dX5_addEscort_59 ?_
          refine mo_f_X5_7 (pc := 60) X dX5_addEscort_60 (mo_Md_o hm) (mo_Md_p0 hm) ?_
          refine mo_iconst (pc := 63) X dX5_addEscort_63 ?_
          refine mo_iald (pc := 64) (j := 5) X dX5_addEscort_64 (mo_Md_r0 hm) (by omega) ?_ ?_ rfl ?_
          · omega
          · omega
          rw [eg_56, hen]
          refine mo_is3 (pc := 65) X dX5_addEscort_65 rfl (by decide) ?_
          refine mo_al0 (pc := 66) X dX5_addEscort_66 ?_
          refine mo_f_X5_7 (pc := 67) X dX5_addEscort_67 (mo_Md_o hm) (mo_Md_p0 hm) ?_
          refine mo_sipush (pc := 70) X dX5_addEscort_70 (by decide) ?_
          refine mo_il3 (pc := 73) X dX5_addEscort_73 ?_
          refine mo_iadd (pc := 74) X dX5_addEscort_74 ?_
          refine mo_il1 (pc := 75) X dX5_addEscort_75 ?_
          refine mo_iast (pc := 76) (j := 192 + en) X dX5_addEscort_76 (mo_Md_r0 hm) (by omega) ?_ ?_ (by omega) ?_
          · omega
          · omega
          rw [eg_56]
          refine mo_al0 (pc := 77) X dX5_addEscort_77 ?_
          refine mo_f_X5_7 (pc := 78) X dX5_addEscort_78 (mo_Md_o hm) (mo_Md_p0 hm) ?_
          refine mo_sipush (pc := 81) X dX5_addEscort_81 (by decide) ?_
          refine mo_il3 (pc := 84) X dX5_addEscort_84 ?_
          refine mo_iadd (pc := 85) X dX5_addEscort_85 ?_
          refine mo_il2 (pc := 86) X dX5_addEscort_86 ?_
          refine mo_iast (pc := 87) (j := 198 + en) X dX5_addEscort_87 (mo_Md_r0 hm) (by omega) ?_ ?_ (by omega) ?_
          · omega
          · omega
          try simp only [mo_ur_ur, mo_ur_s]
          refine mo_al0 (pc := 88) X dX5_addEscort_88 ?_
          refine mo_f_X5_7 (pc := 89) X dX5_addEscort_89 (mo_Md_o hm) (mo_Md_p0 hm) ?_
          refine mo_iconst (pc := 92) X dX5_addEscort_92 ?_
          refine mo_dup2 (pc := 93) X dX5_addEscort_93 rfl rfl ?_
          refine mo_iald (pc := 94) (j := 5) X dX5_addEscort_94 (mo_Md_r0 hm) (by omega) ?_ ?_ rfl ?_
          · omega
          · omega
          try simp only [mo_ur_ur, mo_ur_s]
          rw [mo_up_n (by omega), mo_up_n (by omega)]
          refine mo_iconst (pc := 95) X dX5_addEscort_95 ?_
          refine mo_iadd (pc := 96) X dX5_addEscort_96 ?_
          refine mo_iast (pc := 97) (j := 5) X dX5_addEscort_97 (mo_Md_r0 hm) (by omega) ?_ ?_ rfl ?_
          · omega
          · omega
          refine mo_il3 (pc := 98) X dX5_addEscort_98 ?_
          refine mo_iret (pc := 99) X Y rfl dX5_addEscort_99 ⟨rfl, rfl, _, rfl, ?_⟩
          refine Or.inr (Or.inr ⟨by omega, by omega, ?_, ?_⟩)
          · omega
          · refine mo_Ur_of hT_47 (by omega) h_56 ?_ (fun a q => by simp only [mo_ur_ur]; rw [mo_ur_n (by omega)])
            simp only [mo_ur_s]
            unfold mo_gAE
            rw [hen, Int.toNat_natCast]
            exact mo_ag_rf _
        · skip
          refine mo_iconst (pc := 53) X dX5_addEscort_53 ?_
          refine mo_iret (pc := 54) X Y rfl dX5_addEscort_54 ⟨rfl, rfl, _, rfl, ?_⟩
          rcases h_47 with q | q | q | q
          all_goals
            first
              | exact Or.inl ⟨by omega, rfl, mo_Qr_go hT_47 (by omega)⟩
              | exact Or.inr (Or.inl ⟨by omega, by omega, rfl, mo_Qr_go hT_47 (by omega)⟩)
              | (exfalso; omega)
set_option maxHeartbeats 4000000 in
set_option maxRecDepth 100000 in
theorem ct5_addVenue {lf : Launch} {ρf : mo_E} {G : mo_G} {M : mo_M} {t : Nat} {m : Nat} (hm : mo_Md G m) {B p : Int} (hI : mo_Iv (M (m + 1)) B) (hB : B ≤ 800000000) {n : Nat} (hs : M m 2 = n) (hn4 : n ≤ 4) (hp : mo_In p) : mo_Ct lf ρf yX5_addVenue cX5_addVenue 3 (some .int) 1 0 0 [.ref m, mo_iv p] G M t (mo_pi G t (fun x M' => (¬ (1 ≤ p ∧ p ≤ 4) ∧ x = 0 ∧ mo_Qr M M' m 1) ∨ ((1 ≤ p ∧ p ≤ 4) ∧ ¬ (M (m + 1) 6 < 5) ∧ x = 0 ∧ mo_Qr M M' m 2) ∨ ((1 ≤ p ∧ p ≤ 4) ∧ (M (m + 1) 6 < 5) ∧ x = M (m + 1) 6 ∧ mo_Ur M M' m n (mo_gAV (M (m + 1)) p)))) := by
  refine mo_ofW (ls0 := [some (.ref m), some (mo_iv p), none]) (by decide) rfl (Nat.le_of_ble_eq_true rfl) ?_
  intro κ X Y
  have X : mo_Cx κ lf ρf cX5_addVenue 3 RX5 (some .int) 1 := X
  obtain ⟨hI0, hI1, hI2, hI3, hI4, hI5, hI6, hI7, hIh, hIa, hIe, hIm, hIs, hIl, hIw, hIr, hIt, hIs2, hIs3, hIz⟩ := id hI
  have hn : ((mo_nk (M (m + 1)) : Nat) : Int) = M (m + 1) 7 := by unfold mo_nk; omega
  obtain ⟨vn, hvn⟩ := Int.eq_ofNat_of_zero_le hI6.1
  refine mo_al0 (pc := 0) X dX5_addVenue_0 ?_
  refine mo_il1 (pc := 1) X dX5_addVenue_1 ?_
  refine mo_i2l (pc := 2) X dX5_addVenue_2 ?_ ?_
  · omega
  refine mo_lconst (pc := 3) (z := 1) X dX5_addVenue_3 (by decide) ?_
  refine mo_ldc2 (pc := 4) (v := 4) X dX5_addVenue_4 mo_wk_X5_87 ?_
  refine mo_cSI (pc := 7) (As := [_, _, _]) X mo_k_X5_44 mo_y_yX5_in dX5_addVenue_7 (ct5_in (by omega) (by omega) (by omega)) rfl (by decide) (by decide) (Nat.le_of_ble_eq_true rfl) ?_
  rintro r_7 _ ⟨h_7, rfl⟩
  refine mo_al0 (pc := 10) X dX5_addVenue_10 ?_
  refine mo_f_X5_7 (pc := 11) X dX5_addVenue_11 (mo_Md_o hm) (mo_Md_p0 hm) ?_
  refine mo_bipush (pc := 14) X dX5_addVenue_14 (by decide) ?_
  refine mo_iald (pc := 16) (j := 6) X dX5_addVenue_16 (mo_Md_r0 hm) (by omega) ?_ ?_ rfl ?_
  · omega
  · omega
  refine mo_iconst (pc := 17) X dX5_addVenue_17 ?_
  refine mo_ic_ge (pc := 18) (tgt := 25) X dX5_addVenue_18 (by decide) ?_ ?_ (fun c_18 => ?_) (fun c_18 => ?_)
  · omega
  · omega
  · skip
    refine mo_iconst (pc := 25) X dX5_addVenue_25 ?_
    refine mo_iconst (pc := 26) X dX5_addVenue_26 ?_
    refine mo_cVI (pc := 27) (As := [_, _, _]) X mo_k_X5_58 mo_y_yX5_goes rfl dX5_addVenue_27 (ct5_goes hm (by omega) (by omega) (by omega)) (mo_Md_o hm) rfl (by decide) (by decide) (Nat.le_of_ble_eq_true rfl) ?_
    rintro r_27 M_27 ⟨T_27, hT_27, h_27⟩
    have eg_27 : M_27 (m + 1) = M (m + 1) := by rw [hT_27, mo_ur_n (by omega)]
    have es_27 : M_27 m 2 = M m 2 := by rw [hT_27, mo_ur_s, mo_up_n (by omega)]
    refine mo_if_ne (pc := 30) (tgt := 35) X dX5_addVenue_30 (by decide) ?_ (fun c_30 => ?_) (fun c_30 => ?_)
    · omega
    · skip
      refine mo_al0 (pc := 35) X dX5_addVenue_35 ?_
      refine mo_cVV (pc := 36) (As := []) X mo_k_X5_62 mo_y_yX5_save rfl dX5_addVenue_36 (ct5_save (n := n) hm (by rw [es_27]; exact hs) hn4) (mo_Md_o hm) rfl (by decide) (by decide) (Nat.le_of_ble_eq_true rfl) ?_
      rintro M_36 h_36
      have eg_36 : M_36 (m + 1) = M (m + 1) := by rw [h_36.2.2.2.2 _ (by omega) (by omega), eg_27]
      refine mo_al0 (pc := 39) X dX5_addVenue_39 ?_
      refine mo_f_X5_7 (pc := 40) X dX5_addVenue_40 (mo_Md_o hm) (mo_Md_p0 hm) ?_
      refine mo_bipush (pc := 43) X dX5_addVenue_43 (by decide) ?_
      refine mo_iald (pc := 45) (j := 6) X dX5_addVenue_45 (mo_Md_r0 hm) (by omega) ?_ ?_ rfl ?_
      · omega
      · omega
      rw [eg_36, hvn]
      refine mo_is2 (pc := 46) X dX5_addVenue_46 rfl (by decide) ?_
      refine mo_al0 (pc := 47) X dX5_addVenue_47 ?_
      refine mo_f_X5_7 (pc := 48) X dX5_addVenue_48 (mo_Md_o hm) (mo_Md_p0 hm) ?_
      refine mo_sipush (pc := 51) X dX5_addVenue_51 (by decide) ?_
      refine mo_il2 (pc := 54) X dX5_addVenue_54 ?_
      refine mo_iadd (pc := 55) X dX5_addVenue_55 ?_
      refine mo_il1 (pc := 56) X dX5_addVenue_56 ?_
      refine mo_iast (pc := 57) (j := 210 + vn) X dX5_addVenue_57 (mo_Md_r0 hm) (by omega) ?_ ?_ (by omega) ?_
      · omega
      · omega
      rw [eg_36]
      refine mo_al0 (pc := 58) X dX5_addVenue_58 ?_
      refine mo_f_X5_7 (pc := 59) X dX5_addVenue_59 (mo_Md_o hm) (mo_Md_p0 hm) ?_
      refine mo_bipush (pc := 62) X dX5_addVenue_62 (by decide) ?_
      refine mo_dup2 (pc := 64) X dX5_addVenue_64 rfl rfl ?_
      refine mo_iald (pc := 65) (j := 6) X dX5_addVenue_65 (mo_Md_r0 hm) (by omega) ?_ ?_ rfl ?_
      · omega
      · omega
      try simp only [mo_ur_ur, mo_ur_s]
      rw [mo_up_n (by omega)]
      refine mo_iconst (pc := 66) X dX5_addVenue_66 ?_
      refine mo_iadd (pc := 67) X dX5_addVenue_67 ?_
      refine mo_iast (pc := 68) (j := 6) X dX5_addVenue_68 (mo_Md_r0 hm) (by omega) ?_ ?_ rfl ?_
      · omega
      · omega
      refine mo_il2 (pc := 69) X dX5_addVenue_69 ?_
      refine mo_iret (pc := 70) X Y rfl dX5_addVenue_70 ⟨rfl, rfl, _, rfl, ?_⟩
      refine Or.inr (Or.inr ⟨by omega, by omega, ?_, ?_⟩)
      · omega
      · refine mo_Ur_of hT_27 (by omega) h_36 ?_ (fun a q => by simp only [mo_ur_ur]; rw [mo_ur_n (by omega)])
        simp only [mo_ur_s]
        unfold mo_gAV
        rw [hvn, Int.toNat_natCast]
        exact mo_ag_rf _
    · skip
      refine mo_iconst (pc := 33) X dX5_addVenue_33 ?_
      refine mo_iret (pc := 34) X Y rfl dX5_addVenue_34 ⟨rfl, rfl, _, rfl, ?_⟩
      rcases h_27 with q | q | q | q
      all_goals
        first
          | exact Or.inl ⟨by omega, rfl, mo_Qr_go hT_27 (by omega)⟩
          | exact Or.inr (Or.inl ⟨by omega, by omega, rfl, mo_Qr_go hT_27 (by omega)⟩)
          | (exfalso; omega)
  · skip
    refine mo_iconst (pc := 21) X dX5_addVenue_21 ?_
    refine mo_goto (pc := 22) (tgt := 26) X dX5_addVenue_22 (by decide) ?_
    refine mo_iconst (pc := 26) X dX5_addVenue_26 ?_
    refine mo_cVI (pc := 27) (As := [_, _, _]) X mo_k_X5_58 mo_y_yX5_goes rfl dX5_addVenue_27 (ct5_goes hm (by omega) (by omega) (by omega)) (mo_Md_o hm) rfl (by decide) (by decide) (Nat.le_of_ble_eq_true rfl) ?_
    rintro r_27 M_27 ⟨T_27, hT_27, h_27⟩
    have eg_27 : M_27 (m + 1) = M (m + 1) := by rw [hT_27, mo_ur_n (by omega)]
    have es_27 : M_27 m 2 = M m 2 := by rw [hT_27, mo_ur_s, mo_up_n (by omega)]
    refine mo_if_ne (pc := 30) (tgt := 35) X dX5_addVenue_30 (by decide) ?_ (fun c_30 => ?_) (fun c_30 => ?_)
    · omega
    · skip
      refine mo_al0 (pc := 35) X dX5_addVenue_35 ?_
      refine mo_cVV (pc := 36) (As := []) X mo_k_X5_62 mo_y_yX5_save rfl dX5_addVenue_36 (ct5_save (n := n) hm (by rw [es_27]; exact hs) hn4) (mo_Md_o hm) rfl (by decide) (by decide) (Nat.le_of_ble_eq_true rfl) ?_
      rintro M_36 h_36
      have eg_36 : M_36 (m + 1) = M (m + 1) := by rw [h_36.2.2.2.2 _ (by omega) (by omega), eg_27]
      refine mo_al0 (pc := 39) X dX5_addVenue_39 ?_
      refine mo_f_X5_7 (pc := 40) X dX5_addVenue_40 (mo_Md_o hm) (mo_Md_p0 hm) ?_
      refine mo_bipush (pc := 43) X dX5_addVenue_43 (by decide) ?_
      refine mo_iald (pc := 45) (j := 6) X dX5_addVenue_45 (mo_Md_r0 hm) (by omega) ?_ ?_ rfl ?_
      · omega
      · omega
      rw [eg_36, hvn]
      refine mo_is2 (pc := 46) X dX5_addVenue_46 rfl (by decide) ?_
      refine mo_al0 (pc := 47) X dX5_addVenue_47 ?_
      refine mo_f_X5_7 (pc := 48) X dX5_addVenue_48 (mo_Md_o hm) (mo_Md_p0 hm) ?_
      refine mo_sipush (pc := 51) X dX5_addVenue_51 (by decide) ?_
      refine mo_il2 (pc := 54) X dX5_addVenue_54 ?_
      refine mo_iadd (pc := 55) X dX5_addVenue_55 ?_
      refine mo_il1 (pc := 56) X dX5_addVenue_56 ?_
      refine mo_iast (pc := 57) (j := 210 + vn) X dX5_addVenue_57 (mo_Md_r0 hm) (by omega) ?_ ?_ (by omega) ?_
      · omega
      · omega
      rw [eg_36]
      refine mo_al0 (pc := 58) X dX5_addVenue_58 ?_
      refine mo_f_X5_7 (pc := 59) X dX5_addVenue_59 (mo_Md_o hm) (mo_Md_p0 hm) ?_
      refine mo_bipush (pc := 62) X dX5_addVenue_62 (by decide) ?_
      refine mo_dup2 (pc := 64) X dX5_addVenue_64 rfl rfl ?_
      refine mo_iald (pc := 65) (j := 6) X dX5_addVenue_65 (mo_Md_r0 hm) (by omega) ?_ ?_ rfl ?_
      · omega
      · omega
      try simp only [mo_ur_ur, mo_ur_s]
      rw [mo_up_n (by omega)]
      refine mo_iconst (pc := 66) X dX5_addVenue_66 ?_
      refine mo_iadd (pc := 67) X dX5_addVenue_67 ?_
      refine mo_iast (pc := 68) (j := 6) X dX5_addVenue_68 (mo_Md_r0 hm) (by omega) ?_ ?_ rfl ?_
      · omega
      · omega
      refine mo_il2 (pc := 69) X dX5_addVenue_69 ?_
      refine mo_iret (pc := 70) X Y rfl dX5_addVenue_70 ⟨rfl, rfl, _, rfl, ?_⟩
      refine Or.inr (Or.inr ⟨by omega, by omega, ?_, ?_⟩)
      · omega
      · refine mo_Ur_of hT_27 (by omega) h_36 ?_ (fun a q => by simp only [mo_ur_ur]; rw [mo_ur_n (by omega)])
        simp only [mo_ur_s]
        unfold mo_gAV
        rw [hvn, Int.toNat_natCast]
        exact mo_ag_rf _
    · skip
      refine mo_iconst (pc := 33) X dX5_addVenue_33 ?_
      refine mo_iret (pc := 34) X Y rfl dX5_addVenue_34 ⟨rfl, rfl, _, rfl, ?_⟩
      rcases h_27 with q | q | q | q
      all_goals
        first
          | exact Or.inl ⟨by omega, rfl, mo_Qr_go hT_27 (by omega)⟩
          | exact Or.inr (Or.inl ⟨by omega, by omega, rfl, mo_Qr_go hT_27 (by omega)⟩)
          | (exfalso; omega)
