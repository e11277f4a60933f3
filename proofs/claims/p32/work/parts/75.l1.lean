/-! the law's helpers: cell, up, put, takeOut -/
def mo_up2 (v n : Int) : Int := mo_and v 2147483647 % n
theorem mo_and7 (x : Int) : 0 ≤ mo_and x 2147483647 ∧ mo_and x 2147483647 < 2147483648 := by
  unfold mo_and
  have h1 : (Int32.ofInt x &&& Int32.ofInt 2147483647).toBitVec.toNat ≤ 2147483647 := by
    rw [Int32.toBitVec_and, BitVec.toNat_and]
    exact Nat.and_le_right
  have h2 : (Int32.ofInt x &&& Int32.ofInt 2147483647).toInt = ((Int32.ofInt x &&& Int32.ofInt 2147483647).toBitVec.toNat : Int) := by
    show (Int32.ofInt x &&& Int32.ofInt 2147483647).toBitVec.toInt = _
    rw [BitVec.toInt_eq_toNat_of_lt (by omega)]
  omega
theorem mo_up2_b (v : Int) {n : Int} (hn : 0 < n) : 0 ≤ mo_up2 v n ∧ mo_up2 v n < n := ⟨Int.emod_nonneg _ (by omega), Int.emod_lt_of_pos _ hn⟩
/-- the numbers from a on, entered behind those that there are -/
def mo_ptn : Nat → (Nat → Int) → Int → (Nat → Int)
  | 0, f, _ => f
  | z + 1, f, a => mo_ptn z (va_up (va_up f (f 62).toNat a) 62 (va_up f (f 62).toNat a 62 + 1)) (a + 1)
theorem mo_ptn_v : ∀ (z : Nat) (f : Nat → Int) (a : Int), 0 ≤ f 62 → f 62 + z ≤ 60 → mo_ptn z f a 62 = f 62 + z ∧ ∀ j : Nat, j ≠ 62 → mo_ptn z f a j = if f 62 ≤ (j : Int) ∧ (j : Int) < f 62 + z then a + ((j : Int) - f 62) else f j
  | 0, f, a, h0, h1 => ⟨(Int.add_zero _).symm, fun j hj => by rw [if_neg (by omega)]; rfl⟩
  | z + 1, f, a, h0, h1 => by
    obtain ⟨f2, hf⟩ : ∃ f2, f2 = va_up (va_up f (f 62).toNat a) 62 (va_up f (f 62).toNat a 62 + 1) := ⟨_, rfl⟩
    have e62 : f2 62 = f 62 + 1 := by rw [hf, mo_up_s, mo_up_n (by omega)]
    have ei : f2 (f 62).toNat = a := by rw [hf, mo_up_n (by omega), mo_up_s]
    have ej : ∀ j, j ≠ 62 → j ≠ (f 62).toNat → f2 j = f j := fun j h1 h2 => by rw [hf, mo_up_n h1, mo_up_n h2]
    obtain ⟨i1, i2⟩ := mo_ptn_v z f2 (a + 1) (by omega) (by omega)
    rw [mo_ptn, ← hf]
    refine ⟨by omega, fun j hj => ?_⟩
    rw [i2 j hj, e62]
    by_cases c : j = (f 62).toNat
    · rw [if_neg (by omega), if_pos (by omega), c, ei]
      omega
    · by_cases d : f 62 + 1 ≤ (j : Int) ∧ (j : Int) < f 62 + 1 + (z : Int)
      · rw [if_pos d, if_pos (by omega)]; omega
      · rw [if_neg d, if_neg (by omega), ej j hj c]
/-- those taken out that are not wanted -/
def mo_tq (w u : Int) (N W : Nat → Int) : Nat → Nat × (Nat → Int) × (Nat → Int)
  | 0 => (0, N, W)
  | k + 1 => (if (mo_tq w u N W k).2.1 k ≠ u ∧ w ≤ (mo_tq w u N W k).2.2 k then (mo_tq w u N W k).1 + 1 else (mo_tq w u N W k).1, va_up (mo_tq w u N W k).2.1 (mo_tq w u N W k).1 ((mo_tq w u N W k).2.1 k), va_up (mo_tq w u N W k).2.2 (mo_tq w u N W k).1 ((mo_tq w u N W k).2.2 k))
def mo_ts (w u : Int) (N W : Nat → Int) (i : Nat) : Bool := decide (N i ≠ u ∧ w ≤ W i)
theorem mo_tq_v (w u : Int) (N W : Nat → Int) : ∀ k, (mo_tq w u N W k).1 = mo_cn (mo_ts w u N W) k ∧ (∀ j, k ≤ j → (mo_tq w u N W k).2.1 j = N j ∧ (mo_tq w u N W k).2.2 j = W j) ∧ ∀ i, i < k → mo_ts w u N W i = true → (mo_tq w u N W k).2.1 (mo_cn (mo_ts w u N W) i) = N i
  | 0 => ⟨rfl, fun _ _ => ⟨rfl, rfl⟩, fun i hi => absurd hi (Nat.not_lt_zero _)⟩
  | k + 1 => by
    obtain ⟨h1, h2, h3⟩ := mo_tq_v w u N W k
    have hl := mo_cn_le (mo_ts w u N W) k
    rw [mo_tq, (h2 k (Nat.le_refl _)).1, (h2 k (Nat.le_refl _)).2, h1]
    refine ⟨?_, fun j hj => ?_, fun i hi hp => ?_⟩
    · rw [mo_cn]
      by_cases c : N k ≠ u ∧ w ≤ W k
      · rw [if_pos c, if_pos (by unfold mo_ts; exact decide_eq_true c)]
      · rw [if_neg c, if_neg (by unfold mo_ts; rw [decide_eq_true_eq]; exact c)]
        rfl
    · simp only
      rw [mo_up_n (by omega), mo_up_n (by omega)]
      exact h2 j (by omega)
    · simp only
      by_cases c : i = k
      · rw [c, mo_up_s]
      · have h4 := mo_cn_lt (mo_ts w u N W) (show i < k by omega) hp
        rw [mo_up_n (by omega)]
        exact h3 i (by omega) hp
def mo_cel (xs : Nat → Int32) (L k : Nat) : Int := if k < L then (xs k).toInt else 1359893119 * ((k : Int) + 479)
set_option maxHeartbeats 4000000 in
set_option maxRecDepth 100000 in
theorem ctL_cell {lf : Launch} {ρf : mo_E} {G : mo_G} {M : mo_M} {t b L : Nat} {xs : Nat → Int32} (hL : L ≤ 260) {q : Int} {k : Nat} (hq : q = k) (hk : k ≤ 1000) : mo_CtS lf ρf yL_cell cL_cell 2 (some .int) 0 [.ref b, mo_iv q] G M t b L xs (fun v G' M' t' => G' = G ∧ M' = M ∧ t' = t ∧ v = some (mo_iv (mo_cel xs L k))) := by
  subst hq
  refine mo_ofWS (ls0 := [some (.ref b), some (mo_iv k)]) (by decide) rfl (Nat.le_of_ble_eq_true rfl) ?_
  intro κ X Y hXs
  have X : mo_Cx κ lf ρf cL_cell 2 RL (some .int) 0 := X
  refine mo_il1 (pc := 0) X dL_cell_0 ?_
  refine mo_al0 (pc := 1) X dL_cell_1 ?_
  refine mo_slen (pc := 2) X hXs (by omega) dL_cell_2 ?_
  refine mo_ic_ge (pc := 3) (tgt := 12) X dL_cell_3 (by decide) ?_ ?_ (fun c_3 => ?_) (fun c_3 => ?_)
  · omega
  · omega
  · refine mo_ldc (pc := 12) (v := 1359893119) X dL_cell_12 mo_wk_L_7 ?_
    refine mo_il1 (pc := 14) X dL_cell_14 ?_
    refine mo_sipush (pc := 15) X dL_cell_15 (by decide) ?_
    refine mo_iadd (pc := 18) X dL_cell_18 ?_
    refine mo_imul (pc := 19) X dL_cell_19 ?_
    refine mo_iret (pc := 20) X Y rfl dL_cell_20 ⟨rfl, rfl, rfl, ?_⟩
    unfold mo_cel
    rw [if_neg (by omega)]
  · refine mo_al0 (pc := 6) X dL_cell_6 ?_
    refine mo_il1 (pc := 7) X dL_cell_7 ?_
    refine mo_sld (pc := 8) (j := k) X hXs (by omega) (by omega) (by omega) (by omega) dL_cell_8 ?_
    refine mo_goto (pc := 9) (tgt := 20) X dL_cell_9 (by decide) ?_
    refine mo_iret (pc := 20) X Y rfl dL_cell_20 ⟨rfl, rfl, rfl, ?_⟩
    unfold mo_cel
    rw [if_pos (by omega)]
set_option maxHeartbeats 4000000 in
set_option maxRecDepth 100000 in
theorem ctL_up {lf : Launch} {ρf : mo_E} {G : mo_G} {M : mo_M} {t : Nat} {v n : Int} (hn : 0 < n ∧ n < 2147483648) : mo_Ct lf ρf yL_up cL_up 2 (some .int) 0 0 0 [mo_iv v, mo_iv n] G M t (mo_pi G t (fun x M' => x = mo_up2 v n ∧ M = M')) := by
  refine mo_ofW (ls0 := [some (mo_iv v), some (mo_iv n)]) (by decide) rfl (Nat.le_of_ble_eq_true rfl) ?_
  intro κ X Y
  have X : mo_Cx κ lf ρf cL_up 2 RL (some .int) 0 := X
  have h7 := mo_and7 v
  refine mo_il0 (pc := 0) X dL_up_0 ?_
  refine mo_ldc (pc := 1) (v := 2147483647) X dL_up_1 mo_wk_L_8 ?_
  refine mo_iand (pc := 3) X dL_up_3 ?_
  refine mo_il1 (pc := 4) X dL_up_4 ?_
  refine mo_irem (pc := 5) X dL_up_5 ?_ ?_ ?_
  · omega
  · omega
  refine mo_iret (pc := 6) X Y rfl dL_up_6 ⟨rfl, rfl, _, rfl, ?_⟩
  exact ⟨rfl, rfl⟩
set_option maxHeartbeats 4000000 in
set_option maxRecDepth 100000 in
theorem ctL_put {lf : Launch} {ρf : mo_E} {G : mo_G} {M : mo_M} {t : Nat} {h : Nat} (hA : G.1 h = some (.inr (0, 64))) {a c : Int} {z : Nat} (hz : a + z = c) (ha : 0 ≤ a) (hc : c ≤ 1000000000) (h0 : 0 ≤ M h 62) (h1 : M h 62 + z ≤ 60) : mo_Ct lf ρf yL_put cL_put 4 none 0 0 0 [.ref h, mo_iv a, mo_iv c] G M t (mo_pv G t (fun M' => M' = mo_ur M h (va_up (mo_ptn z (M h) a) 63 c))) := by
  refine mo_ofW (ls0 := [some (.ref h), some (mo_iv a), some (mo_iv c), none]) (by decide) rfl (Nat.le_of_ble_eq_true rfl) ?_
  intro κ X Y
  have X : mo_Cx κ lf ρf cL_put 4 RL none 0 := X
  have loop : ∀ (z : Nat) (M2 : mo_M) (a2 a3 : Int), a2 + z = c → 0 ≤ a2 → 0 ≤ M2 h 62 → M2 h 62 + z ≤ 60 → mo_ur M2 h (va_up (mo_ptn z (M2 h) a2) 63 c) = mo_ur M h (va_up (mo_ptn (c - a).toNat (M h) a) 63 c) → mo_V κ 0 0 2 [some (.ref h), some (mo_iv a3), some (mo_iv c), some (mo_iv a2)] [] G M2 t := by
    intro z
    induction z with
    | zero =>
      intro M2 a2 a3 e1 e2 e3 e4 e5
      refine mo_il3 (pc := 2) X dL_put_2 ?_
      refine mo_il2 (pc := 3) X dL_put_3 ?_
      refine mo_ic_ge (pc := 4) (tgt := 37) X dL_put_4 (by decide) ?_ ?_ (fun c_4 => ?_) (fun c_4 => ?_)
      · omega
      · omega
      · skip
        refine mo_al0 (pc := 37) X dL_put_37 ?_
        refine mo_bipush (pc := 38) X dL_put_38 (by decide) ?_
        refine mo_il2 (pc := 40) X dL_put_40 ?_
        refine mo_iast (pc := 41) (j := 63) X dL_put_41 hA (by omega) ?_ ?_ rfl ?_
        · omega
        · omega
        refine mo_vret (pc := 42) X Y rfl dL_put_42 ⟨rfl, rfl, rfl, ?_⟩
        rw [show z = (c - a).toNat by omega]
        exact e5
      · exfalso
        omega
    | succ z2 ih =>
      intro M2 a2 a3 e1 e2 e3 e4 e5
      refine mo_il3 (pc := 2) X dL_put_2 ?_
      refine mo_il2 (pc := 3) X dL_put_3 ?_
      refine mo_ic_ge (pc := 4) (tgt := 37) X dL_put_4 (by decide) ?_ ?_ (fun c_4 => ?_) (fun c_4 => ?_)
      · omega
      · omega
      · exfalso
        omega
      · skip
        refine mo_al0 (pc := 7) X dL_put_7 ?_
        refine mo_bipush (pc := 8) X dL_put_8 (by decide) ?_
        refine mo_iald (pc := 10) (j := 62) X dL_put_10 hA (by omega) ?_ ?_ rfl ?_
        · omega
        · omega
        refine mo_bipush (pc := 11) X dL_put_11 (by decide) ?_
        refine mo_ic_ge (pc := 13) (tgt := 37) X dL_put_13 (by decide) ?_ ?_ (fun c_13 => ?_) (fun c_13 => ?_)
        · omega
        · omega
        · exfalso
          omega
        · skip
          refine mo_al0 (pc := 16) X dL_put_16 ?_
          refine mo_al0 (pc := 17) X dL_put_17 ?_
          refine mo_bipush (pc := 18) X dL_put_18 (by decide) ?_
          refine mo_iald (pc := 20) (j := 62) X dL_put_20 hA (by omega) ?_ ?_ rfl ?_
          · omega
          · omega
          refine mo_il3 (pc := 21) X dL_put_21 ?_
          refine mo_iast (pc := 22) (j := (M2 h 62).toNat) X dL_put_22 hA (by omega) ?_ ?_ (by omega) ?_
          · omega
          · omega
          refine mo_al0 (pc := 23) X dL_put_23 ?_
          refine mo_bipush (pc := 24) X dL_put_24 (by decide) ?_
          refine mo_dup2 (pc := 26) X dL_put_26 rfl rfl ?_
          refine mo_iald (pc := 27) (j := 62) X dL_put_27 hA (by omega) ?_ ?_ rfl ?_
          · omega
          · omega
          refine mo_iconst (pc := 28) X dL_put_28 ?_
          rw [mo_ur_s]
          refine mo_iadd (pc := 29) X dL_put_29 ?_
          refine mo_iast (pc := 30) (j := 62) X dL_put_30 hA (by omega) ?_ ?_ rfl ?_
          · omega
          · omega
          rw [mo_ur_ur]
          refine mo_ii3 (pc := 31) X dL_put_31 rfl (by decide) ?_
          refine mo_goto (pc := 34) (tgt := 2) X dL_put_34 (by decide) ?_
          refine ih _ _ _ (by omega) (by omega) ?_ ?_ ?_
          · rw [mo_ur_s, mo_up_s, mo_up_n (by omega)]; omega
          · rw [mo_ur_s, mo_up_s, mo_up_n (by omega)]; omega
          · simp only [mo_ur_s, mo_ur_ur]
            exact e5
  refine mo_il1 (pc := 0) X dL_put_0 ?_
  refine mo_is3 (pc := 1) X dL_put_1 rfl (by decide) ?_
  refine loop z M a a hz ha h0 h1 ?_
  rw [show (c - a).toNat = z by omega]
set_option maxHeartbeats 4000000 in
set_option maxRecDepth 100000 in
theorem ctL_takeOut {lf : Launch} {ρf : mo_E} {G : mo_G} {M : mo_M} {t : Nat} {x h h2 : Nat} (hA : G.1 h = some (.inr (0, 64))) (hW : G.1 h2 = some (.inr (0, 64))) (hne : h ≠ h2) {w u : Int} (hw : mo_In w) (hu : mo_In u) {cnt : Nat} (hc : M h 62 = cnt) (hc6 : cnt ≤ 60) (hN : ∀ j, j < cnt → mo_In (M h j)) (hWb : ∀ j, j < cnt → mo_In (M h2 j)) : mo_Ct lf ρf yL_takeOut cL_takeOut 8 none 0 0 0 [.ref x, .ref h, mo_iv w, mo_iv u, .ref h2] G M t (mo_pv G t (fun M' => M' h = va_up (mo_tq w u (M h) (M h2) cnt).2.1 62 (mo_tq w u (M h) (M h2) cnt).1 ∧ ∀ a, a ≠ h → a ≠ h2 → M' a = M a)) := by
  refine mo_ofW (ls0 := [some (.ref x), some (.ref h), some (mo_iv w), some (mo_iv u), some (.ref h2), none, none, none]) (by decide) rfl (Nat.le_of_ble_eq_true rfl) ?_
  intro κ X Y
  have X : mo_Cx κ lf ρf cL_takeOut 8 RL none 0 := X
  have loop : ∀ (z k : Nat) (M2 : mo_M) (l q : Int) (o7 : Option Value), k + z = cnt → q = k → l = (mo_tq w u (M h) (M h2) k).1 → M2 h = (mo_tq w u (M h) (M h2) k).2.1 → M2 h2 = (mo_tq w u (M h) (M h2) k).2.2 → (∀ a, a ≠ h → a ≠ h2 → M2 a = M a) → mo_V κ 0 0 6 [some (.ref x), some (.ref h), some (mo_iv w), some (mo_iv u), some (.ref h2), some (mo_iv l), some (mo_iv q), o7] [] G M2 t := by
    intro z
    induction z with
    | zero =>
      intro k M2 l q o7 e1 e2 e3 e4 e5 e6
      obtain ⟨v1, v2, v3⟩ := mo_tq_v w u (M h) (M h2) k
      have vl := mo_cn_le (mo_ts w u (M h) (M h2)) k
      have e62 : M2 h 62 = cnt := by rw [e4, (v2 62 (by omega)).1, hc]
      subst e2
      refine mo_il6 (pc := 6) X dL_takeOut_6 ?_
      refine mo_al1 (pc := 8) X dL_takeOut_8 ?_
      refine mo_bipush (pc := 9) X dL_takeOut_9 (by decide) ?_
      refine mo_iald (pc := 11) (j := 62) X dL_takeOut_11 hA (by omega) ?_ ?_ rfl ?_
      · omega
      · omega
      rw [e62]
      refine mo_ic_ge (pc := 12) (tgt := 78) X dL_takeOut_12 (by decide) ?_ ?_ (fun c_12 => ?_) (fun c_12 => ?_)
      · omega
      · omega
      · skip
        refine mo_al1 (pc := 78) X dL_takeOut_78 ?_
        refine mo_bipush (pc := 79) X dL_takeOut_79 (by decide) ?_
        refine mo_il5 (pc := 81) X dL_takeOut_81 ?_
        refine mo_iast (pc := 83) (j := 62) X dL_takeOut_83 hA (by omega) ?_ ?_ rfl ?_
        · omega
        · omega
        refine mo_vret (pc := 84) X Y rfl dL_takeOut_84 ⟨rfl, rfl, rfl, ?_⟩
        obtain rfl : k = cnt := by omega
        refine ⟨?_, fun a h1 h2 => by rw [mo_ur_n h1, e6 a h1 h2]⟩
        rw [mo_ur_s, e4, e3]
      · exfalso
        omega
    | succ z ih =>
      intro k M2 l q o7 e1 e2 e3 e4 e5 e6
      obtain ⟨v1, v2, v3⟩ := mo_tq_v w u (M h) (M h2) k
      have vl := mo_cn_le (mo_ts w u (M h) (M h2)) k
      have e62 : M2 h 62 = cnt := by rw [e4, (v2 62 (by omega)).1, hc]
      have eN : M2 h k = M h k := by rw [e4, (v2 k (Nat.le_refl _)).1]
      have eW : M2 h2 k = M h2 k := by rw [e5, (v2 k (Nat.le_refl _)).2]
      have bN := hN k (by omega)
      have bW := hWb k (by omega)
      subst e2
      refine mo_il6 (pc := 6) X dL_takeOut_6 ?_
      refine mo_al1 (pc := 8) X dL_takeOut_8 ?_
      refine mo_bipush (pc := 9) X dL_takeOut_9 (by decide) ?_
      refine mo_iald (pc := 11) (j := 62) X dL_takeOut_11 hA (by omega) ?_ ?_ rfl ?_
      · omega
      · omega
      rw [e62]
      refine mo_ic_ge (pc := 12) (tgt := 78) X dL_takeOut_12 (by decide) ?_ ?_ (fun c_12 => ?_) (fun c_12 => ?_)
      · omega
      · omega
      · exfalso
        omega
      · skip
        refine mo_al1 (pc := 15) X dL_takeOut_15 ?_
        refine mo_il6 (pc := 16) X dL_takeOut_16 ?_
        refine mo_iald (pc := 18) (j := k) X dL_takeOut_18 hA (by omega) ?_ ?_ (by omega) ?_
        · omega
        · omega
        rw [eN]
        refine mo_il3 (pc := 19) X dL_takeOut_19 ?_
        refine mo_ic_eq (pc := 20) (tgt := 36) X dL_takeOut_20 (by decide) ?_ ?_ (fun c_20 => ?_) (fun c_20 => ?_)
        · omega
        · omega
        · skip
          refine mo_iconst (pc := 36) X dL_takeOut_36 ?_
          refine mo_is7 (pc := 37) X dL_takeOut_37 rfl (by decide) ?_
          refine mo_al1 (pc := 39) X dL_takeOut_39 ?_
          refine mo_il5 (pc := 40) X dL_takeOut_40 ?_
          refine mo_al1 (pc := 42) X dL_takeOut_42 ?_
          refine mo_il6 (pc := 43) X dL_takeOut_43 ?_
          refine mo_iald (pc := 45) (j := k) X dL_takeOut_45 hA (by omega) ?_ ?_ (by omega) ?_
          · omega
          · omega
          refine mo_iast (pc := 46) (j := (mo_tq w u (M h) (M h2) k).1) X dL_takeOut_46 hA (by omega) ?_ ?_ (by omega) ?_
          · omega
          · omega
          refine mo_al4 (pc := 47) X dL_takeOut_47 ?_
          refine mo_il5 (pc := 49) X dL_takeOut_49 ?_
          refine mo_al4 (pc := 51) X dL_takeOut_51 ?_
          refine mo_il6 (pc := 53) X dL_takeOut_53 ?_
          refine mo_iald (pc := 55) (j := k) X dL_takeOut_55 hW (by omega) ?_ ?_ (by omega) ?_
          · omega
          · omega
          refine mo_iast (pc := 56) (j := (mo_tq w u (M h) (M h2) k).1) X dL_takeOut_56 hW (by omega) ?_ ?_ (by omega) ?_
          · omega
          · omega
          refine mo_il5 (pc := 57) X dL_takeOut_57 ?_
          refine mo_il7 (pc := 59) X dL_takeOut_59 ?_
          refine mo_if_eq (pc := 61) (tgt := 68) X dL_takeOut_61 (by decide) ?_ (fun c_61 => ?_) (fun c_61 => ?_)
          · omega
          · skip
            refine mo_iconst (pc := 68) X dL_takeOut_68 ?_
            refine mo_iadd (pc := 69) X dL_takeOut_69 ?_
            refine mo_is5 (pc := 70) X dL_takeOut_70 rfl (by decide) ?_
            refine mo_ii6 (pc := 72) X dL_takeOut_72 rfl (by decide) ?_
            refine mo_goto (pc := 75) (tgt := 6) X dL_takeOut_75 (by decide) ?_
            have T1 : (mo_tq w u (M h) (M h2) (k + 1)).1 = (mo_tq w u (M h) (M h2) k).1 := by
              rw [mo_tq, (v2 k (Nat.le_refl _)).1, (v2 k (Nat.le_refl _)).2]
              simp only
              rw [if_neg (by omega)]
            refine ih (k + 1) _ _ _ _ (by omega) (by omega) (by rw [T1]; omega) ?_ ?_ (fun a h1 h2 => by rw [mo_ur_n h2, mo_ur_n h1, e6 a h1 h2])
            · rw [mo_ur_n hne, mo_ur_s, mo_tq, e4, (v2 k (Nat.le_refl _)).1]
            · rw [mo_ur_s, mo_tq, mo_ur_n (fun e => hne e.symm), e5, (v2 k (Nat.le_refl _)).2]
          · exfalso; omega
        · skip
          refine mo_al4 (pc := 23) X dL_takeOut_23 ?_
          refine mo_il6 (pc := 25) X dL_takeOut_25 ?_
          refine mo_iald (pc := 27) (j := k) X dL_takeOut_27 hW (by omega) ?_ ?_ (by omega) ?_
          · omega
          · omega
          rw [eW]
          refine mo_il2 (pc := 28) X dL_takeOut_28 ?_
          refine mo_ic_lt (pc := 29) (tgt := 36) X dL_takeOut_29 (by decide) ?_ ?_ (fun c_29 => ?_) (fun c_29 => ?_)
          · omega
          · omega
          · skip
            refine mo_iconst (pc := 36) X dL_takeOut_36 ?_
            refine mo_is7 (pc := 37) X dL_takeOut_37 rfl (by decide) ?_
            refine mo_al1 (pc := 39) X dL_takeOut_39 ?_
            refine mo_il5 (pc := 40) X dL_takeOut_40 ?_
            refine mo_al1 (pc := 42) X dL_takeOut_42 ?_
            refine mo_il6 (pc := 43) X dL_takeOut_43 ?_
            refine mo_iald (pc := 45) (j := k) X dL_takeOut_45 hA (by omega) ?_ ?_ (by omega) ?_
            · omega
            · omega
            refine mo_iast (pc := 46) (j := (mo_tq w u (M h) (M h2) k).1) X dL_takeOut_46 hA (by omega) ?_ ?_ (by omega) ?_
            · omega
            · omega
            refine mo_al4 (pc := 47) X dL_takeOut_47 ?_
            refine mo_il5 (pc := 49) X dL_takeOut_49 ?_
            refine mo_al4 (pc := 51) X dL_takeOut_51 ?_
            refine mo_il6 (pc := 53) X dL_takeOut_53 ?_
            refine mo_iald (pc := 55) (j := k) X dL_takeOut_55 hW (by omega) ?_ ?_ (by omega) ?_
            · omega
            · omega
            refine mo_iast (pc := 56) (j := (mo_tq w u (M h) (M h2) k).1) X dL_takeOut_56 hW (by omega) ?_ ?_ (by omega) ?_
            · omega
            · omega
            refine mo_il5 (pc := 57) X dL_takeOut_57 ?_
            refine mo_il7 (pc := 59) X dL_takeOut_59 ?_
            refine mo_if_eq (pc := 61) (tgt := 68) X dL_takeOut_61 (by decide) ?_ (fun c_61 => ?_) (fun c_61 => ?_)
            · omega
            · skip
              refine mo_iconst (pc := 68) X dL_takeOut_68 ?_
              refine mo_iadd (pc := 69) X dL_takeOut_69 ?_
              refine mo_is5 (pc := 70) X dL_takeOut_70 rfl (by decide) ?_
              refine mo_ii6 (pc := 72) X dL_takeOut_72 rfl (by decide) ?_
              refine mo_goto (pc := 75) (tgt := 6) X dL_takeOut_75 (by decide) ?_
              have T1 : (mo_tq w u (M h) (M h2) (k + 1)).1 = (mo_tq w u (M h) (M h2) k).1 := by
                rw [mo_tq, (v2 k (Nat.le_refl _)).1, (v2 k (Nat.le_refl _)).2]
                simp only
                rw [if_neg (by omega)]
              refine ih (k + 1) _ _ _ _ (by omega) (by omega) (by rw [T1]; omega) ?_ ?_ (fun a h1 h2 => by rw [mo_ur_n h2, mo_ur_n h1, e6 a h1 h2])
              · rw [mo_ur_n hne, mo_ur_s, mo_tq, e4, (v2 k (Nat.le_refl _)).1]
              · rw [mo_ur_s, mo_tq, mo_ur_n (fun e => hne e.symm), e5, (v2 k (Nat.le_refl _)).2]
            · exfalso; omega
          · skip
            refine mo_iconst (pc := 32) X dL_takeOut_32 ?_
            refine mo_goto (pc := 33) (tgt := 37) X dL_takeOut_33 (by decide) ?_
            refine mo_is7 (pc := 37) X dL_takeOut_37 rfl (by decide) ?_
            refine mo_al1 (pc := 39) X dL_takeOut_39 ?_
            refine mo_il5 (pc := 40) X dL_takeOut_40 ?_
            refine mo_al1 (pc := 42) X dL_takeOut_42 ?_
            refine mo_il6 (pc := 43) X dL_takeOut_43 ?_
            refine mo_iald (pc := 45) (j := k) X dL_takeOut_45 hA (by omega) ?_ ?_ (by omega) ?_
            · omega
            · omega
            refine mo_iast (pc := 46) (j := (mo_tq w u (M h) (M h2) k).1) X dL_takeOut_46 hA (by omega) ?_ ?_ (by omega) ?_
            · omega
            · omega
            refine mo_al4 (pc := 47) X dL_takeOut_47 ?_
            refine mo_il5 (pc := 49) X dL_takeOut_49 ?_
            refine mo_al4 (pc := 51) X dL_takeOut_51 ?_
            refine mo_il6 (pc := 53) X dL_takeOut_53 ?_
            refine mo_iald (pc := 55) (j := k) X dL_takeOut_55 hW (by omega) ?_ ?_ (by omega) ?_
            · omega
            · omega
            refine mo_iast (pc := 56) (j := (mo_tq w u (M h) (M h2) k).1) X dL_takeOut_56 hW (by omega) ?_ ?_ (by omega) ?_
            · omega
            · omega
            refine mo_il5 (pc := 57) X dL_takeOut_57 ?_
            refine mo_il7 (pc := 59) X dL_takeOut_59 ?_
            refine mo_if_eq (pc := 61) (tgt := 68) X dL_takeOut_61 (by decide) ?_ (fun c_61 => ?_) (fun c_61 => ?_)
            · omega
            · exfalso; omega
            · skip
              refine mo_iconst (pc := 64) X dL_takeOut_64 ?_
              refine mo_goto (pc := 65) (tgt := 69) X dL_takeOut_65 (by decide) ?_
              refine mo_iadd (pc := 69) X dL_takeOut_69 ?_
              refine mo_is5 (pc := 70) X dL_takeOut_70 rfl (by decide) ?_
              refine mo_ii6 (pc := 72) X dL_takeOut_72 rfl (by decide) ?_
              refine mo_goto (pc := 75) (tgt := 6) X dL_takeOut_75 (by decide) ?_
              have T1 : (mo_tq w u (M h) (M h2) (k + 1)).1 = (mo_tq w u (M h) (M h2) k).1 + 1 := by
                rw [mo_tq, (v2 k (Nat.le_refl _)).1, (v2 k (Nat.le_refl _)).2]
                simp only
                rw [if_pos (by omega)]
              refine ih (k + 1) _ _ _ _ (by omega) (by omega) (by rw [T1]; omega) ?_ ?_ (fun a h1 h2 => by rw [mo_ur_n h2, mo_ur_n h1, e6 a h1 h2])
              · rw [mo_ur_n hne, mo_ur_s, mo_tq, e4, (v2 k (Nat.le_refl _)).1]
              · rw [mo_ur_s, mo_tq, mo_ur_n (fun e => hne e.symm), e5, (v2 k (Nat.le_refl _)).2]
  refine mo_iconst (pc := 0) X dL_takeOut_0 ?_
  refine mo_is5 (pc := 1) X dL_takeOut_1 rfl (by decide) ?_
  refine mo_iconst (pc := 3) X dL_takeOut_3 ?_
  refine mo_is6 (pc := 4) X dL_takeOut_4 rfl (by decide) ?_
  exact loop cnt 0 M 0 0 none (by omega) rfl rfl rfl rfl (fun a _ _ => rfl)
