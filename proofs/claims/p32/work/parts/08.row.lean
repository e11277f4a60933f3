def mo_sum (f : Nat → Int) : Nat → Int
  | 0 => 0
  | n + 1 => mo_sum f n + f n
def mo_clr (f : Nat → Int) (n : Nat) : Nat → Int := fun j => if j < n then 0 else f j
theorem mo_clr_s (f : Nat → Int) (n : Nat) : va_up (mo_clr f n) n 0 = mo_clr f (n + 1) := by
  funext j
  unfold va_up mo_clr
  by_cases h : j = n
  · rw [if_pos h, if_pos (by omega)]
  · rw [if_neg h]
    by_cases h2 : j < n
    · rw [if_pos h2, if_pos (by omega)]
    · rw [if_neg h2, if_neg (by omega)]
theorem mo_clr_0 (f : Nat → Int) : mo_clr f 0 = f := by
  funext j
  simp [mo_clr]
theorem mo_cpy_0 (f g : Nat → Int) (n j : Nat) : va_cpy f g 0 0 n j = if j < n then f j else g j := by
  unfold va_cpy
  by_cases h : j < n
  · rw [if_pos ⟨Nat.zero_le _, by omega⟩, if_pos h]
    congr 1
    omega
  · rw [if_neg (by omega), if_neg h]
set_option maxHeartbeats 4000000 in
set_option maxRecDepth 100000 in
theorem ct_get {lf : Launch} {ρf : mo_E} {G : mo_G} {M : mo_M} {t : Nat} {r n a : Nat} (hr : mo_Row G r n) (ha : r + 1 = a) (hn : (n : Int) ≤ 2147483647) {i : Int} {j : Nat} (hj : i.toNat = j) (h0 : 0 ≤ i) (h1 : i < n) : mo_Ct lf ρf yX1_get cX1_get 2 (some .int) 0 0 0 [.ref r, mo_iv i] G M t (mo_pi G t (fun x M' => x = M a j ∧ M = M')) := by
  refine mo_ofW (ls0 := [some (.ref r), some (mo_iv i)]) (by decide) rfl (Nat.le_of_ble_eq_true rfl) ?_
  intro κ X Y
  have X : mo_Cx κ lf ρf cX1_get 2 RX1 (some .int) 0 := X
  subst ha
  subst hj
  refine mo_il1 (pc := 0) X dX1_get_0 ?_
  refine mo_if_lt (pc := 1) (tgt := 22) X dX1_get_1 (by decide) ?_ (fun c_1 => ?_) (fun c_1 => ?_)
  · omega
  · exfalso; omega
  · skip
    refine mo_il1 (pc := 4) X dX1_get_4 ?_
    refine mo_al0 (pc := 5) X dX1_get_5 ?_
    refine mo_f_X1_7 (pc := 6) X dX1_get_6 hr.1 hr.2.1 ?_
    refine mo_alenI (pc := 9) X dX1_get_9 hr.2.2 ?_
    refine mo_ic_ge (pc := 10) (tgt := 22) X dX1_get_10 (by decide) ?_ ?_ (fun c_10 => ?_) (fun c_10 => ?_)
    · omega
    · omega
    · exfalso; omega
    · skip
      refine mo_al0 (pc := 13) X dX1_get_13 ?_
      refine mo_f_X1_7 (pc := 14) X dX1_get_14 hr.1 hr.2.1 ?_
      refine mo_il1 (pc := 17) X dX1_get_17 ?_
      refine mo_iald (pc := 18) X dX1_get_18 hr.2.2 (by omega) ?_ ?_ rfl ?_
      · omega
      · omega
      refine mo_goto (pc := 19) (tgt := 23) X dX1_get_19 (by decide) ?_
      refine mo_iret (pc := 23) X Y rfl dX1_get_23 ⟨rfl, rfl, _, rfl, ?_⟩
      exact ⟨rfl, rfl⟩
set_option maxHeartbeats 4000000 in
set_option maxRecDepth 100000 in
theorem ct_set {lf : Launch} {ρf : mo_E} {G : mo_G} {M : mo_M} {t : Nat} {r n a : Nat} (hr : mo_Row G r n) (ha : r + 1 = a) (hn : (n : Int) ≤ 2147483647) {i v : Int} {j : Nat} (hj : i.toNat = j) (h0 : 0 ≤ i) (h1 : i < n) : mo_Ct lf ρf yX1_set cX1_set 3 none 0 0 0 [.ref r, mo_iv i, mo_iv v] G M t (mo_pv G t (fun M' => M' = mo_ur M a (va_up (M a) j v))) := by
  refine mo_ofW (ls0 := [some (.ref r), some (mo_iv i), some (mo_iv v)]) (by decide) rfl (Nat.le_of_ble_eq_true rfl) ?_
  intro κ X Y
  have X : mo_Cx κ lf ρf cX1_set 3 RX1 none 0 := X
  subst ha
  subst hj
  refine mo_il1 (pc := 0) X dX1_set_0 ?_
  refine mo_if_lt (pc := 1) (tgt := 20) X dX1_set_1 (by decide) ?_ (fun c_1 => ?_) (fun c_1 => ?_)
  · omega
  · exfalso; omega
  · skip
    refine mo_il1 (pc := 4) X dX1_set_4 ?_
    refine mo_al0 (pc := 5) X dX1_set_5 ?_
    refine mo_f_X1_7 (pc := 6) X dX1_set_6 hr.1 hr.2.1 ?_
    refine mo_alenI (pc := 9) X dX1_set_9 hr.2.2 ?_
    refine mo_ic_ge (pc := 10) (tgt := 20) X dX1_set_10 (by decide) ?_ ?_ (fun c_10 => ?_) (fun c_10 => ?_)
    · omega
    · omega
    · exfalso; omega
    · skip
      refine mo_al0 (pc := 13) X dX1_set_13 ?_
      refine mo_f_X1_7 (pc := 14) X dX1_set_14 hr.1 hr.2.1 ?_
      refine mo_il1 (pc := 17) X dX1_set_17 ?_
      refine mo_il2 (pc := 18) X dX1_set_18 ?_
      refine mo_iast (pc := 19) X dX1_set_19 hr.2.2 (by omega) ?_ ?_ rfl ?_
      · omega
      · omega
      refine mo_vret (pc := 20) X Y rfl dX1_set_20 ⟨rfl, rfl, rfl, ?_⟩
      rfl
set_option maxHeartbeats 4000000 in
set_option maxRecDepth 100000 in
theorem ct_add {lf : Launch} {ρf : mo_E} {G : mo_G} {M : mo_M} {t : Nat} {r n a : Nat} (hr : mo_Row G r n) (ha : r + 1 = a) (hn : (n : Int) ≤ 2147483647) {i v : Int} {j : Nat} (hj : i.toNat = j) (h0 : 0 ≤ i) (h1 : i < n) : mo_Ct lf ρf yX1_add cX1_add 3 none 0 0 0 [.ref r, mo_iv i, mo_iv v] G M t (mo_pv G t (fun M' => M' = mo_ur M a (va_up (M a) j (M a j + v)))) := by
  refine mo_ofW (ls0 := [some (.ref r), some (mo_iv i), some (mo_iv v)]) (by decide) rfl (Nat.le_of_ble_eq_true rfl) ?_
  intro κ X Y
  have X : mo_Cx κ lf ρf cX1_add 3 RX1 none 0 := X
  subst ha
  subst hj
  refine mo_il1 (pc := 0) X dX1_add_0 ?_
  refine mo_if_lt (pc := 1) (tgt := 23) X dX1_add_1 (by decide) ?_ (fun c_1 => ?_) (fun c_1 => ?_)
  · omega
  · exfalso; omega
  · skip
    refine mo_il1 (pc := 4) X dX1_add_4 ?_
    refine mo_al0 (pc := 5) X dX1_add_5 ?_
    refine mo_f_X1_7 (pc := 6) X dX1_add_6 hr.1 hr.2.1 ?_
    refine mo_alenI (pc := 9) X dX1_add_9 hr.2.2 ?_
    refine mo_ic_ge (pc := 10) (tgt := 23) X dX1_add_10 (by decide) ?_ ?_ (fun c_10 => ?_) (fun c_10 => ?_)
    · omega
    · omega
    · exfalso; omega
    · skip
      refine mo_al0 (pc := 13) X dX1_add_13 ?_
      refine mo_f_X1_7 (pc := 14) X dX1_add_14 hr.1 hr.2.1 ?_
      refine mo_il1 (pc := 17) X dX1_add_17 ?_
      refine mo_dup2 (pc := 18) X dX1_add_18 rfl rfl ?_
      refine mo_iald (pc := 19) X dX1_add_19 hr.2.2 (by omega) ?_ ?_ rfl ?_
      · omega
      · omega
      refine mo_il2 (pc := 20) X dX1_add_20 ?_
      refine mo_iadd (pc := 21) X dX1_add_21 ?_
      refine mo_iast (pc := 22) X dX1_add_22 hr.2.2 (by omega) ?_ ?_ rfl ?_
      · omega
      · omega
      refine mo_vret (pc := 23) X Y rfl dX1_add_23 ⟨rfl, rfl, rfl, ?_⟩
      rfl
set_option maxHeartbeats 4000000 in
set_option maxRecDepth 100000 in
theorem ct_mark {lf : Launch} {ρf : mo_E} {G : mo_G} {M : mo_M} {t : Nat} {r n a : Nat} (hr : mo_Row G r n) (ha : r + 1 = a) (hn : (n : Int) ≤ 2147483647) {i v : Int} {j : Nat} (hj : i.toNat = j) (h0 : 0 ≤ i) (h1 : i < n) : mo_Ct lf ρf yX1_mark cX1_mark 3 none 0 0 0 [.ref r, mo_iv i, mo_iv v] G M t (mo_pv G t (fun M' => M' = mo_ur M a (va_up (M a) j (mo_or (M a j) v)))) := by
  refine mo_ofW (ls0 := [some (.ref r), some (mo_iv i), some (mo_iv v)]) (by decide) rfl (Nat.le_of_ble_eq_true rfl) ?_
  intro κ X Y
  have X : mo_Cx κ lf ρf cX1_mark 3 RX1 none 0 := X
  subst ha
  subst hj
  refine mo_il1 (pc := 0) X dX1_mark_0 ?_
  refine mo_if_lt (pc := 1) (tgt := 23) X dX1_mark_1 (by decide) ?_ (fun c_1 => ?_) (fun c_1 => ?_)
  · omega
  · exfalso; omega
  · skip
    refine mo_il1 (pc := 4) X dX1_mark_4 ?_
    refine mo_al0 (pc := 5) X dX1_mark_5 ?_
    refine mo_f_X1_7 (pc := 6) X dX1_mark_6 hr.1 hr.2.1 ?_
    refine mo_alenI (pc := 9) X dX1_mark_9 hr.2.2 ?_
    refine mo_ic_ge (pc := 10) (tgt := 23) X dX1_mark_10 (by decide) ?_ ?_ (fun c_10 => ?_) (fun c_10 => ?_)
    · omega
    · omega
    · exfalso; omega
    · skip
      refine mo_al0 (pc := 13) X dX1_mark_13 ?_
      refine mo_f_X1_7 (pc := 14) X dX1_mark_14 hr.1 hr.2.1 ?_
      refine mo_il1 (pc := 17) X dX1_mark_17 ?_
      refine mo_dup2 (pc := 18) X dX1_mark_18 rfl rfl ?_
      refine mo_iald (pc := 19) X dX1_mark_19 hr.2.2 (by omega) ?_ ?_ rfl ?_
      · omega
      · omega
      refine mo_il2 (pc := 20) X dX1_mark_20 ?_
      refine mo_ior (pc := 21) X dX1_mark_21 ?_
      refine mo_iast (pc := 22) X dX1_mark_22 hr.2.2 (by omega) ?_ ?_ rfl ?_
      · omega
      · omega
      refine mo_vret (pc := 23) X Y rfl dX1_mark_23 ⟨rfl, rfl, rfl, ?_⟩
      rfl
set_option maxHeartbeats 4000000 in
set_option maxRecDepth 100000 in
theorem ct_sum {lf : Launch} {ρf : mo_E} {G : mo_G} {M : mo_M} {t : Nat} {r n a : Nat} (hr : mo_Row G r n) (ha : r + 1 = a) (hn : (n : Int) ≤ 2147483647) : mo_Ct lf ρf yX1_sum cX1_sum 3 (some .int) 0 0 0 [.ref r] G M t (mo_pi G t (fun x M' => x = mo_sum (M a) n ∧ M = M')) := by
  refine mo_ofW (ls0 := [some (.ref r), none, none]) (by decide) rfl (Nat.le_of_ble_eq_true rfl) ?_
  intro κ X Y
  have X : mo_Cx κ lf ρf cX1_sum 3 RX1 (some .int) 0 := X
  subst ha
  have loop : ∀ (z i : Nat) (s x : Int), i + z = n → x = i → s = mo_sum (M (r + 1)) i → mo_V κ 0 0 4 [some (.ref r), some (mo_iv s), some (mo_iv x)] [] G M t := by
    intro z
    induction z with
    | zero =>
      intro i s x hi hx hs
      refine mo_il2 (pc := 4) X dX1_sum_4 ?_
      refine mo_al0 (pc := 5) X dX1_sum_5 ?_
      refine mo_f_X1_7 (pc := 6) X dX1_sum_6 hr.1 hr.2.1 ?_
      refine mo_alenI (pc := 9) X dX1_sum_9 hr.2.2 ?_
      refine mo_ic_ge (pc := 10) (tgt := 28) X dX1_sum_10 (by decide) ?_ ?_ (fun c_10 => ?_) (fun c_10 => ?_)
      · omega
      · omega
      · skip
        refine mo_il1 (pc := 28) X dX1_sum_28 ?_
        refine mo_iret (pc := 29) X Y rfl dX1_sum_29 ⟨rfl, rfl, _, rfl, ?_⟩
        refine ⟨?_, rfl⟩
        rw [hs]
        congr 1
      · exfalso; omega
    | succ z ih =>
      intro i s x hi hx hs
      refine mo_il2 (pc := 4) X dX1_sum_4 ?_
      refine mo_al0 (pc := 5) X dX1_sum_5 ?_
      refine mo_f_X1_7 (pc := 6) X dX1_sum_6 hr.1 hr.2.1 ?_
      refine mo_alenI (pc := 9) X dX1_sum_9 hr.2.2 ?_
      refine mo_ic_ge (pc := 10) (tgt := 28) X dX1_sum_10 (by decide) ?_ ?_ (fun c_10 => ?_) (fun c_10 => ?_)
      · omega
      · omega
      · exfalso; omega
      · skip
        refine mo_il1 (pc := 13) X dX1_sum_13 ?_
        refine mo_al0 (pc := 14) X dX1_sum_14 ?_
        refine mo_f_X1_7 (pc := 15) X dX1_sum_15 hr.1 hr.2.1 ?_
        refine mo_il2 (pc := 18) X dX1_sum_18 ?_
        refine mo_iald (pc := 19) X dX1_sum_19 hr.2.2 (by omega) ?_ ?_ rfl ?_
        · omega
        · omega
        refine mo_iadd (pc := 20) X dX1_sum_20 ?_
        refine mo_is1 (pc := 21) X dX1_sum_21 rfl (by decide) ?_
        refine mo_ii2 (pc := 22) X dX1_sum_22 rfl (by decide) ?_
        refine mo_goto (pc := 25) (tgt := 4) X dX1_sum_25 (by decide) ?_
        refine ih (i + 1) _ _ (by omega) (by omega) ?_
        rw [hs, hx]
        rfl
  refine mo_iconst (pc := 0) X dX1_sum_0 ?_
  refine mo_is1 (pc := 1) X dX1_sum_1 rfl (by decide) ?_
  refine mo_iconst (pc := 2) X dX1_sum_2 ?_
  refine mo_is2 (pc := 3) X dX1_sum_3 rfl (by decide) ?_
  exact loop n 0 0 0 (by omega) rfl rfl
set_option maxHeartbeats 4000000 in
set_option maxRecDepth 100000 in
theorem ct_clear {lf : Launch} {ρf : mo_E} {G : mo_G} {M : mo_M} {t : Nat} {r n a : Nat} (hr : mo_Row G r n) (ha : r + 1 = a) (hn : (n : Int) ≤ 2147483647) : mo_Ct lf ρf yX1_clear cX1_clear 2 none 0 0 0 [.ref r] G M t (mo_pv G t (fun M' => M' = mo_ur M a (mo_clr (M a) n))) := by
  refine mo_ofW (ls0 := [some (.ref r), none]) (by decide) rfl (Nat.le_of_ble_eq_true rfl) ?_
  intro κ X Y
  have X : mo_Cx κ lf ρf cX1_clear 2 RX1 none 0 := X
  subst ha
  have loop : ∀ (z i : Nat) (x : Int) (M1 : mo_M), i + z = n → x = i → M1 = mo_ur M (r + 1) (mo_clr (M (r + 1)) i) → mo_V κ 0 0 2 [some (.ref r), some (mo_iv x)] [] G M1 t := by
    intro z
    induction z with
    | zero =>
      intro i x M1 hi hx hM
      refine mo_il1 (pc := 2) X dX1_clear_2 ?_
      refine mo_al0 (pc := 3) X dX1_clear_3 ?_
      refine mo_f_X1_7 (pc := 4) X dX1_clear_4 hr.1 hr.2.1 ?_
      refine mo_alenI (pc := 7) X dX1_clear_7 hr.2.2 ?_
      refine mo_ic_ge (pc := 8) (tgt := 24) X dX1_clear_8 (by decide) ?_ ?_ (fun c_8 => ?_) (fun c_8 => ?_)
      · omega
      · omega
      · skip
        refine mo_vret (pc := 24) X Y rfl dX1_clear_24 ⟨rfl, rfl, rfl, ?_⟩
        show M1 = _
        rw [hM, show i = n by omega]
      · exfalso; omega
    | succ z ih =>
      intro i x M1 hi hx hM
      refine mo_il1 (pc := 2) X dX1_clear_2 ?_
      refine mo_al0 (pc := 3) X dX1_clear_3 ?_
      refine mo_f_X1_7 (pc := 4) X dX1_clear_4 hr.1 hr.2.1 ?_
      refine mo_alenI (pc := 7) X dX1_clear_7 hr.2.2 ?_
      refine mo_ic_ge (pc := 8) (tgt := 24) X dX1_clear_8 (by decide) ?_ ?_ (fun c_8 => ?_) (fun c_8 => ?_)
      · omega
      · omega
      · exfalso; omega
      · skip
        refine mo_al0 (pc := 11) X dX1_clear_11 ?_
        refine mo_f_X1_7 (pc := 12) X dX1_clear_12 hr.1 hr.2.1 ?_
        refine mo_il1 (pc := 15) X dX1_clear_15 ?_
        refine mo_iconst (pc := 16) X dX1_clear_16 ?_
        refine mo_iast (pc := 17) X dX1_clear_17 hr.2.2 (by omega) ?_ ?_ rfl ?_
        · omega
        · omega
        refine mo_ii1 (pc := 18) X dX1_clear_18 rfl (by decide) ?_
        refine mo_goto (pc := 21) (tgt := 2) X dX1_clear_21 (by decide) ?_
        refine ih (i + 1) _ _ (by omega) (by omega) ?_
        rw [hM, hx, mo_ur_ur, mo_ur_s, Int.toNat_natCast, mo_clr_s]
  refine mo_iconst (pc := 0) X dX1_clear_0 ?_
  refine mo_is1 (pc := 1) X dX1_clear_1 rfl (by decide) ?_
  exact loop n 0 0 _ (by omega) rfl (by rw [mo_clr_0, mo_ur_id])
set_option maxHeartbeats 4000000 in
set_option maxRecDepth 100000 in
theorem ct_copyRow {lf : Launch} {ρf : mo_E} {G : mo_G} {M : mo_M} {t : Nat} {r n a : Nat} (hr : mo_Row G r n) (ha : r + 1 = a) (hn : (n : Int) ≤ 2147483647) {q b : Nat} (hq : mo_Row G q n) (hb : q + 1 = b) : mo_Ct lf ρf yX1_copyFrom cX1_copyFrom 2 none 1 0 0 [.ref r, .ref q] G M t (mo_pv G t (fun M' => M' = mo_ur M a (va_cpy (M b) (M a) 0 0 n))) := by
  refine mo_ofW (ls0 := [some (.ref r), some (.ref q)]) (by decide) rfl (Nat.le_of_ble_eq_true rfl) ?_
  intro κ X Y
  have X : mo_Cx κ lf ρf cX1_copyFrom 2 RX1 none 1 := X
  subst ha
  subst hb
  refine mo_al1 (pc := 0) X dX1_copyFrom_0 ?_
  refine mo_ifnull (pc := 1) X dX1_copyFrom_1 ?_
  refine mo_al1 (pc := 4) X dX1_copyFrom_4 ?_
  refine mo_f_X1_7 (pc := 5) X dX1_copyFrom_5 hq.1 hq.2.1 ?_
  refine mo_iconst (pc := 8) X dX1_copyFrom_8 ?_
  refine mo_al0 (pc := 9) X dX1_copyFrom_9 ?_
  refine mo_f_X1_7 (pc := 10) X dX1_copyFrom_10 hr.1 hr.2.1 ?_
  refine mo_iconst (pc := 13) X dX1_copyFrom_13 ?_
  refine mo_al1 (pc := 14) X dX1_copyFrom_14 ?_
  refine mo_f_X1_7 (pc := 15) X dX1_copyFrom_15 hq.1 hq.2.1 ?_
  refine mo_alenI (pc := 18) X dX1_copyFrom_18 hq.2.2 ?_
  refine mo_al0 (pc := 19) X dX1_copyFrom_19 ?_
  refine mo_f_X1_7 (pc := 20) X dX1_copyFrom_20 hr.1 hr.2.1 ?_
  refine mo_alenI (pc := 23) X dX1_copyFrom_23 hr.2.2 ?_
  refine mo_min (pc := 24) X dX1_copyFrom_24 mo_wm_X1_13 ?_ ?_ (by decide) (Nat.le_of_ble_eq_true rfl) ⟨rfl, rfl⟩ ?_
  · omega
  · omega
  rw [if_neg (Int.lt_irrefl _)]
  refine mo_copy (pc := 27) X dX1_copyFrom_27 mo_wm_X1_19 hq.2.2 hr.2.2 ?_ ?_ ?_ ?_ ?_ ?_ ?_ (by decide) (Nat.le_of_ble_eq_true rfl) ?_
  · omega
  · omega
  · omega
  · omega
  · omega
  · omega
  · omega
  refine mo_vret (pc := 30) X Y rfl dX1_copyFrom_30 ⟨rfl, rfl, rfl, ?_⟩
  rfl
