theorem mo_ur_cm {M : mo_M} {a b : Nat} {f g : Nat → Int} (h : a ≠ b) : mo_ur (mo_ur M a f) b g = mo_ur (mo_ur M b g) a f := by
  funext z
  by_cases c1 : z = a
  · rw [c1, mo_ur_n h, mo_ur_s, mo_ur_s]
  · by_cases c2 : z = b
    · rw [c2, mo_ur_s, mo_ur_n (Ne.symm h), mo_ur_s]
    · rw [mo_ur_n c2, mo_ur_n c1, mo_ur_n c1, mo_ur_n c2]
set_option maxHeartbeats 4000000 in
set_option maxRecDepth 100000 in
theorem ct5_here {lf : Launch} {ρf : mo_E} {G : mo_G} {M : mo_M} {t : Nat} {m : Nat} (hm : mo_Md G m) {n p : Nat} (hn : n ≤ 100) (h10 : M m 10 = n) (h11 : M m 11 = p) (hp : p ≤ 2000) (hr : ∀ j, j < n → 0 ≤ M (m + 8) j ∧ M (m + 8) j ≤ 127) : mo_Ct lf ρf yX5_here cX5_here 1 (some .int) 0 0 0 [.ref m] G M t (mo_pi G t (fun y M' => y = mo_bh (M (m + 8)) n p ∧ M = M')) := by
  refine mo_ofW (ls0 := [some (.ref m)]) (by decide) rfl (Nat.le_of_ble_eq_true rfl) ?_
  intro κ X Y
  have X : mo_Cx κ lf ρf cX5_here 1 RX5 (some .int) 0 := X
  refine mo_al0 (pc := 0) X dX5_here_0 ?_
  refine mo_f_X5_214 (pc := 1) X dX5_here_1 (mo_Md_o hm) ?_
  rw [h11]
  refine mo_al0 (pc := 4) X dX5_here_4 ?_
  refine mo_f_X5_211 (pc := 5) X dX5_here_5 (mo_Md_o hm) ?_
  rw [h10]
  refine mo_ic_ge (pc := 8) (tgt := 23) X dX5_here_8 (by decide) ?_ ?_ (fun c_8 => ?_) (fun c_8 => ?_)
  · omega
  · omega
  · skip
    refine mo_iconst (pc := 23) X dX5_here_23 ?_
    refine mo_iret (pc := 24) X Y rfl dX5_here_24 ⟨rfl, rfl, _, rfl, ?_⟩
    first
    | (refine ⟨?_, rfl⟩; unfold mo_bh; rw [if_neg (by omega)])
    | (refine ⟨?_, rfl⟩; unfold mo_bh; rw [if_pos (by omega)])
  · skip
    refine mo_al0 (pc := 11) X dX5_here_11 ?_
    refine mo_f_X5_31 (pc := 12) X dX5_here_12 (mo_Md_o hm) (mo_Md_p9 hm) ?_
    refine mo_al0 (pc := 15) X dX5_here_15 ?_
    refine mo_f_X5_214 (pc := 16) X dX5_here_16 (mo_Md_o hm) ?_
    rw [h11]
    refine mo_iald (pc := 19) (j := p) X dX5_here_19 (mo_Md_r9 hm) (by omega) ?_ ?_ (by omega) ?_
    · omega
    · omega
    refine mo_goto (pc := 20) (tgt := 24) X dX5_here_20 (by decide) ?_
    refine mo_iret (pc := 24) X Y rfl dX5_here_24 ⟨rfl, rfl, _, rfl, ?_⟩
    first
    | (refine ⟨?_, rfl⟩; unfold mo_bh; rw [if_neg (by omega)])
    | (refine ⟨?_, rfl⟩; unfold mo_bh; rw [if_pos (by omega)])
set_option maxHeartbeats 4000000 in
set_option maxRecDepth 100000 in
theorem ct5_takesByte {lf : Launch} {ρf : mo_E} {G : mo_G} {M : mo_M} {t : Nat} {m : Nat} (hm : mo_Md G m) {n p : Nat} (hn : n ≤ 100) (h10 : M m 10 = n) (h11 : M m 11 = p) (hp : p ≤ 1000) (hr : ∀ j, j < n → 0 ≤ M (m + 8) j ∧ M (m + 8) j ≤ 127) {c : Int} (hc : mo_In c) : mo_Ct lf ρf yX5_takesByte cX5_takesByte 3 (some .boolean) 1 0 0 [.ref m, mo_iv c] G M t (mo_pi G t (fun y M' => ((y = 1 ∧ mo_bh (M (m + 8)) n p = c) ∨ (y = 0 ∧ ¬ (mo_bh (M (m + 8)) n p = c))) ∧ M' = mo_ur M m (va_up (M m) 11 (if mo_bh (M (m + 8)) n p = c then (p : Int) + 1 else p)))) := by
  refine mo_ofW (ls0 := [some (.ref m), some (mo_iv c), none]) (by decide) rfl (Nat.le_of_ble_eq_true rfl) ?_
  intro κ X Y
  have X : mo_Cx κ lf ρf cX5_takesByte 3 RX5 (some .boolean) 1 := X
  have hbr : ∀ q, -1 ≤ mo_bh (M (m + 8)) n q ∧ mo_bh (M (m + 8)) n q ≤ 127 := fun q => by
    unfold mo_bh
    split
    · rename_i c; have := hr q c; omega
    · omega
  have hbp := hbr p
  refine mo_al0 (pc := 0) X dX5_takesByte_0 ?_
  refine mo_cVI (pc := 1) (As := []) X mo_k_X5_217 mo_y_yX5_here rfl dX5_takesByte_1 (ct5_here hm hn h10 h11 (by omega) hr) (mo_Md_o hm) rfl (by decide) (by decide) (Nat.le_of_ble_eq_true rfl) ?_
  rintro r_1 _ ⟨h_1, rfl⟩
  refine mo_il1 (pc := 4) X dX5_takesByte_4 ?_
  refine mo_ic_ne (pc := 5) (tgt := 12) X dX5_takesByte_5 (by decide) ?_ ?_ (fun c_5 => ?_) (fun c_5 => ?_)
  · omega
  · omega
  · skip
    refine mo_iconst (pc := 12) X dX5_takesByte_12 ?_
    refine mo_is2 (pc := 13) X dX5_takesByte_13 rfl (by decide) ?_
    refine mo_al0 (pc := 14) X dX5_takesByte_14 ?_
    refine mo_dup (pc := 15) X dX5_takesByte_15 rfl ?_
    refine mo_f_X5_214 (pc := 16) X dX5_takesByte_16 (mo_Md_o hm) ?_
    rw [h11]
    refine mo_il2 (pc := 19) X dX5_takesByte_19 ?_
    refine mo_if_eq (pc := 20) (tgt := 27) X dX5_takesByte_20 (by decide) ?_ (fun c_20 => ?_) (fun c_20 => ?_)
    · omega
    · skip
      refine mo_iconst (pc := 27) X dX5_takesByte_27 ?_
      refine mo_iadd (pc := 28) X dX5_takesByte_28 ?_
      refine mo_p_X5_214 (pc := 29) X dX5_takesByte_29 (mo_Md_o hm) ?_
      refine mo_il2 (pc := 32) X dX5_takesByte_32 ?_
      refine mo_zret (pc := 33) X Y rfl ?_ dX5_takesByte_33 ⟨rfl, rfl, _, rfl, ?_⟩
      · omega
      first
      | (exfalso; omega)
      | (refine ⟨Or.inl ⟨rfl, by omega⟩, ?_⟩; rw [if_pos (by omega)])
      | (refine ⟨Or.inr ⟨rfl, by omega⟩, ?_⟩; rw [if_neg (by omega), Int.add_zero])
    · exfalso; omega
  · skip
    refine mo_iconst (pc := 8) X dX5_takesByte_8 ?_
    refine mo_goto (pc := 9) (tgt := 13) X dX5_takesByte_9 (by decide) ?_
    refine mo_is2 (pc := 13) X dX5_takesByte_13 rfl (by decide) ?_
    refine mo_al0 (pc := 14) X dX5_takesByte_14 ?_
    refine mo_dup (pc := 15) X dX5_takesByte_15 rfl ?_
    refine mo_f_X5_214 (pc := 16) X dX5_takesByte_16 (mo_Md_o hm) ?_
    rw [h11]
    refine mo_il2 (pc := 19) X dX5_takesByte_19 ?_
    refine mo_if_eq (pc := 20) (tgt := 27) X dX5_takesByte_20 (by decide) ?_ (fun c_20 => ?_) (fun c_20 => ?_)
    · omega
    · exfalso; omega
    · skip
      refine mo_iconst (pc := 23) X dX5_takesByte_23 ?_
      refine mo_goto (pc := 24) (tgt := 28) X dX5_takesByte_24 (by decide) ?_
      refine mo_iadd (pc := 28) X dX5_takesByte_28 ?_
      refine mo_p_X5_214 (pc := 29) X dX5_takesByte_29 (mo_Md_o hm) ?_
      refine mo_il2 (pc := 32) X dX5_takesByte_32 ?_
      refine mo_zret (pc := 33) X Y rfl ?_ dX5_takesByte_33 ⟨rfl, rfl, _, rfl, ?_⟩
      · omega
      first
      | (exfalso; omega)
      | (refine ⟨Or.inl ⟨rfl, by omega⟩, ?_⟩; rw [if_pos (by omega)])
      | (refine ⟨Or.inr ⟨rfl, by omega⟩, ?_⟩; rw [if_neg (by omega), Int.add_zero])
set_option maxHeartbeats 4000000 in
set_option maxRecDepth 100000 in
theorem ct5_takesDigit {lf : Launch} {ρf : mo_E} {G : mo_G} {M : mo_M} {t : Nat} {m : Nat} (hm : mo_Md G m) {n p : Nat} (hn : n ≤ 100) (h10 : M m 10 = n) (h11 : M m 11 = p) (hp : p ≤ 1000) (hr : ∀ j, j < n → 0 ≤ M (m + 8) j ∧ M (m + 8) j ≤ 127) {k : Nat} (hk : k < 3) : mo_Ct lf ρf yX5_takesDigit cX5_takesDigit 2 (some .boolean) 1 0 0 [.ref m, mo_iv k] G M t (mo_pi G t (fun y M' => ((y = 1 ∧ mo_dok (mo_bh (M (m + 8)) n) p = true) ∨ (y = 0 ∧ ¬ (mo_dok (mo_bh (M (m + 8)) n) p = true))) ∧ (mo_dok (mo_bh (M (m + 8)) n) p = true → M' = mo_ur (mo_ur M m (va_up (M m) 11 ((p : Int) + 1))) (m + 9) (va_up (M (m + 9)) k (mo_bh (M (m + 8)) n p - 48))) ∧ (¬ (mo_dok (mo_bh (M (m + 8)) n) p = true) → M' = M))) := by
  refine mo_ofW (ls0 := [some (.ref m), some (mo_iv k)]) (by decide) rfl (Nat.le_of_ble_eq_true rfl) ?_
  intro κ X Y
  have X : mo_Cx κ lf ρf cX5_takesDigit 2 RX5 (some .boolean) 1 := X
  have hbr : ∀ q, -1 ≤ mo_bh (M (m + 8)) n q ∧ mo_bh (M (m + 8)) n q ≤ 127 := fun q => by
    unfold mo_bh
    split
    · rename_i c; have := hr q c; omega
    · omega
  have hbp := hbr p
  have hdd : mo_dok (mo_bh (M (m + 8)) n) p = true ↔ (48 ≤ mo_bh (M (m + 8)) n p ∧ mo_bh (M (m + 8)) n p ≤ 55) := by unfold mo_dok; rw [decide_eq_true_eq]
  refine mo_al0 (pc := 0) X dX5_takesDigit_0 ?_
  refine mo_cVI (pc := 1) (As := []) X mo_k_X5_217 mo_y_yX5_here rfl dX5_takesDigit_1 (ct5_here hm hn h10 h11 (by omega) hr) (mo_Md_o hm) rfl (by decide) (by decide) (Nat.le_of_ble_eq_true rfl) ?_
  rintro r_1 _ ⟨h_1, rfl⟩
  refine mo_i2l (pc := 4) X dX5_takesDigit_4 ?_ ?_
  · omega
  refine mo_ldc2 (pc := 5) (v := 48) X dX5_takesDigit_5 mo_wk_X5_220 ?_
  refine mo_ldc2 (pc := 8) (v := 55) X dX5_takesDigit_8 mo_wk_X5_222 ?_
  refine mo_cSI (pc := 11) (As := [_, _, _]) X mo_k_X5_44 mo_y_yX5_in dX5_takesDigit_11 (ct5_in (by omega) (by omega) (by omega)) rfl (by decide) (by decide) (Nat.le_of_ble_eq_true rfl) ?_
  rintro r_11 _ ⟨h_11, rfl⟩
  refine mo_if_ne (pc := 14) (tgt := 19) X dX5_takesDigit_14 (by decide) ?_ (fun c_14 => ?_) (fun c_14 => ?_)
  · omega
  · skip
    refine mo_al0 (pc := 19) X dX5_takesDigit_19 ?_
    refine mo_f_X5_34 (pc := 20) X dX5_takesDigit_20 (mo_Md_o hm) (mo_Md_p13 hm) ?_
    refine mo_il1 (pc := 23) X dX5_takesDigit_23 ?_
    refine mo_al0 (pc := 24) X dX5_takesDigit_24 ?_
    refine mo_cVI (pc := 25) (As := []) X mo_k_X5_217 mo_y_yX5_here rfl dX5_takesDigit_25 (ct5_here hm hn h10 h11 (by omega) hr) (mo_Md_o hm) rfl (by decide) (by decide) (Nat.le_of_ble_eq_true rfl) ?_
    rintro r_25 _ ⟨h_25, rfl⟩
    refine mo_bipush (pc := 28) X dX5_takesDigit_28 (by decide) ?_
    refine mo_isub (pc := 30) X dX5_takesDigit_30 ?_
    refine mo_iast (pc := 31) (j := k) X dX5_takesDigit_31 (mo_Md_r13 hm) (by omega) ?_ ?_ (by omega) ?_
    · omega
    · omega
    refine mo_al0 (pc := 32) X dX5_takesDigit_32 ?_
    refine mo_dup (pc := 33) X dX5_takesDigit_33 rfl ?_
    refine mo_f_X5_214 (pc := 34) X dX5_takesDigit_34 (mo_Md_o hm) ?_
    rw [mo_ur_n (by omega), h11]
    refine mo_iconst (pc := 37) X dX5_takesDigit_37 ?_
    refine mo_iadd (pc := 38) X dX5_takesDigit_38 ?_
    refine mo_p_X5_214 (pc := 39) X dX5_takesDigit_39 (mo_Md_o hm) ?_
    refine mo_iconst (pc := 42) X dX5_takesDigit_42 ?_
    refine mo_zret (pc := 43) X Y rfl ?_ dX5_takesDigit_43 ⟨rfl, rfl, _, rfl, ?_⟩
    · omega
    have e : mo_dok (mo_bh (M (m + 8)) n) p = true := by rw [hdd]; omega
    refine ⟨Or.inl ⟨rfl, e⟩, fun _ => ?_, fun q => absurd e q⟩
    rw [mo_ur_n (by omega), mo_ur_cm (show m + 9 ≠ m by omega), h_25]
  · skip
    refine mo_iconst (pc := 17) X dX5_takesDigit_17 ?_
    refine mo_zret (pc := 18) X Y rfl ?_ dX5_takesDigit_18 ⟨rfl, rfl, _, rfl, ?_⟩
    · omega
    have e : ¬ (mo_dok (mo_bh (M (m + 8)) n) p = true) := by rw [hdd]; omega
    exact ⟨Or.inr ⟨rfl, e⟩, fun q => absurd q e, fun _ => rfl⟩
set_option maxHeartbeats 4000000 in
set_option maxRecDepth 100000 in
theorem ct5_takesNumber {lf : Launch} {ρf : mo_E} {G : mo_G} {M : mo_M} {t : Nat} {m : Nat} (hm : mo_Md G m) {n p : Nat} (hn : n ≤ 100) (h10 : M m 10 = n) (h11 : M m 11 = p) (hp : p ≤ 1000) (hr : ∀ j, j < n → 0 ≤ M (m + 8) j ∧ M (m + 8) j ≤ 127) {k : Nat} (hk : k < 3) {hi : Int} (hhi : 0 ≤ hi ∧ hi ≤ 1000) : mo_Ct lf ρf yX5_takesNumber cX5_takesNumber 5 (some .boolean) 1 0 0 [.ref m, mo_iv k, mo_iv hi] G M t (mo_pi G t (fun y M' => ((y = 1 ∧ mo_nok (mo_bh (M (m + 8)) n) p hi = true) ∨ (y = 0 ∧ ¬ (mo_nok (mo_bh (M (m + 8)) n) p hi = true))) ∧ (mo_nok (mo_bh (M (m + 8)) n) p hi = true → M' = mo_ur (mo_ur M m (va_up (M m) 11 (mo_ne (mo_bh (M (m + 8)) n) p : Nat))) (m + 9) (va_up (M (m + 9)) k (mo_nvl (mo_bh (M (m + 8)) n) p))) ∧ (¬ (mo_nok (mo_bh (M (m + 8)) n) p hi = true) → ∃ f9, M' = mo_ur (mo_ur M m (va_up (M m) 11 (mo_nf (mo_bh (M (m + 8)) n) p : Nat))) (m + 9) f9))) := by
  refine mo_ofW (ls0 := [some (.ref m), some (mo_iv k), some (mo_iv hi), none, none]) (by decide) rfl (Nat.le_of_ble_eq_true rfl) ?_
  intro κ X Y
  have X : mo_Cx κ lf ρf cX5_takesNumber 5 RX5 (some .boolean) 1 := X
  have hbr : ∀ q, -1 ≤ mo_bh (M (m + 8)) n q ∧ mo_bh (M (m + 8)) n q ≤ 127 := fun q => by
    unfold mo_bh
    split
    · rename_i c; have := hr q c; omega
    · omega
  have hbp := hbr p
  have hbp1 := hbr (p + 1)
  have hne := mo_ne_b (mo_bh (M (m + 8)) n) p
  have f10 : ∀ q : Int, mo_ur M m (va_up (M m) 11 q) m 10 = n := fun q => by rw [mo_ur_s, mo_up_n (by omega), h10]
  have f11 : ∀ q : Int, mo_ur M m (va_up (M m) 11 q) m 11 = q := fun q => by rw [mo_ur_s, mo_up_s]
  have f8 : ∀ q : Int, mo_ur M m (va_up (M m) 11 q) (m + 8) = M (m + 8) := fun q => mo_ur_n (by omega)
  have dgd : ∀ v : Int, mo_dg v = true ↔ 48 ≤ v ∧ v ≤ 57 := fun v => by unfold mo_dg; rw [decide_eq_true_eq]
  have k63 : ∀ (v : Int), v = mo_nvl (mo_bh (M (m + 8)) n) p → mo_dg ((mo_bh (M (m + 8)) n) p) = true → 0 ≤ v ∧ v ≤ 1000 → mo_V κ 0 0 63 [some (.ref m), some (mo_iv k), some (mo_iv hi), some (mo_iv p), some (mo_iv v)] [] G (mo_ur M m (va_up (M m) 11 (mo_ne (mo_bh (M (m + 8)) n) p : Nat))) t := by
    intro v hv hd hvr
    have hbn2 := hbr (mo_ne (mo_bh (M (m + 8)) n) p)
    refine mo_al0 (pc := 63) X dX5_takesNumber_63 ?_
    refine mo_f_X5_214 (pc := 64) X dX5_takesNumber_64 (mo_Md_o hm) ?_
    rw [f11]
    refine mo_il3 (pc := 67) X dX5_takesNumber_67 ?_
    refine mo_ic_eq (pc := 68) (tgt := 88) X dX5_takesNumber_68 (by decide) ?_ ?_ (fun c_68 => ?_) (fun c_68 => ?_)
    · omega
    · omega
    · exfalso
      omega
    · skip
      refine mo_al0 (pc := 71) X dX5_takesNumber_71 ?_
      refine mo_cVI (pc := 72) (As := []) X mo_k_X5_217 mo_y_yX5_here rfl dX5_takesNumber_72 (ct5_here (p := mo_ne (mo_bh (M (m + 8)) n) p) hm hn (f10 _) (f11 _) (by omega) (by rw [f8]; exact hr)) (mo_Md_o hm) rfl (by decide) (by decide) (Nat.le_of_ble_eq_true rfl) ?_
      rintro r_72 _ ⟨h_72, rfl⟩
      rw [f8] at h_72
      refine mo_i2l (pc := 75) X dX5_takesNumber_75 ?_ ?_
      · omega
      refine mo_ldc2 (pc := 76) (v := 48) X dX5_takesNumber_76 mo_wk_X5_220 ?_
      refine mo_ldc2 (pc := 79) (v := 57) X dX5_takesNumber_79 mo_wk_X5_224 ?_
      refine mo_cSI (pc := 82) (As := [_, _, _]) X mo_k_X5_44 mo_y_yX5_in dX5_takesNumber_82 (ct5_in (by omega) (by omega) (by omega)) rfl (by decide) (by decide) (Nat.le_of_ble_eq_true rfl) ?_
      rintro r_82 _ ⟨h_82, rfl⟩
      refine mo_if_eq (pc := 85) (tgt := 90) X dX5_takesNumber_85 (by decide) ?_ (fun c_85 => ?_) (fun c_85 => ?_)
      · omega
      · skip
        refine mo_al0 (pc := 90) X dX5_takesNumber_90 ?_
        refine mo_f_X5_34 (pc := 91) X dX5_takesNumber_91 (mo_Md_o hm) (mo_Md_p13 hm) ?_
        refine mo_il1 (pc := 94) X dX5_takesNumber_94 ?_
        refine mo_il4 (pc := 95) X dX5_takesNumber_95 ?_
        refine mo_iast (pc := 97) (j := k) X dX5_takesNumber_97 (mo_Md_r13 hm) (by omega) ?_ ?_ (by omega) ?_
        · omega
        · omega
        refine mo_al0 (pc := 98) X dX5_takesNumber_98 ?_
        refine mo_il4 (pc := 99) X dX5_takesNumber_99 ?_
        refine mo_il2 (pc := 101) X dX5_takesNumber_101 ?_
        refine mo_ic_gt (pc := 102) (tgt := 112) X dX5_takesNumber_102 (by decide) ?_ ?_ (fun c_102 => ?_) (fun c_102 => ?_)
        · omega
        · omega
        · skip
          refine mo_il3 (pc := 112) X dX5_takesNumber_112 ?_
          refine mo_p_X5_214 (pc := 113) X dX5_takesNumber_113 (mo_Md_o hm) ?_
          refine mo_al0 (pc := 116) X dX5_takesNumber_116 ?_
          refine mo_f_X5_214 (pc := 117) X dX5_takesNumber_117 (mo_Md_o hm) ?_
          rw [mo_ur_s, mo_up_s]
          refine mo_il3 (pc := 120) X dX5_takesNumber_120 ?_
          refine mo_ic_le (pc := 121) (tgt := 128) X dX5_takesNumber_121 (by decide) ?_ ?_ (fun c_121 => ?_) (fun c_121 => ?_)
          · omega
          · omega
          · skip
            refine mo_iconst (pc := 128) X dX5_takesNumber_128 ?_
            refine mo_zret (pc := 129) X Y rfl ?_ dX5_takesNumber_129 ⟨rfl, rfl, _, rfl, ?_⟩
            · omega
            first
            | (exfalso; omega)
            | (have e : mo_nok (mo_bh (M (m + 8)) n) p hi = true := by
                 unfold mo_nok
                 rw [Bool.and_eq_true, Bool.and_eq_true, Bool.not_eq_true', decide_eq_true_eq]
                 exact ⟨hd, Bool.eq_false_iff.mpr (fun q => by rw [dgd] at q; omega), by rw [← hv]; omega⟩
               refine ⟨Or.inl ⟨rfl, e⟩, fun _ => ?_, fun q => absurd e q⟩
               rw [mo_ur_n (show m + 9 ≠ m by omega), hv]
               rw [mo_ur_cm (show m + 9 ≠ m by omega), mo_ur_n (show m ≠ m + 9 by omega), mo_ur_s, mo_ur_ur, mo_upup])
            | (have e : ¬ (mo_nok (mo_bh (M (m + 8)) n) p hi = true) := by
                 unfold mo_nok
                 rw [Bool.and_eq_true, Bool.and_eq_true, Bool.not_eq_true', decide_eq_true_eq]
                 exact fun q => by rw [← hv] at q; omega
               refine ⟨Or.inr ⟨rfl, e⟩, fun q => absurd q e, fun _ => ⟨va_up (M (m + 9)) k v, ?_⟩⟩
               rw [mo_ur_n (show m + 9 ≠ m by omega)]
               rw [mo_ur_cm (show m + 9 ≠ m by omega), mo_ur_n (show m ≠ m + 9 by omega), mo_ur_s, mo_ur_ur, mo_upup]
               unfold mo_nf
               rw [if_pos hd, if_neg (fun q => by rw [dgd] at q; omega)])
          · skip
            refine mo_iconst (pc := 124) X dX5_takesNumber_124 ?_
            refine mo_goto (pc := 125) (tgt := 129) X dX5_takesNumber_125 (by decide) ?_
            refine mo_zret (pc := 129) X Y rfl ?_ dX5_takesNumber_129 ⟨rfl, rfl, _, rfl, ?_⟩
            · omega
            first
            | (exfalso; omega)
            | (have e : mo_nok (mo_bh (M (m + 8)) n) p hi = true := by
                 unfold mo_nok
                 rw [Bool.and_eq_true, Bool.and_eq_true, Bool.not_eq_true', decide_eq_true_eq]
                 exact ⟨hd, Bool.eq_false_iff.mpr (fun q => by rw [dgd] at q; omega), by rw [← hv]; omega⟩
               refine ⟨Or.inl ⟨rfl, e⟩, fun _ => ?_, fun q => absurd e q⟩
               rw [mo_ur_n (show m + 9 ≠ m by omega), hv]
               rw [mo_ur_cm (show m + 9 ≠ m by omega), mo_ur_n (show m ≠ m + 9 by omega), mo_ur_s, mo_ur_ur, mo_upup])
            | (have e : ¬ (mo_nok (mo_bh (M (m + 8)) n) p hi = true) := by
                 unfold mo_nok
                 rw [Bool.and_eq_true, Bool.and_eq_true, Bool.not_eq_true', decide_eq_true_eq]
                 exact fun q => by rw [← hv] at q; omega
               refine ⟨Or.inr ⟨rfl, e⟩, fun q => absurd q e, fun _ => ⟨va_up (M (m + 9)) k v, ?_⟩⟩
               rw [mo_ur_n (show m + 9 ≠ m by omega)]
               rw [mo_ur_cm (show m + 9 ≠ m by omega), mo_ur_n (show m ≠ m + 9 by omega), mo_ur_s, mo_ur_ur, mo_upup]
               unfold mo_nf
               rw [if_pos hd, if_neg (fun q => by rw [dgd] at q; omega)])
        · skip
          refine mo_al0 (pc := 105) X dX5_takesNumber_105 ?_
          refine mo_f_X5_214 (pc := 106) X dX5_takesNumber_106 (mo_Md_o hm) ?_
          rw [mo_ur_n (by omega), f11]
          refine mo_goto (pc := 109) (tgt := 113) X dX5_takesNumber_109 (by decide) ?_
          refine mo_p_X5_214 (pc := 113) X dX5_takesNumber_113 (mo_Md_o hm) ?_
          refine mo_al0 (pc := 116) X dX5_takesNumber_116 ?_
          refine mo_f_X5_214 (pc := 117) X dX5_takesNumber_117 (mo_Md_o hm) ?_
          rw [mo_ur_s, mo_up_s]
          refine mo_il3 (pc := 120) X dX5_takesNumber_120 ?_
          refine mo_ic_le (pc := 121) (tgt := 128) X dX5_takesNumber_121 (by decide) ?_ ?_ (fun c_121 => ?_) (fun c_121 => ?_)
          · omega
          · omega
          · skip
            refine mo_iconst (pc := 128) X dX5_takesNumber_128 ?_
            refine mo_zret (pc := 129) X Y rfl ?_ dX5_takesNumber_129 ⟨rfl, rfl, _, rfl, ?_⟩
            · omega
            first
            | (exfalso; omega)
            | (have e : mo_nok (mo_bh (M (m + 8)) n) p hi = true := by
                 unfold mo_nok
                 rw [Bool.and_eq_true, Bool.and_eq_true, Bool.not_eq_true', decide_eq_true_eq]
                 exact ⟨hd, Bool.eq_false_iff.mpr (fun q => by rw [dgd] at q; omega), by rw [← hv]; omega⟩
               refine ⟨Or.inl ⟨rfl, e⟩, fun _ => ?_, fun q => absurd e q⟩
               rw [mo_ur_n (show m + 9 ≠ m by omega), hv]
               rw [mo_ur_cm (show m + 9 ≠ m by omega), mo_ur_n (show m ≠ m + 9 by omega), mo_ur_s, mo_ur_ur, mo_upup])
            | (have e : ¬ (mo_nok (mo_bh (M (m + 8)) n) p hi = true) := by
                 unfold mo_nok
                 rw [Bool.and_eq_true, Bool.and_eq_true, Bool.not_eq_true', decide_eq_true_eq]
                 exact fun q => by rw [← hv] at q; omega
               refine ⟨Or.inr ⟨rfl, e⟩, fun q => absurd q e, fun _ => ⟨va_up (M (m + 9)) k v, ?_⟩⟩
               rw [mo_ur_n (show m + 9 ≠ m by omega)]
               rw [mo_ur_cm (show m + 9 ≠ m by omega), mo_ur_n (show m ≠ m + 9 by omega), mo_ur_s, mo_ur_ur, mo_upup]
               unfold mo_nf
               rw [if_pos hd, if_neg (fun q => by rw [dgd] at q; omega)])
          · skip
            refine mo_iconst (pc := 124) X dX5_takesNumber_124 ?_
            refine mo_goto (pc := 125) (tgt := 129) X dX5_takesNumber_125 (by decide) ?_
            refine mo_zret (pc := 129) X Y rfl ?_ dX5_takesNumber_129 ⟨rfl, rfl, _, rfl, ?_⟩
            · omega
            first
            | (exfalso; omega)
            | (have e : mo_nok (mo_bh (M (m + 8)) n) p hi = true := by
                 unfold mo_nok
                 rw [Bool.and_eq_true, Bool.and_eq_true, Bool.not_eq_true', decide_eq_true_eq]
                 exact ⟨hd, Bool.eq_false_iff.mpr (fun q => by rw [dgd] at q; omega), by rw [← hv]; omega⟩
               refine ⟨Or.inl ⟨rfl, e⟩, fun _ => ?_, fun q => absurd e q⟩
               rw [mo_ur_n (show m + 9 ≠ m by omega), hv]
               rw [mo_ur_cm (show m + 9 ≠ m by omega), mo_ur_n (show m ≠ m + 9 by omega), mo_ur_s, mo_ur_ur, mo_upup])
            | (have e : ¬ (mo_nok (mo_bh (M (m + 8)) n) p hi = true) := by
                 unfold mo_nok
                 rw [Bool.and_eq_true, Bool.and_eq_true, Bool.not_eq_true', decide_eq_true_eq]
                 exact fun q => by rw [← hv] at q; omega
               refine ⟨Or.inr ⟨rfl, e⟩, fun q => absurd q e, fun _ => ⟨va_up (M (m + 9)) k v, ?_⟩⟩
               rw [mo_ur_n (show m + 9 ≠ m by omega)]
               rw [mo_ur_cm (show m + 9 ≠ m by omega), mo_ur_n (show m ≠ m + 9 by omega), mo_ur_s, mo_ur_ur, mo_upup]
               unfold mo_nf
               rw [if_pos hd, if_neg (fun q => by rw [dgd] at q; omega)])
      · skip
        refine mo_iconst (pc := 88) X dX5_takesNumber_88 ?_
        refine mo_zret (pc := 89) X Y rfl ?_ dX5_takesNumber_89 ⟨rfl, rfl, _, rfl, ?_⟩
        · omega
        have e : ¬ (mo_nok (mo_bh (M (m + 8)) n) p hi = true) := by
          unfold mo_nok
          rw [Bool.and_eq_true, Bool.and_eq_true, Bool.not_eq_true', decide_eq_true_eq]
          exact fun q => by have q2 := Bool.eq_false_iff.mp q.2.1; rw [← h_72] at q2; exact q2 ((dgd _).mpr (by omega))
        refine ⟨Or.inr ⟨rfl, e⟩, fun q => absurd q e, fun _ => ⟨M (m + 9), ?_⟩⟩
        unfold mo_nf
        rw [if_pos hd, if_pos (by rw [← h_72, dgd]; omega)]
        funext z
        by_cases c1 : z = m + 9
        · rw [c1, mo_ur_n (by omega), mo_ur_s]
        · rw [mo_ur_n c1]
  have k63a : ∀ v : Int, ¬ (mo_dg ((mo_bh (M (m + 8)) n) p) = true) → mo_V κ 0 0 63 [some (.ref m), some (mo_iv k), some (mo_iv hi), some (mo_iv p), some (mo_iv v)] [] G (mo_ur M m (va_up (M m) 11 (p : Nat))) t := by
    intro v hd
    refine mo_al0 (pc := 63) X dX5_takesNumber_63 ?_
    refine mo_f_X5_214 (pc := 64) X dX5_takesNumber_64 (mo_Md_o hm) ?_
    rw [f11]
    refine mo_il3 (pc := 67) X dX5_takesNumber_67 ?_
    refine mo_ic_eq (pc := 68) (tgt := 88) X dX5_takesNumber_68 (by decide) ?_ ?_ (fun c_68 => ?_) (fun c_68 => ?_)
    · omega
    · omega
    · skip
      refine mo_iconst (pc := 88) X dX5_takesNumber_88 ?_
      refine mo_zret (pc := 89) X Y rfl ?_ dX5_takesNumber_89 ⟨rfl, rfl, _, rfl, ?_⟩
      · omega
      have e : ¬ (mo_nok (mo_bh (M (m + 8)) n) p hi = true) := by
        unfold mo_nok
        rw [Bool.and_eq_true, Bool.and_eq_true, Bool.not_eq_true', decide_eq_true_eq]
        exact fun q => hd q.1
      refine ⟨Or.inr ⟨rfl, e⟩, fun q => absurd q e, fun _ => ⟨M (m + 9), ?_⟩⟩
      unfold mo_nf
      rw [if_neg hd]
      funext z
      by_cases c1 : z = m + 9
      · rw [c1, mo_ur_n (by omega), mo_ur_s]
      · rw [mo_ur_n c1]
    · exfalso
      omega
  have k8 : ∀ (q : Nat) (v : Int), p ≤ q → q ≤ p + 2 → (¬ (mo_dg ((mo_bh (M (m + 8)) n) q) = true ∧ q < p + 2) → mo_V κ 0 0 63 [some (.ref m), some (mo_iv k), some (mo_iv hi), some (mo_iv p), some (mo_iv v)] [] G (mo_ur M m (va_up (M m) 11 (q : Nat))) t) → ((mo_dg ((mo_bh (M (m + 8)) n) q) = true ∧ q < p + 2) → mo_V κ 0 0 8 [some (.ref m), some (mo_iv k), some (mo_iv hi), some (mo_iv p), some (mo_iv (10 * v + (mo_bh (M (m + 8)) n) q - 48))] [] G (mo_ur M m (va_up (M m) 11 ((q + 1 : Nat) : Int))) t) → mo_V κ 0 0 8 [some (.ref m), some (mo_iv k), some (mo_iv hi), some (mo_iv p), some (mo_iv v)] [] G (mo_ur M m (va_up (M m) 11 (q : Nat))) t := by
    intro q v hq1 hq2 hA hB
    have hbq := hbr q
    refine mo_al0 (pc := 8) X dX5_takesNumber_8 ?_
    refine mo_cVI (pc := 9) (As := []) X mo_k_X5_217 mo_y_yX5_here rfl dX5_takesNumber_9 (ct5_here (p := q) hm hn (f10 _) (f11 _) (by omega) (by rw [f8]; exact hr)) (mo_Md_o hm) rfl (by decide) (by decide) (Nat.le_of_ble_eq_true rfl) ?_
    rintro r_9 _ ⟨h_9, rfl⟩
    rw [f8] at h_9
    refine mo_i2l (pc := 12) X dX5_takesNumber_12 ?_ ?_
    · omega
    refine mo_ldc2 (pc := 13) (v := 48) X dX5_takesNumber_13 mo_wk_X5_220 ?_
    refine mo_ldc2 (pc := 16) (v := 57) X dX5_takesNumber_16 mo_wk_X5_224 ?_
    refine mo_cSI (pc := 19) (As := [_, _, _]) X mo_k_X5_44 mo_y_yX5_in dX5_takesNumber_19 (ct5_in (by omega) (by omega) (by omega)) rfl (by decide) (by decide) (Nat.le_of_ble_eq_true rfl) ?_
    rintro r_19 _ ⟨h_19, rfl⟩
    refine mo_if_eq (pc := 22) (tgt := 63) X dX5_takesNumber_22 (by decide) ?_ (fun c_22 => ?_) (fun c_22 => ?_)
    · omega
    · skip
      refine hA fun w => ?_
      rw [dgd] at w
      omega
    · skip
      refine mo_al0 (pc := 25) X dX5_takesNumber_25 ?_
      refine mo_f_X5_214 (pc := 26) X dX5_takesNumber_26 (mo_Md_o hm) ?_
      rw [f11]
      refine mo_il3 (pc := 29) X dX5_takesNumber_29 ?_
      refine mo_iconst (pc := 30) X dX5_takesNumber_30 ?_
      refine mo_iadd (pc := 31) X dX5_takesNumber_31 ?_
      refine mo_ic_ge (pc := 32) (tgt := 63) X dX5_takesNumber_32 (by decide) ?_ ?_ (fun c_32 => ?_) (fun c_32 => ?_)
      · omega
      · omega
      · skip
        refine hA fun w => ?_
        omega
      · skip
        refine mo_bipush (pc := 35) X dX5_takesNumber_35 (by decide) ?_
        refine mo_il4 (pc := 37) X dX5_takesNumber_37 ?_
        refine mo_imul (pc := 39) X dX5_takesNumber_39 ?_
        refine mo_al0 (pc := 40) X dX5_takesNumber_40 ?_
        refine mo_cVI (pc := 41) (As := []) X mo_k_X5_217 mo_y_yX5_here rfl dX5_takesNumber_41 (ct5_here (p := q) hm hn (f10 _) (f11 _) (by omega) (by rw [f8]; exact hr)) (mo_Md_o hm) rfl (by decide) (by decide) (Nat.le_of_ble_eq_true rfl) ?_
        rintro r_41 _ ⟨h_41, rfl⟩
        rw [f8] at h_41
        refine mo_iadd (pc := 44) X dX5_takesNumber_44 ?_
        refine mo_bipush (pc := 45) X dX5_takesNumber_45 (by decide) ?_
        refine mo_isub (pc := 47) X dX5_takesNumber_47 ?_
        refine mo_is4 (pc := 48) X dX5_takesNumber_48 rfl (by decide) ?_
        refine mo_al0 (pc := 50) X dX5_takesNumber_50 ?_
        refine mo_dup (pc := 51) X dX5_takesNumber_51 rfl ?_
        refine mo_f_X5_214 (pc := 52) X dX5_takesNumber_52 (mo_Md_o hm) ?_
        rw [f11]
        refine mo_iconst (pc := 55) X dX5_takesNumber_55 ?_
        refine mo_iadd (pc := 56) X dX5_takesNumber_56 ?_
        refine mo_p_X5_214 (pc := 57) X dX5_takesNumber_57 (mo_Md_o hm) ?_
        refine mo_goto (pc := 60) (tgt := 8) X dX5_takesNumber_60 (by decide) ?_
        rw [mo_ur_s, mo_ur_ur, mo_upup, h_41]
        exact hB ⟨by rw [dgd]; omega, by omega⟩
  have e0 : M = mo_ur M m (va_up (M m) 11 (p : Nat)) := by rw [mo_upid h11, mo_ur_id]
  refine mo_al0 (pc := 0) X dX5_takesNumber_0 ?_
  refine mo_f_X5_214 (pc := 1) X dX5_takesNumber_1 (mo_Md_o hm) ?_
  rw [h11]
  refine mo_is3 (pc := 4) X dX5_takesNumber_4 rfl (by decide) ?_
  refine mo_iconst (pc := 5) X dX5_takesNumber_5 ?_
  refine mo_is4 (pc := 6) X dX5_takesNumber_6 rfl (by decide) ?_
  rw [e0]
  refine k8 p 0 (Nat.le_refl _) (by omega) (fun q => k63a 0 (fun w => q ⟨w, by omega⟩)) fun q => ?_
  have hd1 := (dgd _).mp q.1
  refine k8 (p + 1) _ (by omega) (by omega) (fun q2 => ?_) fun q2 => ?_
  · have q3 : ¬ (mo_dg ((mo_bh (M (m + 8)) n) (p + 1)) = true) := fun w => q2 ⟨w, by omega⟩
    have en : mo_ne (mo_bh (M (m + 8)) n) p = p + 1 := by unfold mo_ne; rw [if_neg q3]
    rw [← en]
    exact k63 _ (by unfold mo_nvl; rw [if_neg q3]; omega) q.1 (by omega)
  · have hd2 := (dgd _).mp q2.1
    have en : mo_ne (mo_bh (M (m + 8)) n) p = p + 2 := by unfold mo_ne; rw [if_pos q2.1]
    refine k8 (p + 2) _ (by omega) (by omega) (fun q3 => ?_) fun q3 => absurd q3.2 (by omega)
    rw [← en]
    exact k63 _ (by unfold mo_nvl; rw [if_pos q2.1]; omega) q.1 (by omega)
