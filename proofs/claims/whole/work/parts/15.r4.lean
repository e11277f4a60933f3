set_option maxHeartbeats 4000000 in
set_option maxRecDepth 100000 in
theorem ct5_holds {lf : Launch} {ρf : mo_E} {G : mo_G} {M : mo_M} {t : Nat} {m : Nat} (hm : mo_Md G m) {B : Int} {p : Nat} (hI : mo_Iv (M (m + 1)) B) (hB : B ≤ 1000000000) (hp : (p : Int) < M (m + 1) 7) : mo_Ct lf ρf yX5_holds cX5_holds 2 none 1 0 0 [.ref m, mo_iv p] G M t (mo_pv G t (fun M' => M' = mo_ur M (m + 1) (mo_hd (M (m + 1)) p))) := by
  refine mo_ofW (ls0 := [some (.ref m), some (mo_iv p)]) (by decide) rfl (Nat.le_of_ble_eq_true rfl) ?_
  intro κ X Y
  have X : mo_Cx κ lf ρf cX5_holds 2 RX5 none 1 := X
  obtain ⟨hI0, hI1, hI2, hI3, hI4, hI5, hI6, hI7, hIh, hIa, hIe, hIm, hIs, hIl, hIw, hIr, hIt, hIs2, hIs3, hIz⟩ := id hI
  have hn : ((mo_nk (M (m + 1)) : Nat) : Int) = M (m + 1) 7 := by unfold mo_nk; omega
  have hmt := hIt p hp
  unfold mo_Mt at hmt
  generalize hwn : mo_fld (M (m + 1)) p 1 = wi at *
  generalize hen : mo_fld (M (m + 1)) p 4 = ei at *
  obtain ⟨wn, rfl⟩ := Int.eq_ofNat_of_zero_le hmt.2.1.1
  obtain ⟨en, rfl⟩ := Int.eq_ofNat_of_zero_le hmt.2.2.2.2.1.1
  refine mo_al0 (pc := 0) X dX5_holds_0 ?_
  refine mo_f_X5_7 (pc := 1) X dX5_holds_1 (mo_Md_o hm) (mo_Md_p0 hm) ?_
  refine mo_sipush (pc := 4) X dX5_holds_4 (by decide) ?_
  refine mo_bipush (pc := 7) X dX5_holds_7 (by decide) ?_
  refine mo_il1 (pc := 9) X dX5_holds_9 ?_
  refine mo_imul (pc := 10) X dX5_holds_10 ?_
  refine mo_iadd (pc := 11) X dX5_holds_11 ?_
  refine mo_bipush (pc := 12) X dX5_holds_12 (by decide) ?_
  refine mo_iadd (pc := 14) X dX5_holds_14 ?_
  refine mo_iconst (pc := 15) X dX5_holds_15 ?_
  refine mo_iast (pc := 16) (j := 215 + 7 * p + 6) X dX5_holds_16 (mo_Md_r0 hm) (by omega) ?_ ?_ (by omega) ?_
  · omega
  · omega
  try simp only [mo_ur_ur, mo_ur_s]
  refine mo_al0 (pc := 17) X dX5_holds_17 ?_
  refine mo_f_X5_7 (pc := 18) X dX5_holds_18 (mo_Md_o hm) (mo_Md_p0 hm) ?_
  refine mo_iconst (pc := 21) X dX5_holds_21 ?_
  refine mo_dup2 (pc := 22) X dX5_holds_22 rfl rfl ?_
  refine mo_iald (pc := 23) (j := 2) X dX5_holds_23 (mo_Md_r0 hm) (by omega) ?_ ?_ rfl ?_
  · omega
  · omega
  try simp only [mo_ur_ur, mo_ur_s]
  rw [mo_up_n (by omega)]
  refine mo_iconst (pc := 24) X dX5_holds_24 ?_
  refine mo_iadd (pc := 25) X dX5_holds_25 ?_
  refine mo_iast (pc := 26) (j := 2) X dX5_holds_26 (mo_Md_r0 hm) (by omega) ?_ ?_ rfl ?_
  · omega
  · omega
  try simp only [mo_ur_ur, mo_ur_s]
  refine mo_al0 (pc := 27) X dX5_holds_27 ?_
  refine mo_f_X5_7 (pc := 28) X dX5_holds_28 (mo_Md_o hm) (mo_Md_p0 hm) ?_
  refine mo_sipush (pc := 31) X dX5_holds_31 (by decide) ?_
  refine mo_al0 (pc := 34) X dX5_holds_34 ?_
  refine mo_il1 (pc := 35) X dX5_holds_35 ?_
  refine mo_iconst (pc := 36) X dX5_holds_36 ?_
  refine mo_cVI (pc := 37) (As := [_, _]) X mo_k_X5_89 mo_y_yX5_of rfl dX5_holds_37 (ct5_of (k := p) (j := 1) hm (by omega)) (mo_Md_o hm) rfl (by decide) (by decide) (Nat.le_of_ble_eq_true rfl) ?_
  rintro r_37 _ ⟨h_37, rfl⟩
  simp only [mo_ur_s] at h_37
  rw [mo_fld_up (by omega), mo_fld_up (by omega), hwn] at h_37
  subst h_37
  refine mo_iadd (pc := 40) X dX5_holds_40 ?_
  refine mo_dup2 (pc := 41) X dX5_holds_41 rfl rfl ?_
  refine mo_iald (pc := 42) (j := 176 + wn) X dX5_holds_42 (mo_Md_r0 hm) (by omega) ?_ ?_ (by omega) ?_
  · omega
  · omega
  try simp only [mo_ur_ur, mo_ur_s]
  rw [mo_up_n (by omega)]
  rw [mo_up_n (by omega)]
  refine mo_iconst (pc := 43) X dX5_holds_43 ?_
  refine mo_iadd (pc := 44) X dX5_holds_44 ?_
  refine mo_iast (pc := 45) (j := 176 + wn) X dX5_holds_45 (mo_Md_r0 hm) (by omega) ?_ ?_ (by omega) ?_
  · omega
  · omega
  try simp only [mo_ur_ur, mo_ur_s]
  refine mo_al0 (pc := 46) X dX5_holds_46 ?_
  refine mo_f_X5_7 (pc := 47) X dX5_holds_47 (mo_Md_o hm) (mo_Md_p0 hm) ?_
  refine mo_sipush (pc := 50) X dX5_holds_50 (by decide) ?_
  refine mo_al0 (pc := 53) X dX5_holds_53 ?_
  refine mo_il1 (pc := 54) X dX5_holds_54 ?_
  refine mo_iconst (pc := 55) X dX5_holds_55 ?_
  refine mo_cVI (pc := 56) (As := [_, _]) X mo_k_X5_89 mo_y_yX5_of rfl dX5_holds_56 (ct5_of (k := p) (j := 4) hm (by omega)) (mo_Md_o hm) rfl (by decide) (by decide) (Nat.le_of_ble_eq_true rfl) ?_
  rintro r_56 _ ⟨h_56, rfl⟩
  simp only [mo_ur_s] at h_56
  rw [mo_fld_up (by omega), mo_fld_up (by omega), mo_fld_up (by omega), hen] at h_56
  subst h_56
  refine mo_iadd (pc := 59) X dX5_holds_59 ?_
  refine mo_dup2 (pc := 60) X dX5_holds_60 rfl rfl ?_
  refine mo_iald (pc := 61) (j := 204 + en) X dX5_holds_61 (mo_Md_r0 hm) (by omega) ?_ ?_ (by omega) ?_
  · omega
  · omega
  try simp only [mo_ur_ur, mo_ur_s]
  rw [mo_up_n (by omega)]
  rw [mo_up_n (by omega)]
  rw [mo_up_n (by omega)]
  refine mo_iconst (pc := 62) X dX5_holds_62 ?_
  refine mo_iadd (pc := 63) X dX5_holds_63 ?_
  refine mo_iast (pc := 64) (j := 204 + en) X dX5_holds_64 (mo_Md_r0 hm) (by omega) ?_ ?_ (by omega) ?_
  · omega
  · omega
  refine mo_vret (pc := 65) X Y rfl dX5_holds_65 ⟨rfl, rfl, rfl, ?_⟩
  show mo_ur _ _ _ = _
  simp only [mo_ur_ur, mo_ur_s]
  congr 1
  funext j
  unfold va_up mo_hd
  rw [hwn, hen, Int.toNat_natCast, Int.toNat_natCast]
  split
  · rename_i h; rw [h]
  · split
    · rename_i h; rw [h]
    · split
      · rename_i h; rw [h]
      · rfl
set_option maxHeartbeats 4000000 in
set_option maxRecDepth 100000 in
theorem ct5_misses {lf : Launch} {ρf : mo_E} {G : mo_G} {M : mo_M} {t : Nat} {m : Nat} (hm : mo_Md G m) {B : Int} {p : Nat} (hI : mo_Iv (M (m + 1)) B) (hB : B ≤ 1000000000) (hp : (p : Int) < M (m + 1) 7) : mo_Ct lf ρf yX5_misses cX5_misses 2 none 1 0 0 [.ref m, mo_iv p] G M t (mo_pv G t (fun M' => M' = mo_ur M (m + 1) (mo_ms (M (m + 1)) p))) := by
  refine mo_ofW (ls0 := [some (.ref m), some (mo_iv p)]) (by decide) rfl (Nat.le_of_ble_eq_true rfl) ?_
  intro κ X Y
  have X : mo_Cx κ lf ρf cX5_misses 2 RX5 none 1 := X
  obtain ⟨hI0, hI1, hI2, hI3, hI4, hI5, hI6, hI7, hIh, hIa, hIe, hIm, hIs, hIl, hIw, hIr, hIt, hIs2, hIs3, hIz⟩ := id hI
  have hn : ((mo_nk (M (m + 1)) : Nat) : Int) = M (m + 1) 7 := by unfold mo_nk; omega
  have hmt := hIt p hp
  unfold mo_Mt at hmt
  generalize hwn : mo_fld (M (m + 1)) p 1 = wi at *
  obtain ⟨wn, rfl⟩ := Int.eq_ofNat_of_zero_le hmt.2.1.1
  refine mo_al0 (pc := 0) X dX5_misses_0 ?_
  refine mo_f_X5_7 (pc := 1) X dX5_misses_1 (mo_Md_o hm) (mo_Md_p0 hm) ?_
  refine mo_sipush (pc := 4) X dX5_misses_4 (by decide) ?_
  refine mo_bipush (pc := 7) X dX5_misses_7 (by decide) ?_
  refine mo_il1 (pc := 9) X dX5_misses_9 ?_
  refine mo_imul (pc := 10) X dX5_misses_10 ?_
  refine mo_iadd (pc := 11) X dX5_misses_11 ?_
  refine mo_bipush (pc := 12) X dX5_misses_12 (by decide) ?_
  refine mo_iadd (pc := 14) X dX5_misses_14 ?_
  refine mo_iconst (pc := 15) X dX5_misses_15 ?_
  refine mo_iast (pc := 16) (j := 215 + 7 * p + 6) X dX5_misses_16 (mo_Md_r0 hm) (by omega) ?_ ?_ (by omega) ?_
  · omega
  · omega
  try simp only [mo_ur_ur, mo_ur_s]
  refine mo_al0 (pc := 17) X dX5_misses_17 ?_
  refine mo_f_X5_7 (pc := 18) X dX5_misses_18 (mo_Md_o hm) (mo_Md_p0 hm) ?_
  refine mo_iconst (pc := 21) X dX5_misses_21 ?_
  refine mo_dup2 (pc := 22) X dX5_misses_22 rfl rfl ?_
  refine mo_iald (pc := 23) (j := 3) X dX5_misses_23 (mo_Md_r0 hm) (by omega) ?_ ?_ rfl ?_
  · omega
  · omega
  try simp only [mo_ur_ur, mo_ur_s]
  rw [mo_up_n (by omega)]
  refine mo_iconst (pc := 24) X dX5_misses_24 ?_
  refine mo_iadd (pc := 25) X dX5_misses_25 ?_
  refine mo_iast (pc := 26) (j := 3) X dX5_misses_26 (mo_Md_r0 hm) (by omega) ?_ ?_ rfl ?_
  · omega
  · omega
  try simp only [mo_ur_ur, mo_ur_s]
  refine mo_al0 (pc := 27) X dX5_misses_27 ?_
  refine mo_f_X5_7 (pc := 28) X dX5_misses_28 (mo_Md_o hm) (mo_Md_p0 hm) ?_
  refine mo_sipush (pc := 31) X dX5_misses_31 (by decide) ?_
  refine mo_al0 (pc := 34) X dX5_misses_34 ?_
  refine mo_il1 (pc := 35) X dX5_misses_35 ?_
  refine mo_iconst (pc := 36) X dX5_misses_36 ?_
  refine mo_cVI (pc := 37) (As := [_, _]) X mo_k_X5_89 mo_y_yX5_of rfl dX5_misses_37 (ct5_of (k := p) (j := 1) hm (by omega)) (mo_Md_o hm) rfl (by decide) (by decide) (Nat.le_of_ble_eq_true rfl) ?_
  rintro r_37 _ ⟨h_37, rfl⟩
  simp only [mo_ur_s] at h_37
  rw [mo_fld_up (by omega), mo_fld_up (by omega), hwn] at h_37
  subst h_37
  refine mo_iadd (pc := 40) X dX5_misses_40 ?_
  refine mo_dup2 (pc := 41) X dX5_misses_41 rfl rfl ?_
  refine mo_iald (pc := 42) (j := 184 + wn) X dX5_misses_42 (mo_Md_r0 hm) (by omega) ?_ ?_ (by omega) ?_
  · omega
  · omega
  try simp only [mo_ur_ur, mo_ur_s]
  rw [mo_up_n (by omega)]
  rw [mo_up_n (by omega)]
  refine mo_iconst (pc := 43) X dX5_misses_43 ?_
  refine mo_iadd (pc := 44) X dX5_misses_44 ?_
  refine mo_iast (pc := 45) (j := 184 + wn) X dX5_misses_45 (mo_Md_r0 hm) (by omega) ?_ ?_ (by omega) ?_
  · omega
  · omega
  refine mo_vret (pc := 46) X Y rfl dX5_misses_46 ⟨rfl, rfl, rfl, ?_⟩
  show mo_ur _ _ _ = _
  simp only [mo_ur_ur, mo_ur_s]
  congr 1
  funext j
  unfold va_up mo_ms
  rw [hwn, Int.toNat_natCast]
  split
  · rename_i h; rw [h]
  · split
    · rename_i h; rw [h]
    · rfl
set_option maxHeartbeats 4000000 in
set_option maxRecDepth 100000 in
theorem ct5_mayTell {lf : Launch} {ρf : mo_E} {G : mo_G} {M : mo_M} {t : Nat} {m : Nat} (hm : mo_Md G m) {B x0 : Int} (hI : mo_Iv (M (m + 1)) B) (hB : B ≤ 1000000000) (hx : x0 = -1 ∨ (0 ≤ x0 ∧ x0 < M (m + 1) 7)) : mo_Ct lf ρf yX5_mayTell cX5_mayTell 2 (some .boolean) 1 0 0 [.ref m, mo_iv x0] G M t (mo_pi G t (fun x M' => ((x = 1 ∧ (x0 ≠ -1 ∧ mo_op (M (m + 1)) x0.toNat = true)) ∨ (x = 0 ∧ ¬ (x0 ≠ -1 ∧ mo_op (M (m + 1)) x0.toNat = true))) ∧ M = M')) := by
  refine mo_ofW (ls0 := [some (.ref m), some (mo_iv x0)]) (by decide) rfl (Nat.le_of_ble_eq_true rfl) ?_
  intro κ X Y
  have X : mo_Cx κ lf ρf cX5_mayTell 2 RX5 (some .boolean) 1 := X
  obtain ⟨hI0, hI1, hI2, hI3, hI4, hI5, hI6, hI7, hIh, hIa, hIe, hIm, hIs, hIl, hIw, hIr, hIt, hIs2, hIs3, hIz⟩ := id hI
  have hn : ((mo_nk (M (m + 1)) : Nat) : Int) = M (m + 1) 7 := by unfold mo_nk; omega
  refine mo_il1 (pc := 0) X dX5_mayTell_0 ?_
  refine mo_iconst (pc := 1) X dX5_mayTell_1 ?_
  refine mo_ic_eq (pc := 2) (tgt := 34) X dX5_mayTell_2 (by decide) ?_ ?_ (fun c_2 => ?_) (fun c_2 => ?_)
  · omega
  · omega
  · skip
    refine mo_iconst (pc := 34) X dX5_mayTell_34 ?_
    refine mo_zret (pc := 35) X Y rfl ?_ dX5_mayTell_35 ⟨rfl, rfl, _, rfl, ?_⟩
    · omega
    refine ⟨?_, rfl⟩
    first
      | exact Or.inr ⟨rfl, fun q => q.1 c_2⟩
      | exact Or.inl ⟨rfl, by omega, by rw [Int.toNat_natCast]; simp only [mo_op, decide_eq_true_eq]; omega⟩
      | (refine Or.inr ⟨rfl, fun q => ?_⟩
         have q2 := q.2
         rw [Int.toNat_natCast] at q2
         simp only [mo_op, decide_eq_true_eq] at q2
         omega)
  · skip
    obtain ⟨p, rfl⟩ := Int.eq_ofNat_of_zero_le (show 0 ≤ x0 by omega)
    have hmt := hIt p (by omega)
    unfold mo_Mt at hmt
    refine mo_al0 (pc := 5) X dX5_mayTell_5 ?_
    refine mo_il1 (pc := 6) X dX5_mayTell_6 ?_
    refine mo_bipush (pc := 7) X dX5_mayTell_7 (by decide) ?_
    refine mo_cVI (pc := 9) (As := [_, _]) X mo_k_X5_89 mo_y_yX5_of rfl dX5_mayTell_9 (ct5_of (k := p) (j := 6) hm (by omega)) (mo_Md_o hm) rfl (by decide) (by decide) (Nat.le_of_ble_eq_true rfl) ?_
    rintro r_9 _ ⟨h_9, rfl⟩
    refine mo_if_ne (pc := 12) (tgt := 34) X dX5_mayTell_12 (by decide) ?_ (fun c_12 => ?_) (fun c_12 => ?_)
    · omega
    · skip
      refine mo_iconst (pc := 34) X dX5_mayTell_34 ?_
      refine mo_zret (pc := 35) X Y rfl ?_ dX5_mayTell_35 ⟨rfl, rfl, _, rfl, ?_⟩
      · omega
      refine ⟨?_, rfl⟩
      first
        | exact Or.inr ⟨rfl, fun q => q.1 c_2⟩
        | exact Or.inl ⟨rfl, by omega, by rw [Int.toNat_natCast]; simp only [mo_op, decide_eq_true_eq]; omega⟩
        | (refine Or.inr ⟨rfl, fun q => ?_⟩
           have q2 := q.2
           rw [Int.toNat_natCast] at q2
           simp only [mo_op, decide_eq_true_eq] at q2
           omega)
    · skip
      refine mo_al0 (pc := 15) X dX5_mayTell_15 ?_
      refine mo_il1 (pc := 16) X dX5_mayTell_16 ?_
      refine mo_iconst (pc := 17) X dX5_mayTell_17 ?_
      refine mo_cVI (pc := 18) (As := [_, _]) X mo_k_X5_89 mo_y_yX5_of rfl dX5_mayTell_18 (ct5_of (k := p) (j := 2) hm (by omega)) (mo_Md_o hm) rfl (by decide) (by decide) (Nat.le_of_ble_eq_true rfl) ?_
      rintro r_18 _ ⟨h_18, rfl⟩
      refine mo_al0 (pc := 21) X dX5_mayTell_21 ?_
      refine mo_f_X5_7 (pc := 22) X dX5_mayTell_22 (mo_Md_o hm) (mo_Md_p0 hm) ?_
      refine mo_iconst (pc := 25) X dX5_mayTell_25 ?_
      refine mo_iald (pc := 26) (j := 0) X dX5_mayTell_26 (mo_Md_r0 hm) (by omega) ?_ ?_ rfl ?_
      · omega
      · omega
      refine mo_ic_ne (pc := 27) (tgt := 34) X dX5_mayTell_27 (by decide) ?_ ?_ (fun c_27 => ?_) (fun c_27 => ?_)
      · omega
      · omega
      · skip
        refine mo_iconst (pc := 34) X dX5_mayTell_34 ?_
        refine mo_zret (pc := 35) X Y rfl ?_ dX5_mayTell_35 ⟨rfl, rfl, _, rfl, ?_⟩
        · omega
        refine ⟨?_, rfl⟩
        first
          | exact Or.inr ⟨rfl, fun q => q.1 c_2⟩
          | exact Or.inl ⟨rfl, by omega, by rw [Int.toNat_natCast]; simp only [mo_op, decide_eq_true_eq]; omega⟩
          | (refine Or.inr ⟨rfl, fun q => ?_⟩
             have q2 := q.2
             rw [Int.toNat_natCast] at q2
             simp only [mo_op, decide_eq_true_eq] at q2
             omega)
      · skip
        refine mo_iconst (pc := 30) X dX5_mayTell_30 ?_
        refine mo_goto (pc := 31) (tgt := 35) X dX5_mayTell_31 (by decide) ?_
        refine mo_zret (pc := 35) X Y rfl ?_ dX5_mayTell_35 ⟨rfl, rfl, _, rfl, ?_⟩
        · omega
        refine ⟨?_, rfl⟩
        first
          | exact Or.inr ⟨rfl, fun q => q.1 c_2⟩
          | exact Or.inl ⟨rfl, by omega, by rw [Int.toNat_natCast]; simp only [mo_op, decide_eq_true_eq]; omega⟩
          | (refine Or.inr ⟨rfl, fun q => ?_⟩
             have q2 := q.2
             rw [Int.toNat_natCast] at q2
             simp only [mo_op, decide_eq_true_eq] at q2
             omega)
set_option maxHeartbeats 4000000 in
set_option maxRecDepth 100000 in
theorem ct5_tells {lf : Launch} {ρf : mo_E} {G : mo_G} {M : mo_M} {t : Nat} {m : Nat} (hm : mo_Md G m) {B a : Int} {p : Nat} (hI : mo_Iv (M (m + 1)) B) (hB : B ≤ 1000000000) (hp : (p : Int) < M (m + 1) 7) (ha : mo_In a) : mo_Ct lf ρf yX5_tells cX5_tells 3 none 2 0 0 [.ref m, mo_iv p, mo_iv a] G M t (mo_pv G t (fun M' => M' = mo_ur M (m + 1) (if a = 0 then mo_ms (M (m + 1)) p else mo_hd (M (m + 1)) p))) := by
  refine mo_ofW (ls0 := [some (.ref m), some (mo_iv p), some (mo_iv a)]) (by decide) rfl (Nat.le_of_ble_eq_true rfl) ?_
  intro κ X Y
  have X : mo_Cx κ lf ρf cX5_tells 3 RX5 none 2 := X
  refine mo_il2 (pc := 0) X dX5_tells_0 ?_
  refine mo_if_eq (pc := 1) (tgt := 12) X dX5_tells_1 (by decide) ?_ (fun c_1 => ?_) (fun c_1 => ?_)
  · omega
  · skip
    refine mo_al0 (pc := 12) X dX5_tells_12 ?_
    refine mo_il1 (pc := 13) X dX5_tells_13 ?_
    refine mo_cVV (pc := 14) (As := [_]) X mo_k_X5_154 mo_y_yX5_misses rfl dX5_tells_14 (ct5_misses (p := p) hm hI hB hp) (mo_Md_o hm) rfl (by decide) (by decide) (Nat.le_of_ble_eq_true rfl) ?_
    rintro M_14 h_14
    refine mo_vret (pc := 17) X Y rfl dX5_tells_17 ⟨rfl, rfl, rfl, ?_⟩
    first
      | (rw [if_pos c_1]; exact h_14)
      | (rw [if_neg c_1]; exact h_6)
  · skip
    refine mo_al0 (pc := 4) X dX5_tells_4 ?_
    refine mo_il1 (pc := 5) X dX5_tells_5 ?_
    refine mo_cVV (pc := 6) (As := [_]) X mo_k_X5_151 mo_y_yX5_holds rfl dX5_tells_6 (ct5_holds (p := p) hm hI hB hp) (mo_Md_o hm) rfl (by decide) (by decide) (Nat.le_of_ble_eq_true rfl) ?_
    rintro M_6 h_6
    refine mo_goto (pc := 9) (tgt := 17) X dX5_tells_9 (by decide) ?_
    refine mo_vret (pc := 17) X Y rfl dX5_tells_17 ⟨rfl, rfl, rfl, ?_⟩
    first
      | (rw [if_pos c_1]; exact h_14)
      | (rw [if_neg c_1]; exact h_6)
set_option maxHeartbeats 4000000 in
set_option maxRecDepth 100000 in
theorem ct5_takeOut {lf : Launch} {ρf : mo_E} {G : mo_G} {M : mo_M} {t : Nat} {m : Nat} (hm : mo_Md G m) {B : Int} {p : Nat} (hI : mo_Iv (M (m + 1)) B) (hB : B ≤ 1000000000) (hp : (p : Int) < M (m + 1) 7) : mo_Ct lf ρf yX5_takeOut cX5_takeOut 3 none 0 0 0 [.ref m, mo_iv p] G M t (mo_pv G t (fun M' => M' = mo_ur M (m + 1) (mo_to (M (m + 1)) p))) := by
  refine mo_ofW (ls0 := [some (.ref m), some (mo_iv p), none]) (by decide) rfl (Nat.le_of_ble_eq_true rfl) ?_
  intro κ X Y
  have X : mo_Cx κ lf ρf cX5_takeOut 3 RX5 none 0 := X
  obtain ⟨hI0, hI1, hI2, hI3, hI4, hI5, hI6, hI7, hIh, hIa, hIe, hIm, hIs, hIl, hIw, hIr, hIt, hIs2, hIs3, hIz⟩ := id hI
  have hn : ((mo_nk (M (m + 1)) : Nat) : Int) = M (m + 1) 7 := by unfold mo_nk; omega
  obtain ⟨q, hq⟩ : ∃ q, mo_nk (M (m + 1)) = q + 1 := ⟨mo_nk (M (m + 1)) - 1, by omega⟩
  have lp2 : ∀ (z i : Nat) (x : Int) (f : Nat → Int), i + z = 7 → x = i → (∀ j, f j = if j = 7 then M (m + 1) 7 - 1 else if 215 + 7 * p ≤ j ∧ j < 215 + 7 * q then M (m + 1) (j + 7) else if 215 + 7 * q ≤ j ∧ j < 215 + 7 * q + i then 0 else M (m + 1) j) → mo_V κ 0 0 61 [some (.ref m), some (mo_iv p), some (mo_iv x)] [] G (mo_ur M (m + 1) f) t := by
    intro z
    induction z with
    | zero =>
      intro i x f hi hx hf
      subst hx
      refine mo_il2 (pc := 61) X dX5_takeOut_61 ?_
      refine mo_bipush (pc := 62) X dX5_takeOut_62 (by decide) ?_
      refine mo_ic_ge (pc := 64) (tgt := 95) X dX5_takeOut_64 (by decide) ?_ ?_ (fun c_64 => ?_) (fun c_64 => ?_)
      · omega
      · omega
      · skip
        refine mo_vret (pc := 95) X Y rfl dX5_takeOut_95 ⟨rfl, rfl, rfl, ?_⟩
        show mo_ur _ _ _ = _
        congr 1
        funext j
        rw [hf]
        unfold mo_to
        rw [hq, show i = 7 by omega, Nat.add_sub_cancel]
      · exfalso
        omega
    | succ z ih =>
      intro i x f hi hx hf
      subst hx
      have hf7 : f 7 = M (m + 1) 7 - 1 := by rw [hf]; rfl
      refine mo_il2 (pc := 61) X dX5_takeOut_61 ?_
      refine mo_bipush (pc := 62) X dX5_takeOut_62 (by decide) ?_
      refine mo_ic_ge (pc := 64) (tgt := 95) X dX5_takeOut_64 (by decide) ?_ ?_ (fun c_64 => ?_) (fun c_64 => ?_)
      · omega
      · omega
      · exfalso
        omega
      · skip
        refine mo_al0 (pc := 67) X dX5_takeOut_67 ?_
        refine mo_f_X5_7 (pc := 68) X dX5_takeOut_68 (mo_Md_o hm) (mo_Md_p0 hm) ?_
        refine mo_sipush (pc := 71) X dX5_takeOut_71 (by decide) ?_
        refine mo_bipush (pc := 74) X dX5_takeOut_74 (by decide) ?_
        refine mo_al0 (pc := 76) X dX5_takeOut_76 ?_
        refine mo_f_X5_7 (pc := 77) X dX5_takeOut_77 (mo_Md_o hm) (mo_Md_p0 hm) ?_
        refine mo_bipush (pc := 80) X dX5_takeOut_80 (by decide) ?_
        refine mo_iald (pc := 82) (j := 7) X dX5_takeOut_82 (mo_Md_r0 hm) (by omega) ?_ ?_ rfl ?_
        · omega
        · omega
        try simp only [mo_ur_s]
        rw [hf7]
        refine mo_imul (pc := 83) X dX5_takeOut_83 ?_
        refine mo_iadd (pc := 84) X dX5_takeOut_84 ?_
        refine mo_il2 (pc := 85) X dX5_takeOut_85 ?_
        refine mo_iadd (pc := 86) X dX5_takeOut_86 ?_
        refine mo_iconst (pc := 87) X dX5_takeOut_87 ?_
        refine mo_iast (pc := 88) (j := 215 + 7 * q + i) X dX5_takeOut_88 (mo_Md_r0 hm) (by omega) ?_ ?_ (by omega) ?_
        · omega
        · omega
        try simp only [mo_ur_ur, mo_ur_s]
        refine mo_ii2 (pc := 89) X dX5_takeOut_89 rfl (by decide) ?_
        refine mo_goto (pc := 92) (tgt := 61) X dX5_takeOut_92 (by decide) ?_
        refine ih (i + 1) _ _ (by omega) (by omega) (fun j => ?_)
        by_cases e : j = 215 + 7 * q + i
        · subst e
          rw [mo_up_s, if_neg (by omega), if_neg (by omega), if_pos (by omega)]
        · rw [mo_up_n e, hf]
          by_cases e7 : j = 7
          · rw [if_pos e7, if_pos e7]
          · rw [if_neg e7, if_neg e7]
            split
            · rfl
            · by_cases e2 : 215 + 7 * q ≤ j ∧ j < 215 + 7 * q + i
              · rw [if_pos e2, if_pos (by omega)]
              · rw [if_neg e2, if_neg (by omega)]
  have lp1 : ∀ (z i : Nat) (x : Int) (f : Nat → Int), i + z = 7 * q → 7 * p ≤ i → x = i → (∀ j, f j = if j = 7 then M (m + 1) 7 - 1 else if 215 + 7 * p ≤ j ∧ j < 215 + i then M (m + 1) (j + 7) else M (m + 1) j) → mo_V κ 0 0 16 [some (.ref m), some (mo_iv p), some (mo_iv x)] [] G (mo_ur M (m + 1) f) t := by
    intro z
    induction z with
    | zero =>
      intro i x f hi hpi hx hf
      subst hx
      have hf7 : f 7 = M (m + 1) 7 - 1 := by rw [hf]; rfl
      refine mo_il2 (pc := 16) X dX5_takeOut_16 ?_
      refine mo_bipush (pc := 17) X dX5_takeOut_17 (by decide) ?_
      refine mo_al0 (pc := 19) X dX5_takeOut_19 ?_
      refine mo_f_X5_7 (pc := 20) X dX5_takeOut_20 (mo_Md_o hm) (mo_Md_p0 hm) ?_
      refine mo_bipush (pc := 23) X dX5_takeOut_23 (by decide) ?_
      refine mo_iald (pc := 25) (j := 7) X dX5_takeOut_25 (mo_Md_r0 hm) (by omega) ?_ ?_ rfl ?_
      · omega
      · omega
      try simp only [mo_ur_s]
      rw [hf7]
      refine mo_imul (pc := 26) X dX5_takeOut_26 ?_
      refine mo_ic_ge (pc := 27) (tgt := 59) X dX5_takeOut_27 (by decide) ?_ ?_ (fun c_27 => ?_) (fun c_27 => ?_)
      · omega
      · omega
      · skip
        refine mo_iconst (pc := 59) X dX5_takeOut_59 ?_
        refine mo_is2 (pc := 60) X dX5_takeOut_60 rfl (by decide) ?_
        refine lp2 7 0 0 f (by omega) rfl (fun j => ?_)
        rw [hf, show i = 7 * q by omega]
        split
        · rfl
        · split
          · rfl
          · rw [if_neg (by omega)]
      · exfalso
        omega
    | succ z ih =>
      intro i x f hi hpi hx hf
      subst hx
      have hf7 : f 7 = M (m + 1) 7 - 1 := by rw [hf]; rfl
      have hfi : f (215 + i + 7) = M (m + 1) (215 + i + 7) := by rw [hf, if_neg (by omega), if_neg (by omega)]
      refine mo_il2 (pc := 16) X dX5_takeOut_16 ?_
      refine mo_bipush (pc := 17) X dX5_takeOut_17 (by decide) ?_
      refine mo_al0 (pc := 19) X dX5_takeOut_19 ?_
      refine mo_f_X5_7 (pc := 20) X dX5_takeOut_20 (mo_Md_o hm) (mo_Md_p0 hm) ?_
      refine mo_bipush (pc := 23) X dX5_takeOut_23 (by decide) ?_
      refine mo_iald (pc := 25) (j := 7) X dX5_takeOut_25 (mo_Md_r0 hm) (by omega) ?_ ?_ rfl ?_
      · omega
      · omega
      try simp only [mo_ur_s]
      rw [hf7]
      refine mo_imul (pc := 26) X dX5_takeOut_26 ?_
      refine mo_ic_ge (pc := 27) (tgt := 59) X dX5_takeOut_27 (by decide) ?_ ?_ (fun c_27 => ?_) (fun c_27 => ?_)
      · omega
      · omega
      · exfalso
        omega
      · skip
        refine mo_al0 (pc := 30) X dX5_takeOut_30 ?_
        refine mo_f_X5_7 (pc := 31) X dX5_takeOut_31 (mo_Md_o hm) (mo_Md_p0 hm) ?_
        refine mo_sipush (pc := 34) X dX5_takeOut_34 (by decide) ?_
        refine mo_il2 (pc := 37) X dX5_takeOut_37 ?_
        refine mo_iadd (pc := 38) X dX5_takeOut_38 ?_
        refine mo_al0 (pc := 39) X dX5_takeOut_39 ?_
        refine mo_f_X5_7 (pc := 40) X dX5_takeOut_40 (mo_Md_o hm) (mo_Md_p0 hm) ?_
        refine mo_sipush (pc := 43) X dX5_takeOut_43 (by decide) ?_
        refine mo_il2 (pc := 46) X dX5_takeOut_46 ?_
        refine mo_iadd (pc := 47) X dX5_takeOut_47 ?_
        refine mo_bipush (pc := 48) X dX5_takeOut_48 (by decide) ?_
        refine mo_iadd (pc := 50) X dX5_takeOut_50 ?_
        refine mo_iald (pc := 51) (j := 215 + i + 7) X dX5_takeOut_51 (mo_Md_r0 hm) (by omega) ?_ ?_ (by omega) ?_
        · omega
        · omega
        try simp only [mo_ur_s]
        rw [hfi]
        refine mo_iast (pc := 52) (j := 215 + i) X dX5_takeOut_52 (mo_Md_r0 hm) (by omega) ?_ ?_ (by omega) ?_
        · omega
        · omega
        try simp only [mo_ur_ur, mo_ur_s]
        refine mo_ii2 (pc := 53) X dX5_takeOut_53 rfl (by decide) ?_
        refine mo_goto (pc := 56) (tgt := 16) X dX5_takeOut_56 (by decide) ?_
        refine ih (i + 1) _ _ (by omega) (by omega) (by omega) (fun j => ?_)
        by_cases e : j = 215 + i
        · subst e
          rw [mo_up_s, if_neg (by omega), if_pos (by omega)]
        · rw [mo_up_n e, hf]
          split
          · rfl
          · by_cases e2 : 215 + 7 * p ≤ j ∧ j < 215 + i
            · rw [if_pos e2, if_pos (by omega)]
            · rw [if_neg e2, if_neg (by omega)]
  refine mo_al0 (pc := 0) X dX5_takeOut_0 ?_
  refine mo_f_X5_7 (pc := 1) X dX5_takeOut_1 (mo_Md_o hm) (mo_Md_p0 hm) ?_
  refine mo_bipush (pc := 4) X dX5_takeOut_4 (by decide) ?_
  refine mo_dup2 (pc := 6) X dX5_takeOut_6 rfl rfl ?_
  refine mo_iald (pc := 7) (j := 7) X dX5_takeOut_7 (mo_Md_r0 hm) (by omega) ?_ ?_ rfl ?_
  · omega
  · omega
  refine mo_iconst (pc := 8) X dX5_takeOut_8 ?_
  refine mo_isub (pc := 9) X dX5_takeOut_9 ?_
  refine mo_iast (pc := 10) (j := 7) X dX5_takeOut_10 (mo_Md_r0 hm) (by omega) ?_ ?_ rfl ?_
  · omega
  · omega
  refine mo_bipush (pc := 11) X dX5_takeOut_11 (by decide) ?_
  refine mo_il1 (pc := 13) X dX5_takeOut_13 ?_
  refine mo_imul (pc := 14) X dX5_takeOut_14 ?_
  refine mo_is2 (pc := 15) X dX5_takeOut_15 rfl (by decide) ?_
  refine lp1 _ (7 * p) _ _ (Nat.add_sub_of_le (show 7 * p ≤ 7 * q by omega)) (Nat.le_refl _) (by omega) (fun j => ?_)
  by_cases e : j = 7
  · subst e
    rw [mo_up_s, if_pos rfl]
  · rw [mo_up_n e, if_neg e, if_neg (by omega)]
set_option maxHeartbeats 4000000 in
set_option maxRecDepth 100000 in
theorem ct5_ends {lf : Launch} {ρf : mo_E} {G : mo_G} {M : mo_M} {t : Nat} {m : Nat} (hm : mo_Md G m) {B : Int} (hI : mo_Iv (M (m + 1)) B) (hB : B ≤ 900000000) (h19 : M (m + 1) 0 < 19) : mo_Ct lf ρf yX5_ends cX5_ends 3 (some .int) 2 0 0 [.ref m] G M t (mo_pi G t (fun x M' => x = mo_eN (M (m + 1)) ∧ M' = mo_ur M (m + 1) (mo_eR (M (m + 1))))) := by
  refine mo_ofW (ls0 := [some (.ref m), none, none]) (by decide) rfl (Nat.le_of_ble_eq_true rfl) ?_
  intro κ X Y
  have X : mo_Cx κ lf ρf cX5_ends 3 RX5 (some .int) 2 := X
  obtain ⟨hI0, hI1, hI2, hI3, hI4, hI5, hI6, hI7, hIh, hIa, hIe, hIm, hIs, hIl, hIw, hIr, hIt, hIs2, hIs3, hIz⟩ := id hI
  have hn : ((mo_nk (M (m + 1)) : Nat) : Int) = M (m + 1) 7 := by unfold mo_nk; omega
  obtain ⟨hw1, hw2, hw3, hw4, hw5⟩ := mo_mw_b hI (mo_nk (M (m + 1))) (Nat.le_refl _)
  have h6 := mo_Iv_nw (mo_Iv_mono hw1 (show B + (mo_nk (M (m + 1)) : Nat) ≤ B + 60 by omega)) (by omega)
  have lp2 : ∀ (z : Nat) (x : Int) (g : Nat → Int), x = (z : Int) - 1 → z ≤ mo_nk g → mo_Iv g (B + 60) → mo_gn g z = mo_eR (M (m + 1)) → mo_V κ 0 0 74 [some (.ref m), some (mo_iv (mo_eN (M (m + 1)))), some (mo_iv x)] [] G (mo_ur M (m + 1) g) t := by
    intro z
    induction z with
    | zero =>
      intro x g hx hz hg he
      refine mo_il2 (pc := 74) X dX5_ends_74 ?_
      refine mo_if_lt (pc := 75) (tgt := 106) X dX5_ends_75 (by decide) ?_ (fun c_75 => ?_) (fun c_75 => ?_)
      · omega
      · skip
        refine mo_il1 (pc := 106) X dX5_ends_106 ?_
        refine mo_iret (pc := 107) X Y rfl dX5_ends_107 ⟨rfl, rfl, _, rfl, ?_⟩
        refine ⟨rfl, ?_⟩
        show mo_ur _ _ _ = _
        rw [← he]
        rfl
      · exfalso
        omega
    | succ z ih =>
      intro x g hx hz hg he
      have hx2 : x = (z : Int) := by omega
      subst hx2
      have e1 : (mo_ur M (m + 1) g) (m + 1) = g := mo_ur_s _ _ _
      have g7 := hg.2.2.2.2.2.2.2.1
      have g0 := hg.1
      have gn : ((mo_nk g : Nat) : Int) = g 7 := by unfold mo_nk; omega
      have hmt := hg.2.2.2.2.2.2.2.2.2.2.2.2.2.2.2.2.1 z (by omega)
      unfold mo_Mt at hmt
      have hu : mo_gn g (z + 1) = mo_gn (if 4 < g 0 - mo_fld g z 2 then mo_to g z else g) z := rfl
      rw [hu] at he
      refine mo_il2 (pc := 74) X dX5_ends_74 ?_
      refine mo_if_lt (pc := 75) (tgt := 106) X dX5_ends_75 (by decide) ?_ (fun c_75 => ?_) (fun c_75 => ?_)
      · omega
      · exfalso
        omega
      · skip
        refine mo_al0 (pc := 78) X dX5_ends_78 ?_
        refine mo_f_X5_7 (pc := 79) X dX5_ends_79 (mo_Md_o hm) (mo_Md_p0 hm) ?_
        refine mo_iconst (pc := 82) X dX5_ends_82 ?_
        refine mo_iald (pc := 83) (j := 0) X dX5_ends_83 (mo_Md_r0 hm) (by omega) ?_ ?_ rfl ?_
        · omega
        · omega
        rw [e1]
        refine mo_al0 (pc := 84) X dX5_ends_84 ?_
        refine mo_il2 (pc := 85) X dX5_ends_85 ?_
        refine mo_iconst (pc := 86) X dX5_ends_86 ?_
        refine mo_cVI (pc := 87) (As := [_, _]) X mo_k_X5_89 mo_y_yX5_of rfl dX5_ends_87 (ct5_of (k := z) (j := 2) hm (by omega)) (mo_Md_o hm) rfl (by decide) (by decide) (Nat.le_of_ble_eq_true rfl) ?_
        rintro r_87 _ ⟨h_87, rfl⟩
        rw [e1] at h_87
        refine mo_isub (pc := 90) X dX5_ends_90 ?_
        refine mo_iconst (pc := 91) X dX5_ends_91 ?_
        refine mo_ic_le (pc := 92) (tgt := 100) X dX5_ends_92 (by decide) ?_ ?_ (fun c_92 => ?_) (fun c_92 => ?_)
        · omega
        · omega
        · skip
          refine mo_ii2 (pc := 100) X dX5_ends_100 rfl (by decide) ?_
          refine mo_goto (pc := 103) (tgt := 74) X dX5_ends_103 (by decide) ?_
          first
            | (rw [if_pos (by omega)] at he
               exact ih _ _ (by omega) (by rw [mo_to_k _ _ (by omega)]; omega) (mo_Iv_to hg (by omega)) he)
            | (rw [if_neg (by omega)] at he
               exact ih _ _ (by omega) (by omega) hg he)
        · skip
          refine mo_al0 (pc := 95) X dX5_ends_95 ?_
          refine mo_il2 (pc := 96) X dX5_ends_96 ?_
          refine mo_cVV (pc := 97) (As := [_]) X mo_k_X5_148 mo_y_yX5_takeOut rfl dX5_ends_97 (ct5_takeOut (B := B + 60) (p := z) hm (by rw [e1]; exact hg) (by omega) (by rw [e1]; omega)) (mo_Md_o hm) rfl (by decide) (by decide) (Nat.le_of_ble_eq_true rfl) ?_
          rintro M_97 h_97
          rw [e1, mo_ur_ur] at h_97
          subst h_97
          refine mo_ii2 (pc := 100) X dX5_ends_100 rfl (by decide) ?_
          refine mo_goto (pc := 103) (tgt := 74) X dX5_ends_103 (by decide) ?_
          first
            | (rw [if_pos (by omega)] at he
               exact ih _ _ (by omega) (by rw [mo_to_k _ _ (by omega)]; omega) (mo_Iv_to hg (by omega)) he)
            | (rw [if_neg (by omega)] at he
               exact ih _ _ (by omega) (by omega) hg he)
  have lp1 : ∀ (z i : Nat) (y x : Int) (g : Nat → Int), i + z = mo_nk (M (m + 1)) → x = i → y = (mo_mw (M (m + 1)) i).1 → g = (mo_mw (M (m + 1)) i).2 → mo_V κ 0 0 4 [some (.ref m), some (mo_iv y), some (mo_iv x)] [] G (mo_ur M (m + 1) g) t := by
    intro z
    induction z with
    | zero =>
      intro i y x g hi hx hy hg
      subst hx
      have hii : i = mo_nk (M (m + 1)) := by omega
      rw [hii] at hy hg
      rw [← hg] at hw1 hw2 hw3 h6
      have e1 : (mo_ur M (m + 1) g) (m + 1) = g := mo_ur_s _ _ _
      have hnn : mo_nw g 7 = M (m + 1) 7 := by
        unfold mo_nw
        rw [mo_up_n (by omega), hw2]
      refine mo_il2 (pc := 4) X dX5_ends_4 ?_
      refine mo_al0 (pc := 5) X dX5_ends_5 ?_
      refine mo_f_X5_7 (pc := 6) X dX5_ends_6 (mo_Md_o hm) (mo_Md_p0 hm) ?_
      refine mo_bipush (pc := 9) X dX5_ends_9 (by decide) ?_
      refine mo_iald (pc := 11) (j := 7) X dX5_ends_11 (mo_Md_r0 hm) (by omega) ?_ ?_ rfl ?_
      · omega
      · omega
      rw [e1]
      refine mo_ic_ge (pc := 12) (tgt := 54) X dX5_ends_12 (by decide) ?_ ?_ (fun c_12 => ?_) (fun c_12 => ?_)
      · omega
      · omega
      · skip
        refine mo_al0 (pc := 54) X dX5_ends_54 ?_
        refine mo_f_X5_7 (pc := 55) X dX5_ends_55 (mo_Md_o hm) (mo_Md_p0 hm) ?_
        refine mo_iconst (pc := 58) X dX5_ends_58 ?_
        refine mo_dup2 (pc := 59) X dX5_ends_59 rfl rfl ?_
        refine mo_iald (pc := 60) (j := 0) X dX5_ends_60 (mo_Md_r0 hm) (by omega) ?_ ?_ rfl ?_
        · omega
        · omega
        try simp only [mo_ur_ur, mo_ur_s]
        refine mo_iconst (pc := 61) X dX5_ends_61 ?_
        refine mo_iadd (pc := 62) X dX5_ends_62 ?_
        refine mo_iast (pc := 63) (j := 0) X dX5_ends_63 (mo_Md_r0 hm) (by omega) ?_ ?_ rfl ?_
        · omega
        · omega
        try simp only [mo_ur_ur, mo_ur_s]
        rw [show va_up g 0 (g 0 + 1) = mo_nw g from rfl]
        refine mo_al0 (pc := 64) X dX5_ends_64 ?_
        refine mo_f_X5_7 (pc := 65) X dX5_ends_65 (mo_Md_o hm) (mo_Md_p0 hm) ?_
        refine mo_bipush (pc := 68) X dX5_ends_68 (by decide) ?_
        refine mo_iald (pc := 70) (j := 7) X dX5_ends_70 (mo_Md_r0 hm) (by omega) ?_ ?_ rfl ?_
        · omega
        · omega
        try simp only [mo_ur_s]
        rw [hnn]
        refine mo_iconst (pc := 71) X dX5_ends_71 ?_
        refine mo_isub (pc := 72) X dX5_ends_72 ?_
        refine mo_is2 (pc := 73) X dX5_ends_73 rfl (by decide) ?_
        rw [show y = mo_eN (M (m + 1)) from hy]
        refine lp2 (mo_nk (M (m + 1))) _ (mo_nw g) (by omega) ?_ h6 ?_
        · unfold mo_nk
          rw [hnn]
          exact Nat.le_refl _
        · rw [hg]
          rfl
      · exfalso
        omega
    | succ z ih =>
      intro i y x g hi hx hy hg
      subst hx
      obtain ⟨k1, k2, k3, k4, k5⟩ := mo_mw_b hI i (by omega)
      rw [← hg] at k1 k2 k3
      rw [← hy] at k4 k5
      have e1 : (mo_ur M (m + 1) g) (m + 1) = g := mo_ur_s _ _ _
      have hmt := k1.2.2.2.2.2.2.2.2.2.2.2.2.2.2.2.2.1 i (by omega)
      unfold mo_Mt at hmt
      have hu : mo_mw (M (m + 1)) (i + 1) = if mo_op g i = true then (y + 1, mo_ms g i) else (y, g) := by
        rw [mo_mw, ← hg, ← hy]
        split
        · rfl
        · rw [hg, hy]
      refine mo_il2 (pc := 4) X dX5_ends_4 ?_
      refine mo_al0 (pc := 5) X dX5_ends_5 ?_
      refine mo_f_X5_7 (pc := 6) X dX5_ends_6 (mo_Md_o hm) (mo_Md_p0 hm) ?_
      refine mo_bipush (pc := 9) X dX5_ends_9 (by decide) ?_
      refine mo_iald (pc := 11) (j := 7) X dX5_ends_11 (mo_Md_r0 hm) (by omega) ?_ ?_ rfl ?_
      · omega
      · omega
      rw [e1]
      refine mo_ic_ge (pc := 12) (tgt := 54) X dX5_ends_12 (by decide) ?_ ?_ (fun c_12 => ?_) (fun c_12 => ?_)
      · omega
      · omega
      · exfalso
        omega
      · skip
        refine mo_al0 (pc := 15) X dX5_ends_15 ?_
        refine mo_il2 (pc := 16) X dX5_ends_16 ?_
        refine mo_iconst (pc := 17) X dX5_ends_17 ?_
        refine mo_cVI (pc := 18) (As := [_, _]) X mo_k_X5_89 mo_y_yX5_of rfl dX5_ends_18 (ct5_of (k := i) (j := 2) hm (by omega)) (mo_Md_o hm) rfl (by decide) (by decide) (Nat.le_of_ble_eq_true rfl) ?_
        rintro r_18 _ ⟨h_18, rfl⟩
        rw [e1] at h_18
        refine mo_al0 (pc := 21) X dX5_ends_21 ?_
        refine mo_f_X5_7 (pc := 22) X dX5_ends_22 (mo_Md_o hm) (mo_Md_p0 hm) ?_
        refine mo_iconst (pc := 25) X dX5_ends_25 ?_
        refine mo_iald (pc := 26) (j := 0) X dX5_ends_26 (mo_Md_r0 hm) (by omega) ?_ ?_ rfl ?_
        · omega
        · omega
        rw [e1]
        refine mo_ic_ne (pc := 27) (tgt := 48) X dX5_ends_27 (by decide) ?_ ?_ (fun c_27 => ?_) (fun c_27 => ?_)
        · omega
        · omega
        · skip
          refine mo_ii2 (pc := 48) X dX5_ends_48 rfl (by decide) ?_
          refine mo_goto (pc := 51) (tgt := 4) X dX5_ends_51 (by decide) ?_
          first
            | (have hop : mo_op g i = true := by
                 simp only [mo_op, decide_eq_true_eq]
                 omega
               rw [if_pos hop] at hu
               exact ih (i + 1) _ _ _ (by omega) (by omega) (by rw [hu]) (by rw [hu]))
            | (have hop : ¬ mo_op g i = true := by
                 simp only [mo_op, decide_eq_true_eq]
                 omega
               rw [if_neg hop] at hu
               exact ih (i + 1) _ _ _ (by omega) (by omega) (by rw [hu]) (by rw [hu]))
        · skip
          refine mo_al0 (pc := 30) X dX5_ends_30 ?_
          refine mo_il2 (pc := 31) X dX5_ends_31 ?_
          refine mo_bipush (pc := 32) X dX5_ends_32 (by decide) ?_
          refine mo_cVI (pc := 34) (As := [_, _]) X mo_k_X5_89 mo_y_yX5_of rfl dX5_ends_34 (ct5_of (k := i) (j := 6) hm (by omega)) (mo_Md_o hm) rfl (by decide) (by decide) (Nat.le_of_ble_eq_true rfl) ?_
          rintro r_34 _ ⟨h_34, rfl⟩
          rw [e1] at h_34
          refine mo_if_ne (pc := 37) (tgt := 48) X dX5_ends_37 (by decide) ?_ (fun c_37 => ?_) (fun c_37 => ?_)
          · omega
          · skip
            refine mo_ii2 (pc := 48) X dX5_ends_48 rfl (by decide) ?_
            refine mo_goto (pc := 51) (tgt := 4) X dX5_ends_51 (by decide) ?_
            first
              | (have hop : mo_op g i = true := by
                   simp only [mo_op, decide_eq_true_eq]
                   omega
                 rw [if_pos hop] at hu
                 exact ih (i + 1) _ _ _ (by omega) (by omega) (by rw [hu]) (by rw [hu]))
              | (have hop : ¬ mo_op g i = true := by
                   simp only [mo_op, decide_eq_true_eq]
                   omega
                 rw [if_neg hop] at hu
                 exact ih (i + 1) _ _ _ (by omega) (by omega) (by rw [hu]) (by rw [hu]))
          · skip
            refine mo_al0 (pc := 40) X dX5_ends_40 ?_
            refine mo_il2 (pc := 41) X dX5_ends_41 ?_
            refine mo_cVV (pc := 42) (As := [_]) X mo_k_X5_154 mo_y_yX5_misses rfl dX5_ends_42 (ct5_misses (B := B + i) (p := i) hm (by rw [e1]; exact k1) (by omega) (by rw [e1]; omega)) (mo_Md_o hm) rfl (by decide) (by decide) (Nat.le_of_ble_eq_true rfl) ?_
            rintro M_42 h_42
            rw [e1, mo_ur_ur] at h_42
            subst h_42
            refine mo_ii1 (pc := 45) X dX5_ends_45 rfl (by decide) ?_
            refine mo_ii2 (pc := 48) X dX5_ends_48 rfl (by decide) ?_
            refine mo_goto (pc := 51) (tgt := 4) X dX5_ends_51 (by decide) ?_
            first
              | (have hop : mo_op g i = true := by
                   simp only [mo_op, decide_eq_true_eq]
                   omega
                 rw [if_pos hop] at hu
                 exact ih (i + 1) _ _ _ (by omega) (by omega) (by rw [hu]) (by rw [hu]))
              | (have hop : ¬ mo_op g i = true := by
                   simp only [mo_op, decide_eq_true_eq]
                   omega
                 rw [if_neg hop] at hu
                 exact ih (i + 1) _ _ _ (by omega) (by omega) (by rw [hu]) (by rw [hu]))
  have h0 := lp1 _ 0 0 0 (M (m + 1)) (Nat.zero_add _) rfl rfl rfl
  rw [mo_ur_id] at h0
  refine mo_iconst (pc := 0) X dX5_ends_0 ?_
  refine mo_is1 (pc := 1) X dX5_ends_1 rfl (by decide) ?_
  refine mo_iconst (pc := 2) X dX5_ends_2 ?_
  refine mo_is2 (pc := 3) X dX5_ends_3 rfl (by decide) ?_
  exact h0
