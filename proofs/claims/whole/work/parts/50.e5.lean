set_option maxHeartbeats 4000000 in
set_option maxRecDepth 100000 in
theorem ct4_hours {lf : Launch} {ρf : mo_E} {G : mo_G} {M : mo_M} {t : Nat} (hlf : lf.stackTraces = false) {g : Nat → Int} {B : Int} {x : Nat} (hx : mo_Ms G x) (hS : mo_SR M (x + 1) g) (hI : mo_Iv g B) (hB : B ≤ 800000000) {o w : Int} (ho : mo_In o) (hw : mo_In w) : mo_Cv lf ρf yX4_hours cX4_hours 3 (some .int) 6 1 6 [.ref x, mo_iv o, mo_iv w] G M t (fun u G' M' t' => G' = G ∧ t' = t ∧ M' = M ∧ (0 ≤ o ∧ o < g 4) ∧ (0 ≤ w ∧ w ≤ 19) ∧ u = some (mo_iv (g (8 + 20 * o.toNat + w.toNat)))) (fun E G' M' t' => G' = G ∧ M' = M ∧ t ≤ t' ∧ ((E = mo_IOE ∧ ¬ (0 ≤ o ∧ o < g 4)) ∨ (E = mo_IAE ∧ (0 ≤ o ∧ o < g 4) ∧ ¬ (0 ≤ w ∧ w ≤ 19)))) := by
  refine mo_ofWX (ls0 := [some (.ref x), some (mo_iv o), some (mo_iv w)]) (by decide) rfl (Nat.le_of_ble_eq_true rfl) ?_
  intro κ X Y
  have X : mo_Cx κ lf ρf cX4_hours 3 RX4 (some .int) 6 := X
  obtain ⟨hI0, hI1, hI2, hI3, hI4, hI5, hI6, hI7, -⟩ := id hI
  obtain ⟨s0, s1, s2, s3, s4, s5, sH, -⟩ := id hS
  refine mo_al0 (pc := 0) X dX4_hours_0 ?_
  refine mo_f_X4_12 (pc := 1) X dX4_hours_1 (mo_Ms_o hx) (mo_Ms_p0 hx) ?_
  refine mo_il1 (pc := 4) X dX4_hours_4 ?_
  refine mo_cVI (pc := 5) (As := [_]) X mo_k_X4_70 mo_y_yX2_hasOrder rfl dX4_hours_5 (ct2_hasOrder (mo_Ms_r0 hx) ho (by omega)) (mo_St_o (mo_Ms_r0 hx)) rfl (by decide) (by decide) (Nat.le_of_ble_eq_true rfl) ?_
  rintro r_5 _ ⟨h_5, rfl⟩
  refine mo_if_ne (pc := 8) (tgt := 21) X dX4_hours_8 (by decide) ?_ (fun c_8 => ?_) (fun c_8 => ?_)
  · omega
  · skip
    refine mo_il2 (pc := 21) X dX4_hours_21 ?_
    refine mo_cSI (pc := 22) (As := [_]) X mo_k_X4_145 mo_y_yX4_isWeek dX4_hours_22 (ct4_isWeek hw) rfl (by decide) (by decide) (Nat.le_of_ble_eq_true rfl) ?_
    rintro r_22 _ ⟨h_22, rfl⟩
    refine mo_if_ne (pc := 25) (tgt := 38) X dX4_hours_25 (by decide) ?_ (fun c_25 => ?_) (fun c_25 => ?_)
    · omega
    · skip
      refine mo_al0 (pc := 38) X dX4_hours_38 ?_
      refine mo_f_X4_12 (pc := 39) X dX4_hours_39 (mo_Ms_o hx) (mo_Ms_p0 hx) ?_
      refine mo_il1 (pc := 42) X dX4_hours_42 ?_
      refine mo_il2 (pc := 43) X dX4_hours_43 ?_
      refine mo_toN X Y (fun κ X Y => ?_)
      obtain ⟨on, rfl⟩ := Int.eq_ofNat_of_zero_le (show 0 ≤ o by omega)
      obtain ⟨wn, rfl⟩ := Int.eq_ofNat_of_zero_le (show 0 ≤ w by omega)
      refine mo_cVI (pc := 44) (As := [_, _]) X mo_k_X4_84 mo_y_yX2_hoursIn rfl dX4_hours_44 (ct2_hoursIn (o := on) (w := wn) (mo_Ms_r0 hx) (by omega) (by omega)) (mo_St_o (mo_Ms_r0 hx)) rfl (by decide) (by decide) (Nat.le_of_ble_eq_true rfl) ?_
      rintro r_44 _ ⟨h_44, rfl⟩
      refine mo_wd (k2 := 1) (n2 := 6) (Nat.zero_le _) (Nat.zero_le _) ?_
      refine mo_iret (pc := 47) X Y rfl dX4_hours_47 ⟨rfl, rfl, rfl, by omega, by omega, ?_⟩
      simp only [Int.toNat_natCast]
      rw [h_44, sH _ (by omega), show 8 + (20 * on + wn) = 8 + 20 * on + wn by omega]
    · skip
      refine mo_thrS (pc := 28) (names := mo_nm) (text := "week is out of range") X Y hlf (by decide +kernel) mo_fitN mo_wq_X4_48 mo_wz_IllegalArgumentException (by decide) mo_hatA mo_vtA dX4_hours_28 dX4_hours_31 dX4_hours_32 dX4_hours_34 dX4_hours_37 (by decide) (Nat.le_of_ble_eq_true rfl) (by decide) (by decide) (fun t9 h9 => ?_)
      exact ⟨rfl, rfl, h9, Or.inr ⟨rfl, by omega, by omega⟩⟩
  · skip
    refine mo_thrS (pc := 11) (names := mo_nm) (text := "no such order") X Y hlf (by decide +kernel) mo_fitN mo_wq_X4_73 mo_wz_IndexOutOfBoundsException (by decide) mo_hatI mo_vtI dX4_hours_11 dX4_hours_14 dX4_hours_15 dX4_hours_17 dX4_hours_20 (by decide) (Nat.le_of_ble_eq_true rfl) (by decide) (by decide) (fun t9 h9 => ?_)
    exact ⟨rfl, rfl, h9, Or.inl ⟨rfl, by omega⟩⟩
set_option maxHeartbeats 4000000 in
set_option maxRecDepth 100000 in
theorem ct4_owed {lf : Launch} {ρf : mo_E} {G : mo_G} {M : mo_M} {t : Nat} (hlf : lf.stackTraces = false) {g : Nat → Int} {B : Int} {x : Nat} (hx : mo_Ms G x) (hS : mo_SR M (x + 1) g) (hI : mo_Iv g B) (hB : B ≤ 800000000) {o w : Int} (ho : mo_In o) (hw : mo_In w) : mo_Cv lf ρf yX4_owed cX4_owed 3 (some .int) 6 1 6 [.ref x, mo_iv o, mo_iv w] G M t (fun u G' M' t' => G' = G ∧ t' = t ∧ M' = M ∧ (0 ≤ o ∧ o < g 4) ∧ (0 ≤ w ∧ w ≤ 19) ∧ u = some (mo_iv (mo_ow g o.toNat w.toNat))) (fun E G' M' t' => G' = G ∧ M' = M ∧ t ≤ t' ∧ ((E = mo_IOE ∧ ¬ (0 ≤ o ∧ o < g 4)) ∨ (E = mo_IAE ∧ (0 ≤ o ∧ o < g 4) ∧ ¬ (0 ≤ w ∧ w ≤ 19)))) := by
  refine mo_ofWX (ls0 := [some (.ref x), some (mo_iv o), some (mo_iv w)]) (by decide) rfl (Nat.le_of_ble_eq_true rfl) ?_
  intro κ X Y
  have X : mo_Cx κ lf ρf cX4_owed 3 RX4 (some .int) 6 := X
  obtain ⟨hI0, hI1, hI2, hI3, hI4, hI5, hI6, hI7, -⟩ := id hI
  obtain ⟨s0, s1, s2, s3, s4, s5, sH, -⟩ := id hS
  refine mo_al0 (pc := 0) X dX4_owed_0 ?_
  refine mo_f_X4_12 (pc := 1) X dX4_owed_1 (mo_Ms_o hx) (mo_Ms_p0 hx) ?_
  refine mo_il1 (pc := 4) X dX4_owed_4 ?_
  refine mo_cVI (pc := 5) (As := [_]) X mo_k_X4_70 mo_y_yX2_hasOrder rfl dX4_owed_5 (ct2_hasOrder (mo_Ms_r0 hx) ho (by omega)) (mo_St_o (mo_Ms_r0 hx)) rfl (by decide) (by decide) (Nat.le_of_ble_eq_true rfl) ?_
  rintro r_5 _ ⟨h_5, rfl⟩
  refine mo_if_ne (pc := 8) (tgt := 21) X dX4_owed_8 (by decide) ?_ (fun c_8 => ?_) (fun c_8 => ?_)
  · omega
  · skip
    refine mo_il2 (pc := 21) X dX4_owed_21 ?_
    refine mo_cSI (pc := 22) (As := [_]) X mo_k_X4_145 mo_y_yX4_isWeek dX4_owed_22 (ct4_isWeek hw) rfl (by decide) (by decide) (Nat.le_of_ble_eq_true rfl) ?_
    rintro r_22 _ ⟨h_22, rfl⟩
    refine mo_if_ne (pc := 25) (tgt := 38) X dX4_owed_25 (by decide) ?_ (fun c_25 => ?_) (fun c_25 => ?_)
    · omega
    · skip
      refine mo_al0 (pc := 38) X dX4_owed_38 ?_
      refine mo_f_X4_12 (pc := 39) X dX4_owed_39 (mo_Ms_o hx) (mo_Ms_p0 hx) ?_
      refine mo_il1 (pc := 42) X dX4_owed_42 ?_
      refine mo_il2 (pc := 43) X dX4_owed_43 ?_
      refine mo_toN X Y (fun κ X Y => ?_)
      obtain ⟨on, rfl⟩ := Int.eq_ofNat_of_zero_le (show 0 ≤ o by omega)
      obtain ⟨wn, rfl⟩ := Int.eq_ofNat_of_zero_le (show 0 ≤ w by omega)
      refine mo_cVI (pc := 44) (As := [_, _]) X mo_k_X4_198 mo_y_yX2_debt rfl dX4_owed_44 (ct2_debt (o := on) (w := wn) (mo_Ms_r0 hx) hS hI (by omega) (by omega) (by omega)) (mo_St_o (mo_Ms_r0 hx)) rfl (by decide) (by decide) (Nat.le_of_ble_eq_true rfl) ?_
      rintro r_44 _ ⟨h_44, rfl⟩
      refine mo_wd (k2 := 1) (n2 := 6) (Nat.zero_le _) (Nat.zero_le _) ?_
      refine mo_iret (pc := 47) X Y rfl dX4_owed_47 ⟨rfl, rfl, rfl, by omega, by omega, ?_⟩
      simp only [Int.toNat_natCast]
      rw [h_44]
    · skip
      refine mo_thrS (pc := 28) (names := mo_nm) (text := "week is out of range") X Y hlf (by decide +kernel) mo_fitN mo_wq_X4_48 mo_wz_IllegalArgumentException (by decide) mo_hatA mo_vtA dX4_owed_28 dX4_owed_31 dX4_owed_32 dX4_owed_34 dX4_owed_37 (by decide) (Nat.le_of_ble_eq_true rfl) (by decide) (by decide) (fun t9 h9 => ?_)
      exact ⟨rfl, rfl, h9, Or.inr ⟨rfl, by omega, by omega⟩⟩
  · skip
    refine mo_thrS (pc := 11) (names := mo_nm) (text := "no such order") X Y hlf (by decide +kernel) mo_fitN mo_wq_X4_73 mo_wz_IndexOutOfBoundsException (by decide) mo_hatI mo_vtI dX4_owed_11 dX4_owed_14 dX4_owed_15 dX4_owed_17 dX4_owed_20 (by decide) (Nat.le_of_ble_eq_true rfl) (by decide) (by decide) (fun t9 h9 => ?_)
    exact ⟨rfl, rfl, h9, Or.inl ⟨rfl, by omega⟩⟩
