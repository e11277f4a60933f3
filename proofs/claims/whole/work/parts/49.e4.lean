theorem mo_wd {κ : mo_T} {k n k2 n2 pc : Nat} {ls : List (Option Value)} {st : List Value} {G : mo_G} {M : mo_M} {t : Nat} (h1 : k ≤ k2) (h2 : n ≤ n2) (h : mo_V κ k2 n2 pc ls st G M t) : mo_V κ k n pc ls st G M t := by
  obtain ⟨⟨p, l, e, R, s⟩, ⟨m, args, below, meth, c⟩, Q, ρ⟩ := κ
  intro H locs lr ht hR hS hl
  exact fun T hT X => h H locs lr ht hR hS hl T hT (stand_widen X h1 h2)
def mo_IAE : String := "java/lang/IllegalArgumentException"
def mo_ISE : String := "java/lang/IllegalStateException"
def mo_IOE : String := "java/lang/IndexOutOfBoundsException"
theorem mo_fitN : ∀ n ∈ mo_nm, Bundle.fit n = true := by decide +kernel
theorem mo_vtI : ∀ w ∈ Cond.classLink RX4 73 "java/lang/IndexOutOfBoundsException" :: Cond.initialized "java/lang/IndexOutOfBoundsException" :: vx_atS RX4 77 "java/lang/IndexOutOfBoundsException" mo_nm, vx_ot w = true := List.all_eq_true.mp (by decide +kernel)
theorem mo_vtA : ∀ w ∈ Cond.classLink RX4 48 "java/lang/IllegalArgumentException" :: Cond.initialized "java/lang/IllegalArgumentException" :: vx_atS RX4 52 "java/lang/IllegalArgumentException" mo_nm, vx_ot w = true := List.all_eq_true.mp (by decide +kernel)
theorem mo_vtT : ∀ w ∈ Cond.classLink RX4 58 "java/lang/IllegalStateException" :: Cond.initialized "java/lang/IllegalStateException" :: vx_atS RX4 62 "java/lang/IllegalStateException" mo_nm, vx_ot w = true := List.all_eq_true.mp (by decide +kernel)
set_option maxHeartbeats 4000000 in
set_option maxRecDepth 100000 in
theorem ct4_append {lf : Launch} {ρf : mo_E} {G : mo_G} {M : mo_M} {t : Nat} (hlf : lf.stackTraces = false) {x n sv s : Nat} {g T : Nat → Int} {S : Nat → Nat → Int} {v : Int} (hC : mo_CI G M x g n T sv S s) (hn : n ≤ 100) (hv : mo_In v) : mo_Cv lf ρf yX4_append cX4_append 2 (some .int) 6 1 6 [.ref x, mo_iv v] G M t (fun u G' M' t' => G' = G ∧ t' = t ∧ (0 ≤ v ∧ v ≤ 127) ∧ n < 100 ∧ u = some (mo_iv ((n : Int) + 1)) ∧ mo_CI G M' x g (n + 1) (va_up T n v) sv S s ∧ ∀ a, mo_oz x a → M' a = M a) (fun E G' M' t' => G' = G ∧ M' = M ∧ t ≤ t' ∧ ((E = mo_IAE ∧ ¬ (0 ≤ v ∧ v ≤ 127)) ∨ (E = mo_ISE ∧ (0 ≤ v ∧ v ≤ 127) ∧ ¬ (n < 100)))) := by
  refine mo_ofWX (ls0 := [some (.ref x), some (mo_iv v)]) (by decide) rfl (Nat.le_of_ble_eq_true rfl) ?_
  intro κ X Y
  have X : mo_Cx κ lf ρf cX4_append 2 RX4 (some .int) 6 := X
  obtain ⟨hx, hg, hS, h5, hSv, ht, hT⟩ := id hC
  refine mo_il1 (pc := 0) X dX4_append_0 ?_
  refine mo_if_lt (pc := 1) (tgt := 10) X dX4_append_1 (by decide) ?_ (fun c_1 => ?_) (fun c_1 => ?_)
  · omega
  · skip
    refine mo_thrSW (pc := 10) (names := mo_nm) (text := "value is out of range") X Y hlf (by decide +kernel) mo_fitN mo_wq_X4_48 mo_wz_IllegalArgumentException (by decide) mo_hatA mo_vtA dX4_append_10 dX4_append_13 dX4_append_14 dX4_append_17 dX4_append_20 (by decide) (Nat.le_of_ble_eq_true rfl) (by decide) (by decide) (fun t9 h9 => ?_)
    exact ⟨rfl, rfl, h9, Or.inl ⟨rfl, by omega⟩⟩
  · skip
    refine mo_il1 (pc := 4) X dX4_append_4 ?_
    refine mo_bipush (pc := 5) X dX4_append_5 (by decide) ?_
    refine mo_ic_le (pc := 7) (tgt := 21) X dX4_append_7 (by decide) ?_ ?_ (fun c_7 => ?_) (fun c_7 => ?_)
    · omega
    · omega
    · skip
      refine mo_al0 (pc := 21) X dX4_append_21 ?_
      refine mo_f_X4_33 (pc := 22) X dX4_append_22 (mo_Ms_o hx) (mo_Ms_p4 hx) ?_
      refine mo_f_X4_275 (pc := 25) X dX4_append_25 (mo_Tx_o (mo_Ms_r4 hx)) ?_
      rw [ht]
      refine mo_bipush (pc := 28) X dX4_append_28 (by decide) ?_
      refine mo_ic_lt (pc := 30) (tgt := 44) X dX4_append_30 (by decide) ?_ ?_ (fun c_30 => ?_) (fun c_30 => ?_)
      · omega
      · omega
      · skip
        refine mo_toN X Y (fun κ X Y => ?_)
        refine mo_al0 (pc := 44) X dX4_append_44 ?_
        refine mo_f_X4_33 (pc := 45) X dX4_append_45 (mo_Ms_o hx) (mo_Ms_p4 hx) ?_
        refine mo_il1 (pc := 48) X dX4_append_48 ?_
        refine mo_cVI (pc := 49) (As := [_]) X mo_k_X4_280 mo_y_yX0_addByte rfl dX4_append_49 (ct0_addByte (n := n) (mo_Ms_r4 hx) (by omega) ht) (mo_Tx_o (mo_Ms_r4 hx)) rfl (by decide) (by decide) (Nat.le_of_ble_eq_true rfl) ?_
        rintro r_9 M_9 ⟨h_9, hM⟩
        subst h_9
        refine mo_wd (k2 := 1) (n2 := 6) (Nat.zero_le _) (Nat.zero_le _) ?_
        refine mo_iret (pc := 52) X Y rfl dX4_append_52 ⟨rfl, rfl, by omega, by omega, rfl, ?_, fun a ha => by rw [hM, mo_ur_n (by omega), mo_ur_n (by omega)]⟩
        rw [hM]
        refine ⟨hx, hg, mo_SR_fr hS fun a a1 a2 => by rw [mo_ur_n (by omega), mo_ur_n (by omega)], by rw [mo_ur_n (by omega), mo_ur_n (by omega)]; exact h5, fun i hi => mo_SR_fr (hSv i hi) fun a a1 a2 => by rw [mo_ur_n (by omega), mo_ur_n (by omega)], by rw [mo_ur_s, mo_up_s]; rfl, fun j hj => ?_⟩
        rw [mo_ur_n (by omega), show x + 127 + 2 = x + 129 from rfl, mo_ur_s]
        by_cases c : j = n
        · rw [c, mo_up_s, mo_up_s]
        · rw [mo_up_n c, mo_up_n c]
          exact hT j (by omega)
      · skip
        refine mo_thrSW (pc := 33) (names := mo_nm) (text := "the text has 100 bytes") X Y hlf (by decide +kernel) mo_fitN mo_wq_X4_58 mo_wz_IllegalStateException (by decide) mo_hatT mo_vtT dX4_append_33 dX4_append_36 dX4_append_37 dX4_append_40 dX4_append_43 (by decide) (Nat.le_of_ble_eq_true rfl) (by decide) (by decide) (fun t9 h9 => ?_)
        exact ⟨rfl, rfl, h9, Or.inr ⟨rfl, by omega, by omega⟩⟩
    · skip
      refine mo_thrSW (pc := 10) (names := mo_nm) (text := "value is out of range") X Y hlf (by decide +kernel) mo_fitN mo_wq_X4_48 mo_wz_IllegalArgumentException (by decide) mo_hatA mo_vtA dX4_append_10 dX4_append_13 dX4_append_14 dX4_append_17 dX4_append_20 (by decide) (Nat.le_of_ble_eq_true rfl) (by decide) (by decide) (fun t9 h9 => ?_)
      exact ⟨rfl, rfl, h9, Or.inl ⟨rfl, by omega⟩⟩
