theorem mo_atm {own cls : String} {ic : Nat} (hg : ((vx_atS own ic cls mo_nm).filter goodWord).all (fun w => decide (w ∈ lw_tbl)) = true) : ∀ w ∈ (vx_atS own ic cls mo_nm).filter goodWord, w ∈ mo_B := fun w hw =>
  List.mem_filter.mpr ⟨of_decide_eq_true (List.all_eq_true.mp hg w hw), (List.mem_filter.mp hw).2⟩
set_option maxHeartbeats 4000000 in
set_option maxRecDepth 1000000 in
theorem mo_atIg : ((vx_atS RX4 77 "java/lang/IndexOutOfBoundsException" mo_nm).filter goodWord).all (fun w => decide (w ∈ lw_tbl)) = true := by decide +kernel
set_option maxHeartbeats 4000000 in
set_option maxRecDepth 1000000 in
theorem mo_atAg : ((vx_atS RX4 52 "java/lang/IllegalArgumentException" mo_nm).filter goodWord).all (fun w => decide (w ∈ lw_tbl)) = true := by decide +kernel
set_option maxHeartbeats 4000000 in
set_option maxRecDepth 1000000 in
theorem mo_atTg : ((vx_atS RX4 62 "java/lang/IllegalStateException" mo_nm).filter goodWord).all (fun w => decide (w ∈ lw_tbl)) = true := by decide +kernel
theorem mo_hat {own cls : String} {ic : Nat} (hg : ((vx_atS own ic cls mo_nm).filter goodWord).all (fun w => decide (w ∈ lw_tbl)) = true) (hb : ∀ w ∈ (vx_atS own ic cls mo_nm).filter (fun w => !goodWord w), w ∈ mo_bad) : ∀ w ∈ vx_atS own ic cls mo_nm, w ∈ mo_B ∨ w ∈ mo_bad := fun w hw => by
  cases h : goodWord w
  · exact Or.inr (hb w (List.mem_filter.mpr ⟨hw, by rw [h]; rfl⟩))
  · exact Or.inl (mo_atm hg w (List.mem_filter.mpr ⟨hw, h⟩))
theorem mo_hatI : ∀ w ∈ vx_atS RX4 77 "java/lang/IndexOutOfBoundsException" mo_nm, w ∈ mo_B ∨ w ∈ mo_bad := mo_hat mo_atIg fun w hw => by
  obtain ⟨h1, h2⟩ := List.mem_filter.mp hw
  exact List.mem_filter.mpr ⟨List.mem_append.mpr (Or.inl h1), h2⟩
theorem mo_hatA : ∀ w ∈ vx_atS RX4 52 "java/lang/IllegalArgumentException" mo_nm, w ∈ mo_B ∨ w ∈ mo_bad := mo_hat mo_atAg fun w hw => by
  obtain ⟨h1, h2⟩ := List.mem_filter.mp hw
  exact List.mem_filter.mpr ⟨List.mem_append.mpr (Or.inr (List.mem_append.mpr (Or.inl h1))), h2⟩
theorem mo_hatT : ∀ w ∈ vx_atS RX4 62 "java/lang/IllegalStateException" mo_nm, w ∈ mo_B ∨ w ∈ mo_bad := mo_hat mo_atTg fun w hw => by
  obtain ⟨h1, h2⟩ := List.mem_filter.mp hw
  exact List.mem_filter.mpr ⟨List.mem_append.mpr (Or.inr (List.mem_append.mpr (Or.inr h1))), h2⟩
