theorem mo_b1 {x : Int} {P : Prop} (h : (x = 1 ∧ P) ∨ (x = 0 ∧ ¬ P)) (hx : x ≠ 0) : P := h.elim (fun q => q.2) (fun q => absurd q.1 hx)
theorem mo_b0 {x : Int} {P : Prop} (h : (x = 1 ∧ P) ∨ (x = 0 ∧ ¬ P)) (hx : x = 0) : ¬ P := h.elim (fun q => absurd (q.1.symm.trans hx) (by decide)) (fun q => q.2)
