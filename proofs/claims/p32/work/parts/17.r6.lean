theorem mo_pl_0 {w : Nat} (hw : w < 20) : ∀ (n : Nat) {g : Nat → Int} {B : Int}, mo_Iv g B → (mo_pl w n g).2 0 = g 0
  | 0, g, B, h => rfl
  | n + 1, g, B, h => by
    rw [mo_pl]
    split
    · rfl
    · rename_i hb
      obtain ⟨p1, -⟩ := mo_p1 h hw hb
      show (mo_pl w n (mo_l1 g w)).2 0 = g 0
      rw [mo_pl_0 hw n p1]
      exact mo_ly_o (by omega) (by omega) (by omega)
theorem mo_owa_b {g : Nat → Int} {B : Int} {w : Nat} (h : mo_Iv g B) (hw : w < 20) : 0 ≤ mo_owa g w ∧ mo_owa g w ≤ 1120 := by
  have h4 := h.2.2.2.2.1
  have h9 : 0 ≤ mo_owa g w ∧ mo_owa g w ≤ ((g 4).toNat : Nat) * 140 := mo_sum_le (fun j hj => mo_ow_le h (by omega) hw)
  omega
def mo_ov (g : Nat → Int) (o : Nat) (what : Int) : Int := if what = 0 then g (8 + 20 * o + (g 0).toNat) else if what = 1 then g (168 + o) else if what = 2 then g (176 + o) else if what = 3 then g (184 + o) else if what = 4 then mo_cnt (mo_plb g o 19) (mo_nk g) else if what = 5 then mo_ow g o (g 0).toNat else mo_hsum g o 20
def mo_ev (g : Nat → Int) (e : Nat) (what : Int) : Int := if what = 0 then g (192 + e) else if what = 1 then g (198 + e) else if what = 2 then mo_mny g (g 0) (mo_nk g) e else g (204 + e)
def mo_nv (g : Nat → Int) (what : Int) : Int := if what = 0 then g 4 else if what = 1 then g 5 else if what = 2 then g 6 else if what = 3 then g 7 else if what = 4 then g 0 else if what = 5 then g 1 else if what = 6 then g 2 else if what = 7 then g 3 else if what = 8 then mo_owa g (g 0).toNat else g 1
