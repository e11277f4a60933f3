theorem mo_upup (f : Nat → Int) (k : Nat) (u v : Int) : va_up (va_up f k u) k v = va_up f k v := by
  funext j
  by_cases c : j = k
  · rw [c, mo_up_s, mo_up_s]
  · rw [mo_up_n c, mo_up_n c, mo_up_n c]
theorem mo_upid {f : Nat → Int} {k : Nat} {v : Int} (h : f k = v) : va_up f k v = f := by
  funext j
  by_cases c : j = k
  · rw [c, mo_up_s, h]
  · rw [mo_up_n c]
/-- the byte at a place; -1 behind the last -/
def mo_bh (T : Nat → Int) (n p : Nat) : Int := if p < n then T p else -1
def mo_dg (c : Int) : Bool := decide (48 ≤ c ∧ c ≤ 57)
def mo_dok (b : Nat → Int) (p : Nat) : Bool := decide (48 ≤ b p ∧ b p ≤ 55)
def mo_ne (b : Nat → Int) (p : Nat) : Nat := if mo_dg (b (p + 1)) = true then p + 2 else p + 1
def mo_nvl (b : Nat → Int) (p : Nat) : Int := if mo_dg (b (p + 1)) = true then 10 * (b p - 48) + b (p + 1) - 48 else b p - 48
def mo_nok (b : Nat → Int) (p : Nat) (hi : Int) : Bool := mo_dg (b p) && (!mo_dg (b (mo_ne b p)) && decide (mo_nvl b p ≤ hi))
def mo_nf (b : Nat → Int) (p : Nat) : Nat := if mo_dg (b p) = true then (if mo_dg (b (mo_ne b p)) = true then mo_ne b p else p) else p
theorem mo_ne_b (b : Nat → Int) (p : Nat) : p + 1 ≤ mo_ne b p ∧ mo_ne b p ≤ p + 2 := by
  unfold mo_ne; split <;> omega
theorem mo_nf_b (b : Nat → Int) (p : Nat) : p ≤ mo_nf b p ∧ mo_nf b p ≤ p + 2 := by
  have := mo_ne_b b p
  unfold mo_nf; split
  · split <;> omega
  · omega
/-- the parts behind the letter: whether they are right; the place behind them, or of the fault -/
def mo_pt (b : Nat → Int) (p : Nat) : Bool × Nat :=
  if b p = 99 then
    (if mo_dok b (p + 1) = true then
      (if mo_nok b (p + 2) 19 = true then
        (if b (mo_ne b (p + 2)) = 58 then
          (if mo_dok b (mo_ne b (p + 2) + 1) = true then (true, mo_ne b (p + 2) + 2) else (false, mo_ne b (p + 2) + 1))
        else (false, mo_ne b (p + 2)))
      else (false, mo_nf b (p + 2)))
    else (false, p + 1))
  else if b p = 112 then (if mo_nok b (p + 1) 19 = true then (true, mo_ne b (p + 1)) else (false, mo_nf b (p + 1)))
  else if b p = 104 ∨ b p = 109 then (if mo_nok b (p + 1) 99 = true then (true, mo_ne b (p + 1)) else (false, mo_nf b (p + 1)))
  else (true, p + 1)
def mo_ltr (b : Nat → Int) (p : Nat) : Bool := decide (b p = 99 ∨ b p = 112 ∨ b p = 104 ∨ b p = 109 ∨ b p = 119)
def mo_okp (b : Nat → Int) (p : Nat) : Bool := mo_ltr b p && (mo_pt b p).1
def mo_oq (b : Nat → Int) (p : Nat) : Nat := if mo_ltr b p = true then (mo_pt b p).2 else p
def mo_oN (b : Nat → Int) (p : Nat) : Int := if b p = 99 then b (p + 1) - 48 else mo_nvl b (p + 1)
def mo_oW (b : Nat → Int) (p : Nat) : Int := if b p = 99 then mo_nvl b (p + 2) else mo_nvl b (p + 1)
def mo_oH (b : Nat → Int) (p : Nat) : Int := b (mo_ne b (p + 2) + 1) - 48
set_option maxHeartbeats 4000000 in
set_option maxRecDepth 100000 in
theorem ct0_byteHere {lf : Launch} {ρf : mo_E} {G : mo_G} {M : mo_M} {t : Nat} {x : Nat} (hx : mo_Tx G x) {n p : Nat} (hn : n ≤ 100) (h5 : M x 5 = n) (h7 : M x 7 = p) (hp : p ≤ 100) (hr : ∀ j, j < n → 0 ≤ M (x + 2) j ∧ M (x + 2) j ≤ 127) : mo_Ct lf ρf yX0_byteHere cX0_byteHere 1 (some .int) 1 0 0 [.ref x] G M t (mo_pi G t (fun y M' => y = mo_bh (M (x + 2)) n p ∧ M = M')) := by
  refine mo_ofW (ls0 := [some (.ref x)]) (by decide) rfl (Nat.le_of_ble_eq_true rfl) ?_
  intro κ X Y
  have X : mo_Cx κ lf ρf cX0_byteHere 1 RX0 (some .int) 1 := X
  refine mo_al0 (pc := 0) X dX0_byteHere_0 ?_
  refine mo_f_X0_43 (pc := 1) X dX0_byteHere_1 (mo_Tx_o hx) ?_
  rw [h7]
  refine mo_al0 (pc := 4) X dX0_byteHere_4 ?_
  refine mo_f_X0_32 (pc := 5) X dX0_byteHere_5 (mo_Tx_o hx) ?_
  rw [h5]
  refine mo_ic_ge (pc := 8) (tgt := 25) X dX0_byteHere_8 (by decide) ?_ ?_ (fun c_8 => ?_) (fun c_8 => ?_)
  · omega
  · omega
  · skip
    refine mo_iconst (pc := 25) X dX0_byteHere_25 ?_
    refine mo_iret (pc := 26) X Y rfl dX0_byteHere_26 ⟨rfl, rfl, _, rfl, ?_⟩
    first
    | (refine ⟨?_, rfl⟩; unfold mo_bh; rw [if_neg (by omega)])
    | (refine ⟨?_, rfl⟩; unfold mo_bh; rw [if_pos (by omega)]; exact h_19)
  · skip
    refine mo_al0 (pc := 11) X dX0_byteHere_11 ?_
    refine mo_f_X0_14 (pc := 12) X dX0_byteHere_12 (mo_Tx_o hx) (mo_Tx_p0 hx) ?_
    refine mo_al0 (pc := 15) X dX0_byteHere_15 ?_
    refine mo_f_X0_43 (pc := 16) X dX0_byteHere_16 (mo_Tx_o hx) ?_
    rw [h7]
    refine mo_cVI (pc := 19) (As := [_]) X mo_k_X0_68 mo_y_yX1_get rfl dX0_byteHere_19 (ct_get (a := x + 2) (j := p) (mo_Tx_r0 hx) rfl (by omega) (by omega) (by omega) (by omega)) (mo_Tx_r0 hx).1 rfl (by decide) (by decide) (Nat.le_of_ble_eq_true rfl) ?_
    rintro r_19 _ ⟨h_19, rfl⟩
    refine mo_goto (pc := 22) (tgt := 26) X dX0_byteHere_22 (by decide) ?_
    refine mo_iret (pc := 26) X Y rfl dX0_byteHere_26 ⟨rfl, rfl, _, rfl, ?_⟩
    first
    | (refine ⟨?_, rfl⟩; unfold mo_bh; rw [if_neg (by omega)])
    | (refine ⟨?_, rfl⟩; unfold mo_bh; rw [if_pos (by omega)]; exact h_19)
set_option maxHeartbeats 4000000 in
set_option maxRecDepth 100000 in
theorem ct0_isDigitHere {lf : Launch} {ρf : mo_E} {G : mo_G} {M : mo_M} {t : Nat} {x : Nat} (hx : mo_Tx G x) {n p : Nat} (hn : n ≤ 100) (h5 : M x 5 = n) (h7 : M x 7 = p) (hp : p ≤ 100) (hr : ∀ j, j < n → 0 ≤ M (x + 2) j ∧ M (x + 2) j ≤ 127) : mo_Ct lf ρf yX0_isDigitHere cX0_isDigitHere 1 (some .boolean) 2 0 0 [.ref x] G M t (mo_pi G t (fun y M' => ((y = 1 ∧ mo_dg (mo_bh (M (x + 2)) n p) = true) ∨ (y = 0 ∧ ¬ (mo_dg (mo_bh (M (x + 2)) n p) = true))) ∧ M = M')) := by
  refine mo_ofW (ls0 := [some (.ref x)]) (by decide) rfl (Nat.le_of_ble_eq_true rfl) ?_
  intro κ X Y
  have X : mo_Cx κ lf ρf cX0_isDigitHere 1 RX0 (some .boolean) 2 := X
  have hbr : ∀ q, -1 ≤ mo_bh (M (x + 2)) n q ∧ mo_bh (M (x + 2)) n q ≤ 127 := fun q => by
    unfold mo_bh
    split
    · rename_i c; have := hr q c; omega
    · omega
  have hbp := hbr p
  refine mo_al0 (pc := 0) X dX0_isDigitHere_0 ?_
  refine mo_cVI (pc := 1) (As := []) X mo_k_X0_54 mo_y_yX0_byteHere rfl dX0_isDigitHere_1 (ct0_byteHere hx hn h5 h7 hp hr) (mo_Tx_o hx) rfl (by decide) (by decide) (Nat.le_of_ble_eq_true rfl) ?_
  rintro r_1 _ ⟨h_1, rfl⟩
  refine mo_bipush (pc := 4) X dX0_isDigitHere_4 (by decide) ?_
  refine mo_ic_lt (pc := 6) (tgt := 22) X dX0_isDigitHere_6 (by decide) ?_ ?_ (fun c_6 => ?_) (fun c_6 => ?_)
  · omega
  · omega
  · skip
    refine mo_iconst (pc := 22) X dX0_isDigitHere_22 ?_
    refine mo_zret (pc := 23) X Y rfl ?_ dX0_isDigitHere_23 ⟨rfl, rfl, _, rfl, ?_⟩
    · omega
    refine ⟨?_, rfl⟩
    unfold mo_dg
    rw [decide_eq_true_eq]
    omega
  · skip
    refine mo_al0 (pc := 9) X dX0_isDigitHere_9 ?_
    refine mo_cVI (pc := 10) (As := []) X mo_k_X0_54 mo_y_yX0_byteHere rfl dX0_isDigitHere_10 (ct0_byteHere hx hn h5 h7 hp hr) (mo_Tx_o hx) rfl (by decide) (by decide) (Nat.le_of_ble_eq_true rfl) ?_
    rintro r_10 _ ⟨h_10, rfl⟩
    refine mo_bipush (pc := 13) X dX0_isDigitHere_13 (by decide) ?_
    refine mo_ic_gt (pc := 15) (tgt := 22) X dX0_isDigitHere_15 (by decide) ?_ ?_ (fun c_15 => ?_) (fun c_15 => ?_)
    · omega
    · omega
    · skip
      refine mo_iconst (pc := 22) X dX0_isDigitHere_22 ?_
      refine mo_zret (pc := 23) X Y rfl ?_ dX0_isDigitHere_23 ⟨rfl, rfl, _, rfl, ?_⟩
      · omega
      refine ⟨?_, rfl⟩
      unfold mo_dg
      rw [decide_eq_true_eq]
      omega
    · skip
      refine mo_iconst (pc := 18) X dX0_isDigitHere_18 ?_
      refine mo_goto (pc := 19) (tgt := 23) X dX0_isDigitHere_19 (by decide) ?_
      refine mo_zret (pc := 23) X Y rfl ?_ dX0_isDigitHere_23 ⟨rfl, rfl, _, rfl, ?_⟩
      · omega
      refine ⟨?_, rfl⟩
      unfold mo_dg
      rw [decide_eq_true_eq]
      omega
set_option maxHeartbeats 4000000 in
set_option maxRecDepth 100000 in
theorem ct0_readSign {lf : Launch} {ρf : mo_E} {G : mo_G} {M : mo_M} {t : Nat} {x : Nat} (hx : mo_Tx G x) {n p : Nat} (hn : n ≤ 100) (h5 : M x 5 = n) (h7 : M x 7 = p) (hp : p ≤ 100) (hr : ∀ j, j < n → 0 ≤ M (x + 2) j ∧ M (x + 2) j ≤ 127) {c : Int} (hc : mo_In c) : mo_Ct lf ρf yX0_readSign cX0_readSign 2 (some .boolean) 2 0 0 [.ref x, mo_iv c] G M t (mo_pi G t (fun y M' => ((y = 1 ∧ mo_bh (M (x + 2)) n p = c) ∨ (y = 0 ∧ ¬ (mo_bh (M (x + 2)) n p = c))) ∧ M' = mo_ur M x (va_up (M x) 7 (if mo_bh (M (x + 2)) n p = c then (p : Int) + 1 else p)))) := by
  refine mo_ofW (ls0 := [some (.ref x), some (mo_iv c)]) (by decide) rfl (Nat.le_of_ble_eq_true rfl) ?_
  intro κ X Y
  have X : mo_Cx κ lf ρf cX0_readSign 2 RX0 (some .boolean) 2 := X
  have hbr : ∀ q, -1 ≤ mo_bh (M (x + 2)) n q ∧ mo_bh (M (x + 2)) n q ≤ 127 := fun q => by
    unfold mo_bh
    split
    · rename_i c; have := hr q c; omega
    · omega
  have hbp := hbr p
  refine mo_al0 (pc := 0) X dX0_readSign_0 ?_
  refine mo_cVI (pc := 1) (As := []) X mo_k_X0_54 mo_y_yX0_byteHere rfl dX0_readSign_1 (ct0_byteHere hx hn h5 h7 hp hr) (mo_Tx_o hx) rfl (by decide) (by decide) (Nat.le_of_ble_eq_true rfl) ?_
  rintro r_1 _ ⟨h_1, rfl⟩
  refine mo_il1 (pc := 4) X dX0_readSign_4 ?_
  refine mo_ic_eq (pc := 5) (tgt := 10) X dX0_readSign_5 (by decide) ?_ ?_ (fun c_5 => ?_) (fun c_5 => ?_)
  · omega
  · omega
  · skip
    refine mo_al0 (pc := 10) X dX0_readSign_10 ?_
    refine mo_dup (pc := 11) X dX0_readSign_11 rfl ?_
    refine mo_f_X0_43 (pc := 12) X dX0_readSign_12 (mo_Tx_o hx) ?_
    rw [h7]
    refine mo_iconst (pc := 15) X dX0_readSign_15 ?_
    refine mo_iadd (pc := 16) X dX0_readSign_16 ?_
    refine mo_p_X0_43 (pc := 17) X dX0_readSign_17 (mo_Tx_o hx) ?_
    refine mo_iconst (pc := 20) X dX0_readSign_20 ?_
    refine mo_zret (pc := 21) X Y rfl ?_ dX0_readSign_21 ⟨rfl, rfl, _, rfl, ?_⟩
    · omega
    refine ⟨Or.inl ⟨rfl, by omega⟩, ?_⟩
    rw [if_pos (by omega)]
  · skip
    refine mo_iconst (pc := 8) X dX0_readSign_8 ?_
    refine mo_zret (pc := 9) X Y rfl ?_ dX0_readSign_9 ⟨rfl, rfl, _, rfl, ?_⟩
    · omega
    refine ⟨Or.inr ⟨rfl, by omega⟩, ?_⟩
    rw [if_neg (by omega), mo_upid h7, mo_ur_id]
set_option maxHeartbeats 4000000 in
set_option maxRecDepth 100000 in
theorem ct0_addByte {lf : Launch} {ρf : mo_E} {G : mo_G} {M : mo_M} {t : Nat} {x : Nat} (hx : mo_Tx G x) {n : Nat} (hn : n < 100) (h5 : M x 5 = n) {v : Int} : mo_Ct lf ρf yX0_addByte cX0_addByte 2 (some .int) 1 0 0 [.ref x, mo_iv v] G M t (mo_pi G t (fun y M' => y = (n : Int) + 1 ∧ M' = mo_ur (mo_ur M (x + 2) (va_up (M (x + 2)) n v)) x (va_up (M x) 5 ((n : Int) + 1)))) := by
  refine mo_ofW (ls0 := [some (.ref x), some (mo_iv v)]) (by decide) rfl (Nat.le_of_ble_eq_true rfl) ?_
  intro κ X Y
  have X : mo_Cx κ lf ρf cX0_addByte 2 RX0 (some .int) 1 := X
  refine mo_al0 (pc := 0) X dX0_addByte_0 ?_
  refine mo_f_X0_14 (pc := 1) X dX0_addByte_1 (mo_Tx_o hx) (mo_Tx_p0 hx) ?_
  refine mo_al0 (pc := 4) X dX0_addByte_4 ?_
  refine mo_f_X0_32 (pc := 5) X dX0_addByte_5 (mo_Tx_o hx) ?_
  rw [h5]
  refine mo_il1 (pc := 8) X dX0_addByte_8 ?_
  refine mo_cVV (pc := 9) (As := [_, _]) X mo_k_X0_36 mo_y_yX1_set rfl dX0_addByte_9 (ct_set (a := x + 2) (j := n) (mo_Tx_r0 hx) rfl (by omega) (by omega) (by omega) (by omega)) (mo_Tx_r0 hx).1 rfl (by decide) (by decide) (Nat.le_of_ble_eq_true rfl) ?_
  rintro M_9 h_9
  refine mo_al0 (pc := 12) X dX0_addByte_12 ?_
  refine mo_dup (pc := 13) X dX0_addByte_13 rfl ?_
  refine mo_f_X0_32 (pc := 14) X dX0_addByte_14 (mo_Tx_o hx) ?_
  rw [h_9, mo_ur_n (by omega), h5]
  refine mo_iconst (pc := 17) X dX0_addByte_17 ?_
  refine mo_iadd (pc := 18) X dX0_addByte_18 ?_
  refine mo_p_X0_32 (pc := 19) X dX0_addByte_19 (mo_Tx_o hx) ?_
  refine mo_al0 (pc := 22) X dX0_addByte_22 ?_
  refine mo_f_X0_32 (pc := 23) X dX0_addByte_23 (mo_Tx_o hx) ?_
  rw [mo_ur_s, mo_up_s]
  refine mo_iret (pc := 26) X Y rfl dX0_addByte_26 ⟨rfl, rfl, _, rfl, ?_⟩
  refine ⟨rfl, ?_⟩
  rw [mo_ur_n (show x ≠ x + 2 by omega)]
set_option maxHeartbeats 4000000 in
set_option maxRecDepth 100000 in
theorem ct0_readDigit {lf : Launch} {ρf : mo_E} {G : mo_G} {M : mo_M} {t : Nat} {x : Nat} (hx : mo_Tx G x) {n p : Nat} (hn : n ≤ 100) (h5 : M x 5 = n) (h7 : M x 7 = p) (hp : p ≤ 100) (hr : ∀ j, j < n → 0 ≤ M (x + 2) j ∧ M (x + 2) j ≤ 127) {r a : Nat} (hrow : mo_Row G r 50) (hra : r + 1 = a) (hax : a ≠ x) (hax2 : a ≠ x + 2) {c : Nat} (hc : c < 50) (h6 : M x 6 = c) : mo_Ct lf ρf yX0_readDigit cX0_readDigit 3 (some .boolean) 3 0 0 [.ref x, mo_iv 7, .ref r] G M t (mo_pi G t (fun y M' => ((y = 1 ∧ mo_dok (mo_bh (M (x + 2)) n) p = true) ∨ (y = 0 ∧ ¬ (mo_dok (mo_bh (M (x + 2)) n) p = true))) ∧ (mo_dok (mo_bh (M (x + 2)) n) p = true → M' = mo_ur (mo_ur M x (va_up (M x) 7 ((p : Int) + 1))) a (va_up (M a) c (mo_bh (M (x + 2)) n p - 48))) ∧ (¬ (mo_dok (mo_bh (M (x + 2)) n) p = true) → M' = M))) := by
  refine mo_ofW (ls0 := [some (.ref x), some (mo_iv 7), some (.ref r)]) (by decide) rfl (Nat.le_of_ble_eq_true rfl) ?_
  intro κ X Y
  have X : mo_Cx κ lf ρf cX0_readDigit 3 RX0 (some .boolean) 3 := X
  have hbr : ∀ q, -1 ≤ mo_bh (M (x + 2)) n q ∧ mo_bh (M (x + 2)) n q ≤ 127 := fun q => by
    unfold mo_bh
    split
    · rename_i c; have := hr q c; omega
    · omega
  have hbp := hbr p
  have hdd : mo_dok (mo_bh (M (x + 2)) n) p = true ↔ (48 ≤ mo_bh (M (x + 2)) n p ∧ mo_bh (M (x + 2)) n p ≤ 55) := by unfold mo_dok; rw [decide_eq_true_eq]
  refine mo_al0 (pc := 0) X dX0_readDigit_0 ?_
  refine mo_cVI (pc := 1) (As := []) X mo_k_X0_65 mo_y_yX0_isDigitHere rfl dX0_readDigit_1 (ct0_isDigitHere hx hn h5 h7 hp hr) (mo_Tx_o hx) rfl (by decide) (by decide) (Nat.le_of_ble_eq_true rfl) ?_
  rintro r_1 _ ⟨h_1, rfl⟩
  unfold mo_dg at h_1
  rw [decide_eq_true_eq] at h_1
  refine mo_if_eq (pc := 4) (tgt := 18) X dX0_readDigit_4 (by decide) ?_ (fun c_4 => ?_) (fun c_4 => ?_)
  · omega
  · skip
    refine mo_iconst (pc := 18) X dX0_readDigit_18 ?_
    refine mo_zret (pc := 19) X Y rfl ?_ dX0_readDigit_19 ⟨rfl, rfl, _, rfl, ?_⟩
    · omega
    have e : ¬ (mo_dok (mo_bh (M (x + 2)) n) p = true) := by rw [hdd]; omega
    exact ⟨Or.inr ⟨rfl, e⟩, fun q => absurd q e, fun _ => rfl⟩
  · skip
    refine mo_al0 (pc := 7) X dX0_readDigit_7 ?_
    refine mo_cVI (pc := 8) (As := []) X mo_k_X0_54 mo_y_yX0_byteHere rfl dX0_readDigit_8 (ct0_byteHere hx hn h5 h7 hp hr) (mo_Tx_o hx) rfl (by decide) (by decide) (Nat.le_of_ble_eq_true rfl) ?_
    rintro r_8 _ ⟨h_8, rfl⟩
    refine mo_bipush (pc := 11) X dX0_readDigit_11 (by decide) ?_
    refine mo_isub (pc := 13) X dX0_readDigit_13 ?_
    refine mo_il1 (pc := 14) X dX0_readDigit_14 ?_
    refine mo_ic_le (pc := 15) (tgt := 20) X dX0_readDigit_15 (by decide) ?_ ?_ (fun c_15 => ?_) (fun c_15 => ?_)
    · omega
    · omega
    · skip
      refine mo_al2 (pc := 20) X dX0_readDigit_20 ?_
      refine mo_al0 (pc := 21) X dX0_readDigit_21 ?_
      refine mo_f_X0_40 (pc := 22) X dX0_readDigit_22 (mo_Tx_o hx) ?_
      rw [h6]
      refine mo_al0 (pc := 25) X dX0_readDigit_25 ?_
      refine mo_cVI (pc := 26) (As := []) X mo_k_X0_54 mo_y_yX0_byteHere rfl dX0_readDigit_26 (ct0_byteHere hx hn h5 h7 hp hr) (mo_Tx_o hx) rfl (by decide) (by decide) (Nat.le_of_ble_eq_true rfl) ?_
      rintro r_26 _ ⟨h_26, rfl⟩
      refine mo_bipush (pc := 29) X dX0_readDigit_29 (by decide) ?_
      refine mo_isub (pc := 31) X dX0_readDigit_31 ?_
      refine mo_cVV (pc := 32) (As := [_, _]) X mo_k_X0_36 mo_y_yX1_set rfl dX0_readDigit_32 (ct_set (a := a) (j := c) hrow hra (by omega) (by omega) (by omega) (by omega)) hrow.1 rfl (by decide) (by decide) (Nat.le_of_ble_eq_true rfl) ?_
      rintro M_32 h_32
      refine mo_al0 (pc := 35) X dX0_readDigit_35 ?_
      refine mo_dup (pc := 36) X dX0_readDigit_36 rfl ?_
      refine mo_f_X0_43 (pc := 37) X dX0_readDigit_37 (mo_Tx_o hx) ?_
      rw [h_32, mo_ur_n (Ne.symm hax), h7]
      refine mo_iconst (pc := 40) X dX0_readDigit_40 ?_
      refine mo_iadd (pc := 41) X dX0_readDigit_41 ?_
      refine mo_p_X0_43 (pc := 42) X dX0_readDigit_42 (mo_Tx_o hx) ?_
      refine mo_iconst (pc := 45) X dX0_readDigit_45 ?_
      refine mo_zret (pc := 46) X Y rfl ?_ dX0_readDigit_46 ⟨rfl, rfl, _, rfl, ?_⟩
      · omega
      have e : mo_dok (mo_bh (M (x + 2)) n) p = true := by rw [hdd]; omega
      refine ⟨Or.inl ⟨rfl, e⟩, fun _ => ?_, fun q => absurd e q⟩
      rw [mo_ur_n (Ne.symm hax), h_26]
      funext z
      by_cases c1 : z = x
      · rw [c1, mo_ur_s, mo_ur_n (Ne.symm hax), mo_ur_s]
      · by_cases c2 : z = a
        · rw [c2, mo_ur_n hax, mo_ur_s, mo_ur_s]
        · rw [mo_ur_n c1, mo_ur_n c2, mo_ur_n c2, mo_ur_n c1]
    · skip
      refine mo_iconst (pc := 18) X dX0_readDigit_18 ?_
      refine mo_zret (pc := 19) X Y rfl ?_ dX0_readDigit_19 ⟨rfl, rfl, _, rfl, ?_⟩
      · omega
      have e : ¬ (mo_dok (mo_bh (M (x + 2)) n) p = true) := by rw [hdd]; omega
      exact ⟨Or.inr ⟨rfl, e⟩, fun q => absurd q e, fun _ => rfl⟩
set_option maxHeartbeats 4000000 in
set_option maxRecDepth 100000 in
theorem ct0_readNumber {lf : Launch} {ρf : mo_E} {G : mo_G} {M : mo_M} {t : Nat} {x : Nat} (hx : mo_Tx G x) {n p : Nat} (hn : n ≤ 100) (h5 : M x 5 = n) (h7 : M x 7 = p) (hp : p ≤ 100) (hr : ∀ j, j < n → 0 ≤ M (x + 2) j ∧ M (x + 2) j ≤ 127) {r a : Nat} (hrow : mo_Row G r 50) (hra : r + 1 = a) (hax : a ≠ x) (hax2 : a ≠ x + 2) {c : Nat} (hc : c < 50) (h6 : M x 6 = c) {hi : Int} (hhi : 0 ≤ hi ∧ hi ≤ 1000) : mo_Ct lf ρf yX0_readNumber cX0_readNumber 5 (some .boolean) 3 0 0 [.ref x, mo_iv hi, .ref r] G M t (mo_pi G t (fun y M' => ((y = 1 ∧ mo_nok (mo_bh (M (x + 2)) n) p hi = true) ∨ (y = 0 ∧ ¬ (mo_nok (mo_bh (M (x + 2)) n) p hi = true))) ∧ (mo_nok (mo_bh (M (x + 2)) n) p hi = true → M' = mo_ur (mo_ur M x (va_up (M x) 7 (mo_ne (mo_bh (M (x + 2)) n) p : Nat))) a (va_up (M a) c (mo_nvl (mo_bh (M (x + 2)) n) p))) ∧ (¬ (mo_nok (mo_bh (M (x + 2)) n) p hi = true) → M' = mo_ur M x (va_up (M x) 7 (mo_nf (mo_bh (M (x + 2)) n) p : Nat))))) := by
  refine mo_ofW (ls0 := [some (.ref x), some (mo_iv hi), some (.ref r), none, none]) (by decide) rfl (Nat.le_of_ble_eq_true rfl) ?_
  intro κ X Y
  have X : mo_Cx κ lf ρf cX0_readNumber 5 RX0 (some .boolean) 3 := X
  have hbr : ∀ q, -1 ≤ mo_bh (M (x + 2)) n q ∧ mo_bh (M (x + 2)) n q ≤ 127 := fun q => by
    unfold mo_bh
    split
    · rename_i c; have := hr q c; omega
    · omega
  have hbn : ∀ q, (mo_bh (M (x + 2)) n) q ≠ -1 → q < n := fun q h => by
    unfold mo_bh at h
    split at h
    · assumption
    · omega
  have hbp := hbr p
  have hbp1 := hbr (p + 1)
  have hne := mo_ne_b (mo_bh (M (x + 2)) n) p
  have f5 : ∀ q : Int, mo_ur M x (va_up (M x) 7 q) x 5 = n := fun q => by rw [mo_ur_s, mo_up_n (by omega), h5]
  have f6 : ∀ q : Int, mo_ur M x (va_up (M x) 7 q) x 6 = c := fun q => by rw [mo_ur_s, mo_up_n (by omega), h6]
  have f7 : ∀ q : Int, mo_ur M x (va_up (M x) 7 q) x 7 = q := fun q => by rw [mo_ur_s, mo_up_s]
  have f2 : ∀ q : Int, mo_ur M x (va_up (M x) 7 q) (x + 2) = M (x + 2) := fun q => mo_ur_n (by omega)
  have dgd : ∀ v : Int, mo_dg v = true ↔ 48 ≤ v ∧ v ≤ 57 := fun v => by unfold mo_dg; rw [decide_eq_true_eq]
  have k65 : ∀ (v q : Int), q = (mo_ne (mo_bh (M (x + 2)) n) p : Nat) → v = mo_nvl (mo_bh (M (x + 2)) n) p → mo_dg ((mo_bh (M (x + 2)) n) p) = true → 0 ≤ v ∧ v ≤ 1000 → mo_ne (mo_bh (M (x + 2)) n) p ≤ 100 → mo_V κ 0 0 65 [some (.ref x), some (mo_iv hi), some (.ref r), some (mo_iv p), some (mo_iv v)] [] G (mo_ur M x (va_up (M x) 7 q)) t := by
    intro v q hq hv hd hvr hle
    subst hq
    have hbn2 := hbr (mo_ne (mo_bh (M (x + 2)) n) p)
    refine mo_al0 (pc := 65) X dX0_readNumber_65 ?_
    refine mo_cVI (pc := 66) (As := []) X mo_k_X0_65 mo_y_yX0_isDigitHere rfl dX0_readNumber_66 (ct0_isDigitHere (p := mo_ne (mo_bh (M (x + 2)) n) p) hx hn (f5 _) (f7 _) (by omega) (by rw [f2]; exact hr)) (mo_Tx_o hx) rfl (by decide) (by decide) (Nat.le_of_ble_eq_true rfl) ?_
    rintro r_66 _ ⟨h_66, rfl⟩
    rw [f2] at h_66
    refine mo_if_eq (pc := 69) (tgt := 74) X dX0_readNumber_69 (by decide) ?_ (fun c_69 => ?_) (fun c_69 => ?_)
    · omega
    · skip
      refine mo_il4 (pc := 74) X dX0_readNumber_74 ?_
      refine mo_il1 (pc := 76) X dX0_readNumber_76 ?_
      refine mo_ic_le (pc := 77) (tgt := 87) X dX0_readNumber_77 (by decide) ?_ ?_ (fun c_77 => ?_) (fun c_77 => ?_)
      · omega
      · omega
      · skip
        refine mo_al2 (pc := 87) X dX0_readNumber_87 ?_
        refine mo_al0 (pc := 88) X dX0_readNumber_88 ?_
        refine mo_f_X0_40 (pc := 89) X dX0_readNumber_89 (mo_Tx_o hx) ?_
        rw [f6]
        refine mo_il4 (pc := 92) X dX0_readNumber_92 ?_
        refine mo_cVV (pc := 94) (As := [_, _]) X mo_k_X0_36 mo_y_yX1_set rfl dX0_readNumber_94 (ct_set (a := a) (j := c) hrow hra (by omega) (by omega) (by omega) (by omega)) hrow.1 rfl (by decide) (by decide) (Nat.le_of_ble_eq_true rfl) ?_
        rintro M_94 h_94
        rw [mo_ur_n hax] at h_94
        refine mo_iconst (pc := 97) X dX0_readNumber_97 ?_
        refine mo_zret (pc := 98) X Y rfl ?_ dX0_readNumber_98 ⟨rfl, rfl, _, rfl, ?_⟩
        · omega
        have e : mo_nok (mo_bh (M (x + 2)) n) p hi = true := by
          unfold mo_nok
          rw [Bool.and_eq_true, Bool.and_eq_true, Bool.not_eq_true', decide_eq_true_eq]
          exact ⟨hd, Bool.eq_false_iff.mpr (mo_b0 h_66 c_69), by rw [← hv]; omega⟩
        exact ⟨Or.inl ⟨rfl, e⟩, fun _ => by rw [h_94, hv], fun q => absurd e q⟩
      · skip
        refine mo_al0 (pc := 80) X dX0_readNumber_80 ?_
        refine mo_il3 (pc := 81) X dX0_readNumber_81 ?_
        refine mo_p_X0_43 (pc := 82) X dX0_readNumber_82 (mo_Tx_o hx) ?_
        rw [mo_ur_s, mo_ur_ur, mo_upup]
        refine mo_iconst (pc := 85) X dX0_readNumber_85 ?_
        refine mo_zret (pc := 86) X Y rfl ?_ dX0_readNumber_86 ⟨rfl, rfl, _, rfl, ?_⟩
        · omega
        have e : ¬ (mo_nok (mo_bh (M (x + 2)) n) p hi = true) := by
          unfold mo_nok
          rw [Bool.and_eq_true, Bool.and_eq_true, Bool.not_eq_true', decide_eq_true_eq]
          exact fun q => by rw [← hv] at q; omega
        exact ⟨Or.inr ⟨rfl, e⟩, fun q => absurd q e, fun _ => by
          unfold mo_nf
          rw [if_pos hd, if_neg (mo_b0 h_66 c_69)]⟩
    · skip
      refine mo_iconst (pc := 72) X dX0_readNumber_72 ?_
      refine mo_zret (pc := 73) X Y rfl ?_ dX0_readNumber_73 ⟨rfl, rfl, _, rfl, ?_⟩
      · omega
      have e : ¬ (mo_nok (mo_bh (M (x + 2)) n) p hi = true) := by
        unfold mo_nok
        rw [Bool.and_eq_true, Bool.and_eq_true, Bool.not_eq_true', decide_eq_true_eq]
        rw [mo_b1 h_66 c_69]
        exact fun q => absurd q.2.1 (by decide)
      exact ⟨Or.inr ⟨rfl, e⟩, fun q => absurd q e, fun _ => by
        unfold mo_nf
        rw [if_pos hd, if_pos (mo_b1 h_66 c_69)]⟩
  refine mo_al0 (pc := 0) X dX0_readNumber_0 ?_
  refine mo_f_X0_43 (pc := 1) X dX0_readNumber_1 (mo_Tx_o hx) ?_
  rw [h7]
  refine mo_is3 (pc := 4) X dX0_readNumber_4 rfl (by decide) ?_
  refine mo_al0 (pc := 5) X dX0_readNumber_5 ?_
  refine mo_cVI (pc := 6) (As := []) X mo_k_X0_65 mo_y_yX0_isDigitHere rfl dX0_readNumber_6 (ct0_isDigitHere hx hn h5 h7 hp hr) (mo_Tx_o hx) rfl (by decide) (by decide) (Nat.le_of_ble_eq_true rfl) ?_
  rintro r_6 _ ⟨h_6, rfl⟩
  refine mo_if_ne (pc := 9) (tgt := 14) X dX0_readNumber_9 (by decide) ?_ (fun c_9 => ?_) (fun c_9 => ?_)
  · omega
  · skip
    refine mo_al0 (pc := 14) X dX0_readNumber_14 ?_
    refine mo_cVI (pc := 15) (As := []) X mo_k_X0_54 mo_y_yX0_byteHere rfl dX0_readNumber_15 (ct0_byteHere hx hn h5 h7 hp hr) (mo_Tx_o hx) rfl (by decide) (by decide) (Nat.le_of_ble_eq_true rfl) ?_
    rintro r_15 _ ⟨h_15, rfl⟩
    refine mo_bipush (pc := 18) X dX0_readNumber_18 (by decide) ?_
    refine mo_isub (pc := 20) X dX0_readNumber_20 ?_
    refine mo_is4 (pc := 21) X dX0_readNumber_21 rfl (by decide) ?_
    refine mo_al0 (pc := 23) X dX0_readNumber_23 ?_
    refine mo_dup (pc := 24) X dX0_readNumber_24 rfl ?_
    refine mo_f_X0_43 (pc := 25) X dX0_readNumber_25 (mo_Tx_o hx) ?_
    rw [h7]
    refine mo_iconst (pc := 28) X dX0_readNumber_28 ?_
    refine mo_iadd (pc := 29) X dX0_readNumber_29 ?_
    refine mo_p_X0_43 (pc := 30) X dX0_readNumber_30 (mo_Tx_o hx) ?_
    have hd := mo_b1 h_6 c_9
    rw [dgd] at hd
    have hln := hbn p (by omega)
    refine mo_al0 (pc := 33) X dX0_readNumber_33 ?_
    refine mo_cVI (pc := 34) (As := []) X mo_k_X0_65 mo_y_yX0_isDigitHere rfl dX0_readNumber_34 (ct0_isDigitHere (p := p + 1) hx hn (f5 _) (by rw [f7]; omega) (by omega) (by rw [f2]; exact hr)) (mo_Tx_o hx) rfl (by decide) (by decide) (Nat.le_of_ble_eq_true rfl) ?_
    rintro r_34 _ ⟨h_34, rfl⟩
    rw [f2] at h_34
    refine mo_if_eq (pc := 37) (tgt := 65) X dX0_readNumber_37 (by decide) ?_ (fun c_37 => ?_) (fun c_37 => ?_)
    · omega
    · skip
      have hd := mo_b1 h_6 c_9
      have hn1 := mo_b0 h_34 c_37
      rw [dgd] at hd
      have hln := hbn p (by omega)
      refine k65 _ _ ?_ ?_ (mo_b1 h_6 c_9) (by omega) (by unfold mo_ne; rw [if_neg hn1]; omega)
      · unfold mo_ne; rw [if_neg hn1]; omega
      · unfold mo_nvl; rw [if_neg hn1, h_15]
    · skip
      refine mo_il4 (pc := 40) X dX0_readNumber_40 ?_
      refine mo_bipush (pc := 42) X dX0_readNumber_42 (by decide) ?_
      refine mo_imul (pc := 44) X dX0_readNumber_44 ?_
      refine mo_al0 (pc := 45) X dX0_readNumber_45 ?_
      have hn2 := mo_b1 h_34 c_37
      rw [dgd] at hn2
      refine mo_cVI (pc := 46) (As := []) X mo_k_X0_54 mo_y_yX0_byteHere rfl dX0_readNumber_46 (ct0_byteHere (p := p + 1) hx hn (f5 _) (by rw [f7]; omega) (by omega) (by rw [f2]; exact hr)) (mo_Tx_o hx) rfl (by decide) (by decide) (Nat.le_of_ble_eq_true rfl) ?_
      rintro r_46 _ ⟨h_46, rfl⟩
      rw [f2] at h_46
      refine mo_iadd (pc := 49) X dX0_readNumber_49 ?_
      refine mo_bipush (pc := 50) X dX0_readNumber_50 (by decide) ?_
      refine mo_isub (pc := 52) X dX0_readNumber_52 ?_
      refine mo_is4 (pc := 53) X dX0_readNumber_53 rfl (by decide) ?_
      refine mo_al0 (pc := 55) X dX0_readNumber_55 ?_
      refine mo_dup (pc := 56) X dX0_readNumber_56 rfl ?_
      refine mo_f_X0_43 (pc := 57) X dX0_readNumber_57 (mo_Tx_o hx) ?_
      rw [f7]
      refine mo_iconst (pc := 60) X dX0_readNumber_60 ?_
      refine mo_iadd (pc := 61) X dX0_readNumber_61 ?_
      refine mo_p_X0_43 (pc := 62) X dX0_readNumber_62 (mo_Tx_o hx) ?_
      have hd := mo_b1 h_6 c_9
      have hn1 := mo_b1 h_34 c_37
      have hn2 := hn1
      rw [dgd] at hd hn2
      have hln := hbn (p + 1) (by omega)
      rw [mo_ur_s, mo_ur_ur, mo_upup]
      refine k65 _ _ ?_ ?_ (mo_b1 h_6 c_9) (by omega) (by unfold mo_ne; rw [if_pos hn1]; omega)
      · unfold mo_ne; rw [if_pos hn1]; omega
      · unfold mo_nvl; rw [if_pos hn1, h_15, h_46]; omega
  · skip
    refine mo_iconst (pc := 12) X dX0_readNumber_12 ?_
    refine mo_zret (pc := 13) X Y rfl ?_ dX0_readNumber_13 ⟨rfl, rfl, _, rfl, ?_⟩
    · omega
    have e : ¬ (mo_nok (mo_bh (M (x + 2)) n) p hi = true) := by
      unfold mo_nok
      rw [Bool.and_eq_true, Bool.and_eq_true, Bool.not_eq_true', decide_eq_true_eq]
      exact fun q => absurd q.1 (mo_b0 h_6 c_9)
    exact ⟨Or.inr ⟨rfl, e⟩, fun q => absurd q e, fun _ => by
      unfold mo_nf
      rw [if_neg (mo_b0 h_6 c_9), mo_upid h7, mo_ur_id]⟩
