def mo_TS (M : mo_M) (x : Nat) (T : Nat → Int) (n c p : Nat) : Prop := M x 5 = n ∧ M x 7 = p ∧ M x 6 = c ∧ M (x + 2) = T
theorem mo_tsP {M M' : mo_M} {x n c p q : Nat} {T : Nat → Int} {v : Int} (h : M' = mo_ur M x (va_up (M x) 7 v)) (hv : v = (q : Nat)) (hT : mo_TS M x T n c p) : mo_TS M' x T n c q ∧ ∀ z j, z ≠ x → M' z j = M z j := by
  obtain ⟨h1, h2, h3, h4⟩ := hT
  rw [h]
  refine ⟨⟨by rw [mo_ur_s, mo_up_n (by omega), h1], by rw [mo_ur_s, mo_up_s, hv], by rw [mo_ur_s, mo_up_n (by omega), h3], by rw [mo_ur_n (by omega), h4]⟩, fun z j hz => by rw [mo_ur_n hz]⟩
theorem mo_tsD {M M' : mo_M} {x n c p q a : Nat} {T : Nat → Int} {v w : Int} (h : M' = mo_ur (mo_ur M x (va_up (M x) 7 v)) a (va_up (M a) c w)) (hv : v = (q : Nat)) (ha : a ≠ x) (ha2 : a ≠ x + 2) (hT : mo_TS M x T n c p) : mo_TS M' x T n c q ∧ M' a c = w ∧ ∀ z j, z ≠ x → (z ≠ a ∨ j ≠ c) → M' z j = M z j := by
  obtain ⟨h1, h2, h3, h4⟩ := hT
  rw [h]
  refine ⟨⟨by rw [mo_ur_n (Ne.symm ha), mo_ur_s, mo_up_n (by omega), h1], by rw [mo_ur_n (Ne.symm ha), mo_ur_s, mo_up_s, hv], by rw [mo_ur_n (Ne.symm ha), mo_ur_s, mo_up_n (by omega), h3], by rw [mo_ur_n (Ne.symm ha2), mo_ur_n (by omega), h4]⟩, by rw [mo_ur_s, mo_up_s], fun z j hz hj => ?_⟩
  by_cases c1 : z = a
  · rw [c1, mo_ur_s, mo_up_n (by omega)]
  · rw [mo_ur_n c1, mo_ur_n hz]
/-- what reading may change besides the reader's own numbers: the rows at their place c -/
def mo_TW (M M' : mo_M) (x c : Nat) : Prop := ∀ z j, z ≠ x → (j ≠ c ∨ (z ≠ x + 4 ∧ z ≠ x + 6 ∧ z ≠ x + 8 ∧ z ≠ x + 10)) → M' z j = M z j
theorem mo_nok_c {b : Nat → Int} {p : Nat} {hi : Int} (h : mo_nok b p hi = true) : 48 ≤ b p ∧ b p ≤ 57 ∧ (mo_ne b p = p + 2 → 48 ≤ b (p + 1)) := by
  unfold mo_nok mo_dg at h
  rw [Bool.and_eq_true, decide_eq_true_eq] at h
  refine ⟨h.1.1, h.1.2, fun q => ?_⟩
  unfold mo_ne mo_dg at q
  split at q
  · rename_i c; rw [decide_eq_true_eq] at c; exact c.1
  · omega
theorem mo_dok_c {b : Nat → Int} {p : Nat} (h : mo_dok b p = true) : 48 ≤ b p ∧ b p ≤ 55 := by
  unfold mo_dok at h
  rw [decide_eq_true_eq] at h
  exact h
set_option maxHeartbeats 4000000 in
set_option maxRecDepth 100000 in
theorem ct0_readOrder {lf : Launch} {ρf : mo_E} {G : mo_G} {M : mo_M} {t : Nat} {x : Nat} (hx : mo_Tx G x) {n p : Nat} (hn : n ≤ 100) (h5 : M x 5 = n) (h7 : M x 7 = p) (hp : p ≤ 100) (hr : ∀ j, j < n → 0 ≤ M (x + 2) j ∧ M (x + 2) j ≤ 127) {c : Nat} (hc : c < 50) (h6 : M x 6 = c) : mo_Ct lf ρf yX0_readOrder cX0_readOrder 2 (some .boolean) 4 0 0 [.ref x] G M t (mo_pi G t (fun y M' => ((y = 1 ∧ mo_okp (mo_bh (M (x + 2)) n) p = true) ∨ (y = 0 ∧ ¬ (mo_okp (mo_bh (M (x + 2)) n) p = true))) ∧ M' x 5 = n ∧ M' x 6 = c ∧ M' x 7 = (mo_oq (mo_bh (M (x + 2)) n) p : Nat) ∧ mo_TW M M' x c ∧ M' (x + 4) c = (mo_bh (M (x + 2)) n) p ∧ (mo_okp (mo_bh (M (x + 2)) n) p = true → (((mo_bh (M (x + 2)) n) p = 99 ∨ (mo_bh (M (x + 2)) n) p = 104 ∨ (mo_bh (M (x + 2)) n) p = 109 → M' (x + 6) c = mo_oN (mo_bh (M (x + 2)) n) p) ∧ ((mo_bh (M (x + 2)) n) p = 99 ∨ (mo_bh (M (x + 2)) n) p = 112 → M' (x + 8) c = mo_oW (mo_bh (M (x + 2)) n) p) ∧ ((mo_bh (M (x + 2)) n) p = 99 → M' (x + 10) c = mo_oH (mo_bh (M (x + 2)) n) p))))) := by
  refine mo_ofW (ls0 := [some (.ref x), none]) (by decide) rfl (Nat.le_of_ble_eq_true rfl) ?_
  intro κ X Y
  have X : mo_Cx κ lf ρf cX0_readOrder 2 RX0 (some .boolean) 4 := X
  have hbr : ∀ q, -1 ≤ mo_bh (M (x + 2)) n q ∧ mo_bh (M (x + 2)) n q ≤ 127 := fun q => by
    unfold mo_bh
    split
    · rename_i c; have := hr q c; omega
    · omega
  have hbn : ∀ q, (mo_bh (M (x + 2)) n) q ≠ -1 → q < n := fun q h => by
    unfold mo_bh at h
    split at h
    · assumption
    · omega
  have hbp := hbr p
  refine mo_al0 (pc := 0) X dX0_readOrder_0 ?_
  refine mo_cVI (pc := 1) (As := []) X mo_k_X0_54 mo_y_yX0_byteHere rfl dX0_readOrder_1 (ct0_byteHere hx hn h5 h7 hp hr) (mo_Tx_o hx) rfl (by decide) (by decide) (Nat.le_of_ble_eq_true rfl) ?_
  rintro r_1 _ ⟨h_1, rfl⟩
  refine mo_is1 (pc := 4) X dX0_readOrder_4 rfl (by decide) ?_
  refine mo_al0 (pc := 5) X dX0_readOrder_5 ?_
  refine mo_f_X0_20 (pc := 6) X dX0_readOrder_6 (mo_Tx_o hx) (mo_Tx_p1 hx) ?_
  refine mo_al0 (pc := 9) X dX0_readOrder_9 ?_
  refine mo_f_X0_40 (pc := 10) X dX0_readOrder_10 (mo_Tx_o hx) ?_
  rw [h6]
  refine mo_il1 (pc := 13) X dX0_readOrder_13 ?_
  refine mo_cVV (pc := 14) (As := [_, _]) X mo_k_X0_36 mo_y_yX1_set rfl dX0_readOrder_14 (ct_set (a := x + 4) (j := c) (mo_Tx_r1 hx) rfl (by omega) (by omega) (by omega) (by omega)) (mo_Tx_r1 hx).1 rfl (by decide) (by decide) (Nat.le_of_ble_eq_true rfl) ?_
  rintro M_14 h_14
  refine mo_il1 (pc := 17) X dX0_readOrder_17 ?_
  skip
  have hT14 : mo_TS M_14 x (M (x + 2)) n c p := by
    rw [h_14]
    exact ⟨by rw [mo_ur_n (by omega)]; exact h5, by rw [mo_ur_n (by omega)]; exact h7, by rw [mo_ur_n (by omega)]; exact h6, by rw [mo_ur_n (by omega)]⟩
  have f14 : ∀ z j, (z ≠ x + 4 ∨ j ≠ c) → M_14 z j = M z j := fun z j hz => by
    rw [h_14]
    by_cases q : z = x + 4
    · rw [q, mo_ur_s, mo_up_n (by omega)]
    · rw [mo_ur_n q]
  have k14 : M_14 (x + 4) c = (mo_bh (M (x + 2)) n) p := by rw [h_14, mo_ur_s, mo_up_s, h_1]
  clear h_14
  by_cases k99 : r_1 = 99
  · subst k99
    refine mo_lsw (pc := 18) (tgt := 68) (off := 50) X dX0_readOrder_18 (by omega) (by decide) (by decide) (by decide) ?_
    have hln := hbn p (by omega)
    refine mo_al0 (pc := 68) X dX0_readOrder_68 ?_
    refine mo_dup (pc := 69) X dX0_readOrder_69 rfl ?_
    refine mo_f_X0_43 (pc := 70) X dX0_readOrder_70 (mo_Tx_o hx) ?_
    rw [hT14.2.1]
    refine mo_iconst (pc := 73) X dX0_readOrder_73 ?_
    refine mo_iadd (pc := 74) X dX0_readOrder_74 ?_
    refine mo_p_X0_43 (pc := 75) X dX0_readOrder_75 (mo_Tx_o hx) ?_
    obtain ⟨M_75, e_75⟩ : ∃ Q : mo_M, Q = mo_ur M_14 x (va_up (M_14 x) 7 ((p : Int) + 1)) := ⟨_, rfl⟩
    rw [← e_75]
    obtain ⟨hT75, f75⟩ := mo_tsP (q := p + 1) e_75 (by omega) hT14
    refine mo_al0 (pc := 78) X dX0_readOrder_78 ?_
    refine mo_bipush (pc := 79) X dX0_readOrder_79 (by decide) ?_
    refine mo_al0 (pc := 81) X dX0_readOrder_81 ?_
    refine mo_f_X0_23 (pc := 82) X dX0_readOrder_82 (mo_Tx_o hx) (mo_Tx_p2 hx) ?_
    refine mo_cVI (pc := 85) (As := [_, _]) X mo_k_X0_58 mo_y_yX0_readDigit rfl dX0_readOrder_85 (ct0_readDigit hx hn hT75.1 hT75.2.1 (by omega) (by rw [hT75.2.2.2]; exact hr) (mo_Tx_r2 hx) rfl (by omega) (by omega) hc hT75.2.2.1) (mo_Tx_o hx) rfl (by decide) (by decide) (Nat.le_of_ble_eq_true rfl) ?_
    rintro r_85 M_85 ⟨h_85, y_85, n_85⟩
    rw [hT75.2.2.2] at h_85 y_85 n_85
    refine mo_if_eq (pc := 88) (tgt := 130) X dX0_readOrder_88 (by decide) ?_ (fun c_88 => ?_) (fun c_88 => ?_)
    · omega
    · skip
      refine mo_iconst (pc := 130) X dX0_readOrder_130 ?_
      refine mo_zret (pc := 131) X Y rfl ?_ dX0_readOrder_131 ⟨rfl, rfl, _, rfl, ?_⟩
      · omega
      rw [n_85 (mo_b0 h_85 c_88)]
      have elt : mo_ltr (mo_bh (M (x + 2)) n) p = true := by unfold mo_ltr; rw [decide_eq_true_eq]; omega
      have ept : mo_pt (mo_bh (M (x + 2)) n) p = (false, p + 1) := by
        unfold mo_pt
        rw [if_pos (show (mo_bh (M (x + 2)) n) p = 99 by omega), if_neg (mo_b0 h_85 c_88)]
      have eok : mo_okp (mo_bh (M (x + 2)) n) p = false := by unfold mo_okp; rw [elt, ept]; rfl
      have eoq : mo_oq (mo_bh (M (x + 2)) n) p = p + 1 := by unfold mo_oq; rw [if_pos elt, ept]
      refine ⟨Or.inr ⟨rfl, by rw [eok]; decide⟩, hT75.1, hT75.2.2.1, by rw [hT75.2.1, eoq], fun z j hz hj => by rw [f75 z j hz, f14 z j (by omega)], by rw [f75 (x + 4) c (by omega), k14], fun q => ?_⟩
      rw [eok] at q
      exact absurd q (by decide)
    · skip
      obtain ⟨hT85, k85, f85⟩ := mo_tsD (q := p + 2) (y_85 (mo_b1 h_85 c_88)) (by omega) (by omega) (by omega) hT75
      have hd1 := mo_dok_c (mo_b1 h_85 c_88)
      have hl1 := hbn (p + 1) (by omega)
      refine mo_al0 (pc := 91) X dX0_readOrder_91 ?_
      refine mo_bipush (pc := 92) X dX0_readOrder_92 (by decide) ?_
      refine mo_al0 (pc := 94) X dX0_readOrder_94 ?_
      refine mo_f_X0_26 (pc := 95) X dX0_readOrder_95 (mo_Tx_o hx) (mo_Tx_p3 hx) ?_
      refine mo_cVI (pc := 98) (As := [_, _]) X mo_k_X0_62 mo_y_yX0_readNumber rfl dX0_readOrder_98 (ct0_readNumber hx hn hT85.1 hT85.2.1 (by omega) (by rw [hT85.2.2.2]; exact hr) (mo_Tx_r3 hx) rfl (by omega) (by omega) hc hT85.2.2.1 (by omega)) (mo_Tx_o hx) rfl (by decide) (by decide) (Nat.le_of_ble_eq_true rfl) ?_
      rintro r_98 M_98 ⟨h_98, y_98, n_98⟩
      rw [hT85.2.2.2] at h_98 y_98 n_98
      refine mo_if_eq (pc := 101) (tgt := 130) X dX0_readOrder_101 (by decide) ?_ (fun c_101 => ?_) (fun c_101 => ?_)
      · omega
      · skip
        refine mo_iconst (pc := 130) X dX0_readOrder_130 ?_
        refine mo_zret (pc := 131) X Y rfl ?_ dX0_readOrder_131 ⟨rfl, rfl, _, rfl, ?_⟩
        · omega
        obtain ⟨hT98, f98⟩ := mo_tsP (n_98 (mo_b0 h_98 c_101)) rfl hT85
        have elt : mo_ltr (mo_bh (M (x + 2)) n) p = true := by unfold mo_ltr; rw [decide_eq_true_eq]; omega
        have ept : mo_pt (mo_bh (M (x + 2)) n) p = (false, mo_nf (mo_bh (M (x + 2)) n) (p + 2)) := by
          unfold mo_pt
          rw [if_pos (show (mo_bh (M (x + 2)) n) p = 99 by omega), if_pos (mo_b1 h_85 c_88), if_neg (mo_b0 h_98 c_101)]
        have eok : mo_okp (mo_bh (M (x + 2)) n) p = false := by unfold mo_okp; rw [elt, ept]; rfl
        have eoq : mo_oq (mo_bh (M (x + 2)) n) p = mo_nf (mo_bh (M (x + 2)) n) (p + 2) := by unfold mo_oq; rw [if_pos elt, ept]
        refine ⟨Or.inr ⟨rfl, by rw [eok]; decide⟩, hT98.1, hT98.2.2.1, by rw [hT98.2.1, eoq], fun z j hz hj => by rw [f98 z j hz, f85 z j hz (by omega), f75 z j hz, f14 z j (by omega)], by rw [f98 (x + 4) c (by omega), f85 (x + 4) c (by omega) (by omega), f75 (x + 4) c (by omega), k14], fun q => ?_⟩
        rw [eok] at q
        exact absurd q (by decide)
      · skip
        obtain ⟨hT98, k98, f98⟩ := mo_tsD (y_98 (mo_b1 h_98 c_101)) rfl (by omega) (by omega) hT85
        have hd2 := mo_nok_c (mo_b1 h_98 c_101)
        have hl2 := hbn (p + 2) (by omega)
        have hne := mo_ne_b (mo_bh (M (x + 2)) n) (p + 2)
        have hl3 := hbn (p + 2 + 1)
        refine mo_al0 (pc := 104) X dX0_readOrder_104 ?_
        refine mo_bipush (pc := 105) X dX0_readOrder_105 (by decide) ?_
        refine mo_cVI (pc := 107) (As := [_]) X mo_k_X0_50 mo_y_yX0_readSign rfl dX0_readOrder_107 (ct0_readSign hx hn hT98.1 hT98.2.1 (by omega) (by rw [hT98.2.2.2]; exact hr) (by omega)) (mo_Tx_o hx) rfl (by decide) (by decide) (Nat.le_of_ble_eq_true rfl) ?_
        rintro r_107 M_107 ⟨h_107, e_107⟩
        rw [hT98.2.2.2] at h_107 e_107
        refine mo_if_eq (pc := 110) (tgt := 130) X dX0_readOrder_110 (by decide) ?_ (fun c_110 => ?_) (fun c_110 => ?_)
        · omega
        · skip
          refine mo_iconst (pc := 130) X dX0_readOrder_130 ?_
          refine mo_zret (pc := 131) X Y rfl ?_ dX0_readOrder_131 ⟨rfl, rfl, _, rfl, ?_⟩
          · omega
          rw [if_neg (mo_b0 h_107 c_110)] at e_107
          obtain ⟨hT107, f107⟩ := mo_tsP (q := mo_ne (mo_bh (M (x + 2)) n) (p + 2)) e_107 rfl hT98
          have elt : mo_ltr (mo_bh (M (x + 2)) n) p = true := by unfold mo_ltr; rw [decide_eq_true_eq]; omega
          have ept : mo_pt (mo_bh (M (x + 2)) n) p = (false, mo_ne (mo_bh (M (x + 2)) n) (p + 2)) := by
            unfold mo_pt
            rw [if_pos (show (mo_bh (M (x + 2)) n) p = 99 by omega), if_pos (mo_b1 h_85 c_88), if_pos (mo_b1 h_98 c_101), if_neg (mo_b0 h_107 c_110)]
          have eok : mo_okp (mo_bh (M (x + 2)) n) p = false := by unfold mo_okp; rw [elt, ept]; rfl
          have eoq : mo_oq (mo_bh (M (x + 2)) n) p = mo_ne (mo_bh (M (x + 2)) n) (p + 2) := by unfold mo_oq; rw [if_pos elt, ept]
          refine ⟨Or.inr ⟨rfl, by rw [eok]; decide⟩, hT107.1, hT107.2.2.1, by rw [hT107.2.1, eoq], fun z j hz hj => by rw [f107 z j hz, f98 z j hz (by omega), f85 z j hz (by omega), f75 z j hz, f14 z j (by omega)], by rw [f107 (x + 4) c (by omega), f98 (x + 4) c (by omega) (by omega), f85 (x + 4) c (by omega) (by omega), f75 (x + 4) c (by omega), k14], fun q => ?_⟩
          rw [eok] at q
          exact absurd q (by decide)
        · skip
          rw [if_pos (mo_b1 h_107 c_110)] at e_107
          obtain ⟨hT107, f107⟩ := mo_tsP (q := mo_ne (mo_bh (M (x + 2)) n) (p + 2) + 1) e_107 (by omega) hT98
          have hl4 := hbn (mo_ne (mo_bh (M (x + 2)) n) (p + 2)) (by rw [mo_b1 h_107 c_110]; decide)
          refine mo_al0 (pc := 113) X dX0_readOrder_113 ?_
          refine mo_bipush (pc := 114) X dX0_readOrder_114 (by decide) ?_
          refine mo_al0 (pc := 116) X dX0_readOrder_116 ?_
          refine mo_f_X0_29 (pc := 117) X dX0_readOrder_117 (mo_Tx_o hx) (mo_Tx_p4 hx) ?_
          refine mo_cVI (pc := 120) (As := [_, _]) X mo_k_X0_58 mo_y_yX0_readDigit rfl dX0_readOrder_120 (ct0_readDigit hx hn hT107.1 hT107.2.1 (by omega) (by rw [hT107.2.2.2]; exact hr) (mo_Tx_r4 hx) rfl (by omega) (by omega) hc hT107.2.2.1) (mo_Tx_o hx) rfl (by decide) (by decide) (Nat.le_of_ble_eq_true rfl) ?_
          rintro r_120 M_120 ⟨h_120, y_120, n_120⟩
          rw [hT107.2.2.2] at h_120 y_120 n_120
          refine mo_if_eq (pc := 123) (tgt := 130) X dX0_readOrder_123 (by decide) ?_ (fun c_123 => ?_) (fun c_123 => ?_)
          · omega
          · skip
            refine mo_iconst (pc := 130) X dX0_readOrder_130 ?_
            refine mo_zret (pc := 131) X Y rfl ?_ dX0_readOrder_131 ⟨rfl, rfl, _, rfl, ?_⟩
            · omega
            rw [n_120 (mo_b0 h_120 c_123)]
            have elt : mo_ltr (mo_bh (M (x + 2)) n) p = true := by unfold mo_ltr; rw [decide_eq_true_eq]; omega
            have ept : mo_pt (mo_bh (M (x + 2)) n) p = (false, mo_ne (mo_bh (M (x + 2)) n) (p + 2) + 1) := by
              unfold mo_pt
              rw [if_pos (show (mo_bh (M (x + 2)) n) p = 99 by omega), if_pos (mo_b1 h_85 c_88), if_pos (mo_b1 h_98 c_101), if_pos (mo_b1 h_107 c_110), if_neg (mo_b0 h_120 c_123)]
            have eok : mo_okp (mo_bh (M (x + 2)) n) p = false := by unfold mo_okp; rw [elt, ept]; rfl
            have eoq : mo_oq (mo_bh (M (x + 2)) n) p = mo_ne (mo_bh (M (x + 2)) n) (p + 2) + 1 := by unfold mo_oq; rw [if_pos elt, ept]
            refine ⟨Or.inr ⟨rfl, by rw [eok]; decide⟩, hT107.1, hT107.2.2.1, by rw [hT107.2.1, eoq], fun z j hz hj => by rw [f107 z j hz, f98 z j hz (by omega), f85 z j hz (by omega), f75 z j hz, f14 z j (by omega)], by rw [f107 (x + 4) c (by omega), f98 (x + 4) c (by omega) (by omega), f85 (x + 4) c (by omega) (by omega), f75 (x + 4) c (by omega), k14], fun q => ?_⟩
            rw [eok] at q
            exact absurd q (by decide)
          · skip
            refine mo_iconst (pc := 126) X dX0_readOrder_126 ?_
            refine mo_goto (pc := 127) (tgt := 131) X dX0_readOrder_127 (by decide) ?_
            refine mo_zret (pc := 131) X Y rfl ?_ dX0_readOrder_131 ⟨rfl, rfl, _, rfl, ?_⟩
            · omega
            obtain ⟨hT120, k120, f120⟩ := mo_tsD (q := mo_ne (mo_bh (M (x + 2)) n) (p + 2) + 2) (y_120 (mo_b1 h_120 c_123)) (by omega) (by omega) (by omega) hT107
            have elt : mo_ltr (mo_bh (M (x + 2)) n) p = true := by unfold mo_ltr; rw [decide_eq_true_eq]; omega
            have ept : mo_pt (mo_bh (M (x + 2)) n) p = (true, mo_ne (mo_bh (M (x + 2)) n) (p + 2) + 2) := by
              unfold mo_pt
              rw [if_pos (show (mo_bh (M (x + 2)) n) p = 99 by omega), if_pos (mo_b1 h_85 c_88), if_pos (mo_b1 h_98 c_101), if_pos (mo_b1 h_107 c_110), if_pos (mo_b1 h_120 c_123)]
            have eok : mo_okp (mo_bh (M (x + 2)) n) p = true := by unfold mo_okp; rw [elt, ept]; rfl
            have eoq : mo_oq (mo_bh (M (x + 2)) n) p = mo_ne (mo_bh (M (x + 2)) n) (p + 2) + 2 := by unfold mo_oq; rw [if_pos elt, ept]
            refine ⟨Or.inl ⟨rfl, eok⟩, hT120.1, hT120.2.2.1, by rw [hT120.2.1, eoq], fun z j hz hj => by rw [f120 z j hz (by omega), f107 z j hz, f98 z j hz (by omega), f85 z j hz (by omega), f75 z j hz, f14 z j (by omega)], by rw [f120 (x + 4) c (by omega) (by omega), f107 (x + 4) c (by omega), f98 (x + 4) c (by omega) (by omega), f85 (x + 4) c (by omega) (by omega), f75 (x + 4) c (by omega), k14], fun q => ?_⟩
            refine ⟨fun _ => ?_, fun _ => ?_, fun _ => ?_⟩
            · rw [f120 _ _ (by omega) (by omega), f107 _ _ (by omega), f98 _ _ (by omega) (by omega), k85]
              unfold mo_oN
              rw [if_pos (by omega)]
            · rw [f120 _ _ (by omega) (by omega), f107 _ _ (by omega), k98]
              unfold mo_oW
              rw [if_pos (by omega)]
            · rw [k120]
              rfl
  by_cases k112 : r_1 = 112
  · subst k112
    refine mo_lsw (pc := 18) (tgt := 132) (off := 114) X dX0_readOrder_18 (by omega) (by decide) (by decide) (by decide) ?_
    have hln := hbn p (by omega)
    refine mo_al0 (pc := 132) X dX0_readOrder_132 ?_
    refine mo_dup (pc := 133) X dX0_readOrder_133 rfl ?_
    refine mo_f_X0_43 (pc := 134) X dX0_readOrder_134 (mo_Tx_o hx) ?_
    rw [hT14.2.1]
    refine mo_iconst (pc := 137) X dX0_readOrder_137 ?_
    refine mo_iadd (pc := 138) X dX0_readOrder_138 ?_
    refine mo_p_X0_43 (pc := 139) X dX0_readOrder_139 (mo_Tx_o hx) ?_
    obtain ⟨M_139, e_139⟩ : ∃ Q : mo_M, Q = mo_ur M_14 x (va_up (M_14 x) 7 ((p : Int) + 1)) := ⟨_, rfl⟩
    rw [← e_139]
    obtain ⟨hT139, f139⟩ := mo_tsP (q := p + 1) e_139 (by omega) hT14
    refine mo_al0 (pc := 142) X dX0_readOrder_142 ?_
    refine mo_bipush (pc := 143) X dX0_readOrder_143 (by decide) ?_
    refine mo_al0 (pc := 145) X dX0_readOrder_145 ?_
    refine mo_f_X0_26 (pc := 146) X dX0_readOrder_146 (mo_Tx_o hx) (mo_Tx_p3 hx) ?_
    refine mo_cVI (pc := 149) (As := [_, _]) X mo_k_X0_62 mo_y_yX0_readNumber rfl dX0_readOrder_149 (ct0_readNumber hx hn hT139.1 hT139.2.1 (by omega) (by rw [hT139.2.2.2]; exact hr) (mo_Tx_r3 hx) rfl (by omega) (by omega) hc hT139.2.2.1 (by omega)) (mo_Tx_o hx) rfl (by decide) (by decide) (Nat.le_of_ble_eq_true rfl) ?_
    rintro r_149 M_149 ⟨h_149, y_149, n_149⟩
    rw [hT139.2.2.2] at h_149 y_149 n_149
    refine mo_zret (pc := 152) X Y rfl ?_ dX0_readOrder_152 ⟨rfl, rfl, _, rfl, ?_⟩
    · omega
    rcases h_149 with ⟨s1, s2⟩ | ⟨s1, s2⟩
    · subst s1
      obtain ⟨hT149, k149, f149⟩ := mo_tsD (y_149 s2) rfl (by omega) (by omega) hT139
      have elt : mo_ltr (mo_bh (M (x + 2)) n) p = true := by unfold mo_ltr; rw [decide_eq_true_eq]; omega
      have ept : mo_pt (mo_bh (M (x + 2)) n) p = (true, mo_ne (mo_bh (M (x + 2)) n) (p + 1)) := by
        unfold mo_pt
        rw [if_neg (show ¬ (mo_bh (M (x + 2)) n) p = 99 by omega), if_pos (show (mo_bh (M (x + 2)) n) p = 112 by omega), if_pos s2]
      have eok : mo_okp (mo_bh (M (x + 2)) n) p = true := by unfold mo_okp; rw [elt, ept]; rfl
      have eoq : mo_oq (mo_bh (M (x + 2)) n) p = mo_ne (mo_bh (M (x + 2)) n) (p + 1) := by unfold mo_oq; rw [if_pos elt, ept]
      refine ⟨Or.inl ⟨rfl, eok⟩, hT149.1, hT149.2.2.1, by rw [hT149.2.1, eoq], fun z j hz hj => by rw [f149 z j hz (by omega), f139 z j hz, f14 z j (by omega)], by rw [f149 (x + 4) c (by omega) (by omega), f139 (x + 4) c (by omega), k14], fun q => ?_⟩
      refine ⟨fun q2 => absurd q2 (by omega), fun _ => ?_, fun q2 => absurd q2 (by omega)⟩
      rw [k149]
      unfold mo_oW
      rw [if_neg (by omega)]
    · subst s1
      obtain ⟨hT149, f149⟩ := mo_tsP (n_149 s2) rfl hT139
      have elt : mo_ltr (mo_bh (M (x + 2)) n) p = true := by unfold mo_ltr; rw [decide_eq_true_eq]; omega
      have ept : mo_pt (mo_bh (M (x + 2)) n) p = (false, mo_nf (mo_bh (M (x + 2)) n) (p + 1)) := by
        unfold mo_pt
        rw [if_neg (show ¬ (mo_bh (M (x + 2)) n) p = 99 by omega), if_pos (show (mo_bh (M (x + 2)) n) p = 112 by omega), if_neg s2]
      have eok : mo_okp (mo_bh (M (x + 2)) n) p = false := by unfold mo_okp; rw [elt, ept]; rfl
      have eoq : mo_oq (mo_bh (M (x + 2)) n) p = mo_nf (mo_bh (M (x + 2)) n) (p + 1) := by unfold mo_oq; rw [if_pos elt, ept]
      refine ⟨Or.inr ⟨rfl, by rw [eok]; decide⟩, hT149.1, hT149.2.2.1, by rw [hT149.2.1, eoq], fun z j hz hj => by rw [f149 z j hz, f139 z j hz, f14 z j (by omega)], by rw [f149 (x + 4) c (by omega), f139 (x + 4) c (by omega), k14], fun q => ?_⟩
      rw [eok] at q
      exact absurd q (by decide)
  by_cases k104 : r_1 = 104
  · subst k104
    refine mo_lsw (pc := 18) (tgt := 153) (off := 135) X dX0_readOrder_18 (by omega) (by decide) (by decide) (by decide) ?_
    have hln := hbn p (by omega)
    refine mo_al0 (pc := 153) X dX0_readOrder_153 ?_
    refine mo_dup (pc := 154) X dX0_readOrder_154 rfl ?_
    refine mo_f_X0_43 (pc := 155) X dX0_readOrder_155 (mo_Tx_o hx) ?_
    rw [hT14.2.1]
    refine mo_iconst (pc := 158) X dX0_readOrder_158 ?_
    refine mo_iadd (pc := 159) X dX0_readOrder_159 ?_
    refine mo_p_X0_43 (pc := 160) X dX0_readOrder_160 (mo_Tx_o hx) ?_
    obtain ⟨M_160, e_160⟩ : ∃ Q : mo_M, Q = mo_ur M_14 x (va_up (M_14 x) 7 ((p : Int) + 1)) := ⟨_, rfl⟩
    rw [← e_160]
    obtain ⟨hT160, f160⟩ := mo_tsP (q := p + 1) e_160 (by omega) hT14
    refine mo_al0 (pc := 163) X dX0_readOrder_163 ?_
    refine mo_bipush (pc := 164) X dX0_readOrder_164 (by decide) ?_
    refine mo_al0 (pc := 166) X dX0_readOrder_166 ?_
    refine mo_f_X0_23 (pc := 167) X dX0_readOrder_167 (mo_Tx_o hx) (mo_Tx_p2 hx) ?_
    refine mo_cVI (pc := 170) (As := [_, _]) X mo_k_X0_62 mo_y_yX0_readNumber rfl dX0_readOrder_170 (ct0_readNumber hx hn hT160.1 hT160.2.1 (by omega) (by rw [hT160.2.2.2]; exact hr) (mo_Tx_r2 hx) rfl (by omega) (by omega) hc hT160.2.2.1 (by omega)) (mo_Tx_o hx) rfl (by decide) (by decide) (Nat.le_of_ble_eq_true rfl) ?_
    rintro r_170 M_170 ⟨h_170, y_170, n_170⟩
    rw [hT160.2.2.2] at h_170 y_170 n_170
    refine mo_zret (pc := 173) X Y rfl ?_ dX0_readOrder_173 ⟨rfl, rfl, _, rfl, ?_⟩
    · omega
    rcases h_170 with ⟨s1, s2⟩ | ⟨s1, s2⟩
    · subst s1
      obtain ⟨hT170, k170, f170⟩ := mo_tsD (y_170 s2) rfl (by omega) (by omega) hT160
      have elt : mo_ltr (mo_bh (M (x + 2)) n) p = true := by unfold mo_ltr; rw [decide_eq_true_eq]; omega
      have ept : mo_pt (mo_bh (M (x + 2)) n) p = (true, mo_ne (mo_bh (M (x + 2)) n) (p + 1)) := by
        unfold mo_pt
        rw [if_neg (show ¬ (mo_bh (M (x + 2)) n) p = 99 by omega), if_neg (show ¬ (mo_bh (M (x + 2)) n) p = 112 by omega), if_pos (show (mo_bh (M (x + 2)) n) p = 104 ∨ (mo_bh (M (x + 2)) n) p = 109 by omega), if_pos s2]
      have eok : mo_okp (mo_bh (M (x + 2)) n) p = true := by unfold mo_okp; rw [elt, ept]; rfl
      have eoq : mo_oq (mo_bh (M (x + 2)) n) p = mo_ne (mo_bh (M (x + 2)) n) (p + 1) := by unfold mo_oq; rw [if_pos elt, ept]
      refine ⟨Or.inl ⟨rfl, eok⟩, hT170.1, hT170.2.2.1, by rw [hT170.2.1, eoq], fun z j hz hj => by rw [f170 z j hz (by omega), f160 z j hz, f14 z j (by omega)], by rw [f170 (x + 4) c (by omega) (by omega), f160 (x + 4) c (by omega), k14], fun q => ?_⟩
      refine ⟨fun _ => ?_, fun q2 => absurd q2 (by omega), fun q2 => absurd q2 (by omega)⟩
      rw [k170]
      unfold mo_oN
      rw [if_neg (by omega)]
    · subst s1
      obtain ⟨hT170, f170⟩ := mo_tsP (n_170 s2) rfl hT160
      have elt : mo_ltr (mo_bh (M (x + 2)) n) p = true := by unfold mo_ltr; rw [decide_eq_true_eq]; omega
      have ept : mo_pt (mo_bh (M (x + 2)) n) p = (false, mo_nf (mo_bh (M (x + 2)) n) (p + 1)) := by
        unfold mo_pt
        rw [if_neg (show ¬ (mo_bh (M (x + 2)) n) p = 99 by omega), if_neg (show ¬ (mo_bh (M (x + 2)) n) p = 112 by omega), if_pos (show (mo_bh (M (x + 2)) n) p = 104 ∨ (mo_bh (M (x + 2)) n) p = 109 by omega), if_neg s2]
      have eok : mo_okp (mo_bh (M (x + 2)) n) p = false := by unfold mo_okp; rw [elt, ept]; rfl
      have eoq : mo_oq (mo_bh (M (x + 2)) n) p = mo_nf (mo_bh (M (x + 2)) n) (p + 1) := by unfold mo_oq; rw [if_pos elt, ept]
      refine ⟨Or.inr ⟨rfl, by rw [eok]; decide⟩, hT170.1, hT170.2.2.1, by rw [hT170.2.1, eoq], fun z j hz hj => by rw [f170 z j hz, f160 z j hz, f14 z j (by omega)], by rw [f170 (x + 4) c (by omega), f160 (x + 4) c (by omega), k14], fun q => ?_⟩
      rw [eok] at q
      exact absurd q (by decide)
  by_cases k109 : r_1 = 109
  · subst k109
    refine mo_lsw (pc := 18) (tgt := 153) (off := 135) X dX0_readOrder_18 (by omega) (by decide) (by decide) (by decide) ?_
    have hln := hbn p (by omega)
    refine mo_al0 (pc := 153) X dX0_readOrder_153 ?_
    refine mo_dup (pc := 154) X dX0_readOrder_154 rfl ?_
    refine mo_f_X0_43 (pc := 155) X dX0_readOrder_155 (mo_Tx_o hx) ?_
    rw [hT14.2.1]
    refine mo_iconst (pc := 158) X dX0_readOrder_158 ?_
    refine mo_iadd (pc := 159) X dX0_readOrder_159 ?_
    refine mo_p_X0_43 (pc := 160) X dX0_readOrder_160 (mo_Tx_o hx) ?_
    obtain ⟨M_160, e_160⟩ : ∃ Q : mo_M, Q = mo_ur M_14 x (va_up (M_14 x) 7 ((p : Int) + 1)) := ⟨_, rfl⟩
    rw [← e_160]
    obtain ⟨hT160, f160⟩ := mo_tsP (q := p + 1) e_160 (by omega) hT14
    refine mo_al0 (pc := 163) X dX0_readOrder_163 ?_
    refine mo_bipush (pc := 164) X dX0_readOrder_164 (by decide) ?_
    refine mo_al0 (pc := 166) X dX0_readOrder_166 ?_
    refine mo_f_X0_23 (pc := 167) X dX0_readOrder_167 (mo_Tx_o hx) (mo_Tx_p2 hx) ?_
    refine mo_cVI (pc := 170) (As := [_, _]) X mo_k_X0_62 mo_y_yX0_readNumber rfl dX0_readOrder_170 (ct0_readNumber hx hn hT160.1 hT160.2.1 (by omega) (by rw [hT160.2.2.2]; exact hr) (mo_Tx_r2 hx) rfl (by omega) (by omega) hc hT160.2.2.1 (by omega)) (mo_Tx_o hx) rfl (by decide) (by decide) (Nat.le_of_ble_eq_true rfl) ?_
    rintro r_170 M_170 ⟨h_170, y_170, n_170⟩
    rw [hT160.2.2.2] at h_170 y_170 n_170
    refine mo_zret (pc := 173) X Y rfl ?_ dX0_readOrder_173 ⟨rfl, rfl, _, rfl, ?_⟩
    · omega
    rcases h_170 with ⟨s1, s2⟩ | ⟨s1, s2⟩
    · subst s1
      obtain ⟨hT170, k170, f170⟩ := mo_tsD (y_170 s2) rfl (by omega) (by omega) hT160
      have elt : mo_ltr (mo_bh (M (x + 2)) n) p = true := by unfold mo_ltr; rw [decide_eq_true_eq]; omega
      have ept : mo_pt (mo_bh (M (x + 2)) n) p = (true, mo_ne (mo_bh (M (x + 2)) n) (p + 1)) := by
        unfold mo_pt
        rw [if_neg (show ¬ (mo_bh (M (x + 2)) n) p = 99 by omega), if_neg (show ¬ (mo_bh (M (x + 2)) n) p = 112 by omega), if_pos (show (mo_bh (M (x + 2)) n) p = 104 ∨ (mo_bh (M (x + 2)) n) p = 109 by omega), if_pos s2]
      have eok : mo_okp (mo_bh (M (x + 2)) n) p = true := by unfold mo_okp; rw [elt, ept]; rfl
      have eoq : mo_oq (mo_bh (M (x + 2)) n) p = mo_ne (mo_bh (M (x + 2)) n) (p + 1) := by unfold mo_oq; rw [if_pos elt, ept]
      refine ⟨Or.inl ⟨rfl, eok⟩, hT170.1, hT170.2.2.1, by rw [hT170.2.1, eoq], fun z j hz hj => by rw [f170 z j hz (by omega), f160 z j hz, f14 z j (by omega)], by rw [f170 (x + 4) c (by omega) (by omega), f160 (x + 4) c (by omega), k14], fun q => ?_⟩
      refine ⟨fun _ => ?_, fun q2 => absurd q2 (by omega), fun q2 => absurd q2 (by omega)⟩
      rw [k170]
      unfold mo_oN
      rw [if_neg (by omega)]
    · subst s1
      obtain ⟨hT170, f170⟩ := mo_tsP (n_170 s2) rfl hT160
      have elt : mo_ltr (mo_bh (M (x + 2)) n) p = true := by unfold mo_ltr; rw [decide_eq_true_eq]; omega
      have ept : mo_pt (mo_bh (M (x + 2)) n) p = (false, mo_nf (mo_bh (M (x + 2)) n) (p + 1)) := by
        unfold mo_pt
        rw [if_neg (show ¬ (mo_bh (M (x + 2)) n) p = 99 by omega), if_neg (show ¬ (mo_bh (M (x + 2)) n) p = 112 by omega), if_pos (show (mo_bh (M (x + 2)) n) p = 104 ∨ (mo_bh (M (x + 2)) n) p = 109 by omega), if_neg s2]
      have eok : mo_okp (mo_bh (M (x + 2)) n) p = false := by unfold mo_okp; rw [elt, ept]; rfl
      have eoq : mo_oq (mo_bh (M (x + 2)) n) p = mo_nf (mo_bh (M (x + 2)) n) (p + 1) := by unfold mo_oq; rw [if_pos elt, ept]
      refine ⟨Or.inr ⟨rfl, by rw [eok]; decide⟩, hT170.1, hT170.2.2.1, by rw [hT170.2.1, eoq], fun z j hz hj => by rw [f170 z j hz, f160 z j hz, f14 z j (by omega)], by rw [f170 (x + 4) c (by omega), f160 (x + 4) c (by omega), k14], fun q => ?_⟩
      rw [eok] at q
      exact absurd q (by decide)
  by_cases k119 : r_1 = 119
  · subst k119
    refine mo_lsw (pc := 18) (tgt := 174) (off := 156) X dX0_readOrder_18 (by omega) (by decide) (by decide) (by decide) ?_
    have hln := hbn p (by omega)
    refine mo_al0 (pc := 174) X dX0_readOrder_174 ?_
    refine mo_dup (pc := 175) X dX0_readOrder_175 rfl ?_
    refine mo_f_X0_43 (pc := 176) X dX0_readOrder_176 (mo_Tx_o hx) ?_
    rw [hT14.2.1]
    refine mo_iconst (pc := 179) X dX0_readOrder_179 ?_
    refine mo_iadd (pc := 180) X dX0_readOrder_180 ?_
    refine mo_p_X0_43 (pc := 181) X dX0_readOrder_181 (mo_Tx_o hx) ?_
    obtain ⟨M_181, e_181⟩ : ∃ Q : mo_M, Q = mo_ur M_14 x (va_up (M_14 x) 7 ((p : Int) + 1)) := ⟨_, rfl⟩
    rw [← e_181]
    obtain ⟨hT181, f181⟩ := mo_tsP (q := p + 1) e_181 (by omega) hT14
    refine mo_iconst (pc := 184) X dX0_readOrder_184 ?_
    refine mo_zret (pc := 185) X Y rfl ?_ dX0_readOrder_185 ⟨rfl, rfl, _, rfl, ?_⟩
    · omega
    have elt : mo_ltr (mo_bh (M (x + 2)) n) p = true := by unfold mo_ltr; rw [decide_eq_true_eq]; omega
    have ept : mo_pt (mo_bh (M (x + 2)) n) p = (true, p + 1) := by
      unfold mo_pt
      rw [if_neg (show ¬ (mo_bh (M (x + 2)) n) p = 99 by omega), if_neg (show ¬ (mo_bh (M (x + 2)) n) p = 112 by omega), if_neg (show ¬ ((mo_bh (M (x + 2)) n) p = 104 ∨ (mo_bh (M (x + 2)) n) p = 109) by omega)]
    have eok : mo_okp (mo_bh (M (x + 2)) n) p = true := by unfold mo_okp; rw [elt, ept]; rfl
    have eoq : mo_oq (mo_bh (M (x + 2)) n) p = p + 1 := by unfold mo_oq; rw [if_pos elt, ept]
    refine ⟨Or.inl ⟨rfl, eok⟩, hT181.1, hT181.2.2.1, by rw [hT181.2.1, eoq], fun z j hz hj => by rw [f181 z j hz, f14 z j (by omega)], by rw [f181 (x + 4) c (by omega), k14], fun q => ?_⟩
    exact ⟨fun q2 => absurd q2 (by omega), fun q2 => absurd q2 (by omega), fun q2 => absurd q2 (by omega)⟩
  refine mo_lsw (pc := 18) (tgt := 186) (off := 168) X dX0_readOrder_18 (by omega) (by decide) (by show (if (99 : Int) = r_1 then (50 : Int) else if (104 : Int) = r_1 then 135 else if (109 : Int) = r_1 then 135 else if (112 : Int) = r_1 then 114 else if (119 : Int) = r_1 then 156 else 168) = 168; rw [if_neg (by omega), if_neg (by omega), if_neg (by omega), if_neg (by omega), if_neg (by omega)]) (by decide) ?_
  refine mo_iconst (pc := 186) X dX0_readOrder_186 ?_
  refine mo_zret (pc := 187) X Y rfl ?_ dX0_readOrder_187 ⟨rfl, rfl, _, rfl, ?_⟩
  · omega
  have elt : ¬ (mo_ltr (mo_bh (M (x + 2)) n) p = true) := by unfold mo_ltr; rw [decide_eq_true_eq]; omega
  have eok : ¬ (mo_okp (mo_bh (M (x + 2)) n) p = true) := by unfold mo_okp; rw [Bool.eq_false_iff.mpr elt, Bool.false_and]; decide
  refine ⟨Or.inr ⟨rfl, eok⟩, hT14.1, hT14.2.2.1, by rw [hT14.2.1]; unfold mo_oq; rw [if_neg elt], fun z j hz hj => f14 z j (by omega), k14, fun q => absurd q eok⟩
