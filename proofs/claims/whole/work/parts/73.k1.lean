/-! the law's own rules -/
def mo_Xs (κ : mo_T) (b L : Nat) (xs : Nat → Int32) : Prop := match κ with
  | ((_, _, _, _, s), _, _, ρ) => va_X b L xs s s.heap ∧ b < s.heap.size ∧ b < ρ.2.2
theorem mo_tab (c : Code) : ∃ hh, c.exceptionTable.toList = tableOf hh := ⟨c.exceptionTable.toList.map fun e => (e.startPc, e.endPc, e.handlerPc, e.catchType), by
  unfold tableOf
  rw [List.map_map]
  exact (List.map_id _).symm⟩
section MOK
variable {κ : mo_T} {lf : Launch} {ρf : mo_E} {cc : ByteArray} {nL : Nat} {own : String} {ret : Option FieldType} {d k n pc : Nat} {ls : List (Option Value)} {st : List Value} {G : mo_G} {M : mo_M} {t : Nat} {b L : Nat} {xs : Nat → Int32}
theorem mo_Xs_dr (h : mo_Xs κ b L xs) (dd : Drawn) : mo_Xs (mo_dr κ dd) b L xs := by
  obtain ⟨⟨p, l, e, R, s⟩, ⟨m, args, below, meth, c⟩, Q, ρ⟩ := κ
  exact h
theorem mo_sld (X : mo_Cx κ lf ρf cc nL own ret d) (hXs : mo_Xs κ b L xs) (hL : L ≤ 3072) {i : Int} {j : Nat} (h0 : 0 ≤ i) (h1 : i < L) (hj : i.toNat = j) (hd : decode cc pc = .ok (.iaload, 1)) (kk : mo_V κ k n (pc + 1) ls (mo_iv (xs j).toInt :: st) G M t) : mo_V κ k n pc ls (mo_iv i :: .ref b :: st) G M t := by
  obtain ⟨⟨p, l, e, R, s⟩, ⟨m, args, below, meth, c⟩, Q, ρ⟩ := κ
  obtain ⟨hx, hb, hml, hown, hts, hK, hlk, hrt, hb0, hRf, hRl, hlf, hρ⟩ := X
  obtain ⟨hX, hbl, hbA⟩ := hXs
  intro H locs lr ht hR hS hl
  have h9 := kk H locs lr ht hR hS hl
  rw [← mo_of] at h9
  refine va_sld hx hb hX hbl (Nat.not_le.mpr hbA) hS (mo_vin (by omega) h0 h1) hd ?_
  rw [mo_cl (by omega) h0, hj]
  exact h9
theorem mo_slen (X : mo_Cx κ lf ρf cc nL own ret d) (hXs : mo_Xs κ b L xs) (hL : L ≤ 3072) (hd : decode cc pc = .ok (.arraylength, 1)) (kk : mo_V κ k n (pc + 1) ls (mo_iv (L : Int) :: st) G M t) : mo_V κ k n pc ls (.ref b :: st) G M t := by
  obtain ⟨⟨p, l, e, R, s⟩, ⟨m, args, below, meth, c⟩, Q, ρ⟩ := κ
  obtain ⟨hx, hb, hml, hown, hts, hK, hlk, hrt, hb0, hRf, hRl, hlf, hρ⟩ := X
  obtain ⟨hX, hbl, hbA⟩ := hXs
  intro H locs lr ht hR hS hl
  have h9 := kk H locs lr ht hR hS hl
  have e9 : Int32.ofInt (L : Int) = Int32.ofNat L := by
    apply Int32.toInt_inj.mp
    rw [mo_ti (by omega), Int32.toInt_ofNat_of_lt (by omega)]
  unfold mo_iv at h9
  rw [e9] at h9
  exact va_slen hx hb hX hbl (Nat.not_le.mpr hbA) hS hd h9
/-- fewer locals are known -/
theorem mo_fg {ls' : List (Option Value)} (h : ∀ q ∈ mo_en 0 ls', q ∈ mo_en 0 ls) (kk : mo_V κ k n pc ls' st G M t) : mo_V κ k n pc ls st G M t := by
  obtain ⟨⟨p, l, e, R, s⟩, ⟨m, args, below, meth, c⟩, Q, ρ⟩ := κ
  intro H locs lr ht hR hS hl
  exact kk H locs lr ht hR hS (mo_lhs hl h)
theorem mo_fg4 {a0 a1 a2 a3 a4 a5 a6 a7 a8 : Option Value} (kk : mo_V κ k n pc [a0, a1, a2, a3, a4, none, none, none, none] st G M t) : mo_V κ k n pc [a0, a1, a2, a3, a4, a5, a6, a7, a8] st G M t := by
  refine mo_fg (fun q hq => ?_) kk
  obtain ⟨j, h1, h2⟩ := mo_en_of _ _ _ hq
  rw [Nat.zero_add] at h1
  have h5 : j < 5 := by
    rcases Nat.lt_or_ge j 5 with c | c
    · exact c
    · exfalso
      have hl : j < 9 := (List.getElem?_eq_some_iff.mp h2).1
      rcases (show j = 5 ∨ j = 6 ∨ j = 7 ∨ j = 8 by omega) with rfl | rfl | rfl | rfl <;> simp at h2
  have h3 : [a0, a1, a2, a3, a4, a5, a6, a7, a8][j]? = some (some q.2) := by
    rcases (show j = 0 ∨ j = 1 ∨ j = 2 ∨ j = 3 ∨ j = 4 by omega) with rfl | rfl | rfl | rfl | rfl <;> exact h2
  have h4 := mo_en_in _ 0 j q.2 h3
  rw [Nat.zero_add, ← h1] at h4
  exact h4
theorem mo_ic_eqS (X : mo_Cx κ lf ρf cc nL own ret d) {x : Int} {off : Int} {tgt : Nat} (hd : decode cc pc = .ok (.if_icmp .eq off, 3)) (ht : (pc : Int) + off = (tgt : Int)) (kt : mo_V κ k n tgt ls st G M t) : mo_V κ k n pc ls (mo_iv x :: mo_iv x :: st) G M t := by
  obtain ⟨⟨p, l, e, R, s⟩, ⟨m, args, below, meth, c⟩, Q, ρ⟩ := κ
  obtain ⟨hx, hb, hml, hown, hts, hK, hlk, hrt, hb0, hRf, hRl, hlf, hρ⟩ := X
  intro H locs lr hsz hR hS hl
  exact lv_icmp_eq hx hb hd ht (fun h => kt H locs lr hsz hR hS hl) (fun h => absurd rfl h)
theorem mo_dload (X : mo_Cx κ lf ρf cc nL own ret d) {i : Nat} {x : UInt64} (hd : decode cc pc = .ok (.dload i, 2)) (hn : ls[i]? = some (some (.double x))) (kk : mo_V κ k n (pc + 2) ls (.double x :: st) G M t) : mo_V κ k n pc ls st G M t := by
  obtain ⟨⟨p, l, e, R, s⟩, ⟨m, args, below, meth, c⟩, Q, ρ⟩ := κ
  obtain ⟨hx, hb, hml, hown, hts, hK, hlk, hrt, hb0, hRf, hRl, hlf, hρ⟩ := X
  intro H locs lr ht hR hS hl
  exact lv_dload hx hb hd (mo_ld hl hn) (kk H locs lr ht hR hS hl)
theorem mo_dstore (X : mo_Cx κ lf ρf cc nL own ret d) {i : Nat} {x : UInt64} (hd : decode cc pc = .ok (.dstore i, 2)) (hc : i = 0 ∨ ∃ o, ls[i - 1]? = some o ∧ mo_c1 o = true) (hi : i + 1 < nL) (kk : mo_V κ k n (pc + 2) ((ls.set i (some (.double x))).set (i + 1) none) st G M t) : mo_V κ k n pc ls (.double x :: st) G M t := by
  obtain ⟨⟨p, l, e, R, s⟩, ⟨m, args, below, meth, c⟩, Q, ρ⟩ := κ
  obtain ⟨hx, hb, hml, hown, hts, hK, hlk, hrt, hb0, hRf, hRl, hlf, hρ⟩ := X
  intro H locs lr ht hR hS hl
  exact lv_dstore hx hb hd hl (by rw [hml]; exact hi) rfl (fun lr1 hl1 => kk H locs lr1 ht hR hS (mo_lhs hl1 (mo_stq2 hc)))
theorem mo_dcmp (X : mo_Cx κ lf ρf cc nL own ret d) {x y : UInt64} {op : CmpOp} {v : Int} (hv : Op.cmpValue (FP.dcmp x y) op = Int32.ofInt v) (hd : decode cc pc = .ok (.dcmp op, 1)) (kk : mo_V κ k n (pc + 1) ls (mo_iv v :: st) G M t) : mo_V κ k n pc ls (.double y :: .double x :: st) G M t := by
  obtain ⟨⟨p, l, e, R, s⟩, ⟨m, args, below, meth, c⟩, Q, ρ⟩ := κ
  obtain ⟨hx, hb, hml, hown, hts, hK, hlk, hrt, hb0, hRf, hRl, hlf, hρ⟩ := X
  intro H locs lr ht hR hS hl
  have h9 := kk H locs lr ht hR hS hl
  unfold mo_iv at h9
  rw [← hv] at h9
  exact lv_dcmp hx hb hd h9
end MOK
theorem mo_nan (a : UInt64) : isNaN64 a = true ↔ FP.Core.dIsNaN a = true := by
  rw [isNaN64_iff, FP.Core.isNaN_bits, show (0x7fffffffffffffff : Nat) = 2 ^ 63 - 1 from rfl, Nat.and_two_pow_sub_one_eq_mod]
theorem mo_dcN {a b : UInt64} (h : isNaN64 a = true) : FP.dcmp a b = none := (FP.Core.dcmp_none a b).mpr (Or.inl ((FP.Core.dIsNaN_iff a).mp ((mo_nan a).mp h)))
theorem mo_dcS {a : UInt64} (h : ¬ isNaN64 a = true) : FP.dcmp a a = some .eq := FP.Core.dcmp_self fun q => h ((mo_nan a).mpr ((FP.Core.dIsNaN_iff a).mpr q))
/-- two answers of one quotient: the same number, or no numbers both -/
theorem mo_kD2 {a b : Int} {p q : UInt64} (h1 : mo_kDb a b p) (h2 : mo_kDb a b q) : (p = q ∧ ¬ isNaN64 p = true) ∨ (isNaN64 p = true ∧ isNaN64 q = true) := by
  unfold mo_kDb at h1 h2
  rcases h1 with ⟨b1, rfl⟩ | ⟨b1, h1⟩
  · rcases h2 with ⟨b2, rfl⟩ | ⟨b2, h2⟩
    · exact Or.inl ⟨rfl, by decide⟩
    · exact absurd b1 b2
  · rcases h2 with ⟨b2, rfl⟩ | ⟨b2, h2⟩
    · exact absurd b2 b1
    · generalize FP.ddiv (FP.i2d (Int32.ofInt a)) (FP.i2d (Int32.ofInt b)) = v at h1 h2
      unfold alike64 at h1 h2
      simp only [Bool.or_eq_true, decide_eq_true_eq, Bool.and_eq_true] at h1 h2
      by_cases c : isNaN64 v = true
      · refine Or.inr ⟨?_, ?_⟩
        · rcases h1 with rfl | h1
          · exact c
          · exact h1.1
        · rcases h2 with rfl | h2
          · exact c
          · exact h2.1
      · rcases h1 with rfl | h1
        · rcases h2 with rfl | h2
          · exact Or.inl ⟨rfl, c⟩
          · exact absurd h2.2 c
        · exact absurd h1.2 c
/-- what the law's loop wants of a case: at its end the two agree again -/
def mo_Nxt (κ : mo_T) (b x m ou i : Nat) (B : Int) (k0 n0 : Nat) : Prop := ∀ dd : Drawn, (mo_st κ).drawn.sameBut dd lw_cs → ∀ (G1 : mo_G) (M2 : mo_M) (t1 n sv s : Nat), mo_LI G1 M2 x m ou n sv s (B + 4000) → mo_V (mo_dr κ dd) (k0 + 1) (n0 + 6) 1890 [some (.ref b), some (.ref x), some (.ref m), some (.ref ou), some (mo_iv (i : Int)), none, none, none, none] [] G1 M2 t1
theorem mo_rd_u {b : Nat → Int} {n k k2 : Nat} (h1 : mo_rd b n k) (h2 : mo_rd b n k2) (e1 : (mo_os b k < n ∧ mo_odf b (mo_os b k) = false) ∨ n ≤ mo_os b k) (e2 : (mo_os b k2 < n ∧ mo_odf b (mo_os b k2) = false) ∨ n ≤ mo_os b k2) : k = k2 := by
  rcases Nat.lt_trichotomy k k2 with c | c | c
  · exfalso
    obtain ⟨q1, q2⟩ := h2 k c
    rcases e1 with ⟨-, w⟩ | w
    · rw [q2] at w; cases w
    · omega
  · exact c
  · exfalso
    obtain ⟨q1, q2⟩ := h1 k2 c
    rcases e2 with ⟨-, w⟩ | w
    · rw [q2] at w; cases w
    · omega
