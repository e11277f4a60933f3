theorem mo_thrS {κ : mo_T} {lf : Launch} {ρf : mo_E} {cc : ByteArray} {nL : Nat} {ret : Option FieldType} {d kc ks k n pc : Nat} {ls : List (Option Value)} {st : List Value} {G : mo_G} {M : mo_M} {t : Nat} {post : Option Value → mo_G → mo_M → Nat → Prop} {postX : String → mo_G → mo_M → Nat → Prop} (X : mo_Cx κ lf ρf cc nL RX4 ret d) (Y : mo_Rx κ post postX d kc ks) (hst : lf.stackTraces = false) {cls text : String} {names : List String} {ik is ic : Nat}
    (hcls : Bundle.fit cls = true) (hnames : ∀ n ∈ names, Bundle.fit n = true) (hk : Cond.classLink RX4 ik cls ∈ mo_B) (hini : Cond.initialized cls ∈ mo_B) (hstr : (is, text) ∈ mo_strs) (hat : ∀ w ∈ vx_atS RX4 ic cls names, w ∈ mo_B ∨ w ∈ mo_bad)
    (hgood : ∀ w ∈ Cond.classLink RX4 ik cls :: Cond.initialized cls :: vx_atS RX4 ic cls names, vx_ot w = true)
    (d0 : decode cc pc = .ok (.new ik, 3)) (d3 : decode cc (pc + 3) = .ok (.dup, 1)) (d4 : decode cc (pc + 4) = .ok (.ldc is, 2)) (d6 : decode cc (pc + 6) = .ok (.invokespecial ic, 3)) (d9 : decode cc (pc + 9) = .ok (.athrow, 1))
    (hfr : names.length + 3 < d) (hlo : (st.map fun v => v.category).sum + (13 * (names.length + 1) + 43) ≤ 30 * d) (hc : k + 1 ≤ kc) (hs : n + 6 ≤ ks)
    (hp : ∀ t', t ≤ t' → postX cls G M t') : mo_V κ k n pc ls st G M t := by
  obtain ⟨⟨p, l, e, R, s⟩, ⟨m, args, below, meth, c⟩, Q, ρ⟩ := κ
  obtain ⟨hx, hb, hml, hown, hts, hK, hlk, hrt, hb0, hRf, hRl, hlf, hρ⟩ := X
  obtain ⟨hQ, ⟨hU, hN, hS0, hS1⟩, hRm, htab⟩ := Y
  subst hQ
  subst hRm
  subst hlf
  intro H locs lr ht hR hS hl
  obtain ⟨sa, hsa⟩ := hS0 _ hstr
  refine vx_throwS (mc := kc) (ms := ks) hx hb hst hown hcls hnames (hts _ hk) (hts _ hini) hsa (fun w hw => (hat w hw).elim (fun q => hts _ q) (fun q => hS1 w q args)) hgood hU hN hS hl.1 d0 d3 d4 d6 d9 (fun x h => (htab x h).elim) hfr hlo hc hs hlk (fun T hA hz hq => ⟨⟨G, M, hp _ (by rw [← ht]; exact hz), fun a e he => ?_⟩, ?_, fun q h1 h2 => ?_⟩) hS.2.2 hc hs
  · have h9 := hR a e he
    exact ⟨h9.1, h9.2.kept (hq a (vx_lt (k := 0) (mo_one h9.2) rfl))⟩
  · exact Nat.le_trans hS.1 hz
  · exact (hq q (Nat.lt_of_lt_of_le h1 hS.1)).trans (hS.2.1 q h1 h2)
theorem mo_thrSW {κ : mo_T} {lf : Launch} {ρf : mo_E} {cc : ByteArray} {nL : Nat} {ret : Option FieldType} {d kc ks k n pc : Nat} {ls : List (Option Value)} {st : List Value} {G : mo_G} {M : mo_M} {t : Nat} {post : Option Value → mo_G → mo_M → Nat → Prop} {postX : String → mo_G → mo_M → Nat → Prop} (X : mo_Cx κ lf ρf cc nL RX4 ret d) (Y : mo_Rx κ post postX d kc ks) (hst : lf.stackTraces = false) {cls text : String} {names : List String} {ik is ic : Nat}
    (hcls : Bundle.fit cls = true) (hnames : ∀ n ∈ names, Bundle.fit n = true) (hk : Cond.classLink RX4 ik cls ∈ mo_B) (hini : Cond.initialized cls ∈ mo_B) (hstr : (is, text) ∈ mo_strs) (hat : ∀ w ∈ vx_atS RX4 ic cls names, w ∈ mo_B ∨ w ∈ mo_bad)
    (hgood : ∀ w ∈ Cond.classLink RX4 ik cls :: Cond.initialized cls :: vx_atS RX4 ic cls names, vx_ot w = true)
    (d0 : decode cc pc = .ok (.new ik, 3)) (d3 : decode cc (pc + 3) = .ok (.dup, 1)) (d4 : decode cc (pc + 4) = .ok (.ldc_w is, 3)) (d6 : decode cc (pc + 7) = .ok (.invokespecial ic, 3)) (d9 : decode cc (pc + 10) = .ok (.athrow, 1))
    (hfr : names.length + 3 < d) (hlo : (st.map fun v => v.category).sum + (13 * (names.length + 1) + 43) ≤ 30 * d) (hc : k + 1 ≤ kc) (hs : n + 6 ≤ ks)
    (hp : ∀ t', t ≤ t' → postX cls G M t') : mo_V κ k n pc ls st G M t := by
  obtain ⟨⟨p, l, e, R, s⟩, ⟨m, args, below, meth, c⟩, Q, ρ⟩ := κ
  obtain ⟨hx, hb, hml, hown, hts, hK, hlk, hrt, hb0, hRf, hRl, hlf, hρ⟩ := X
  obtain ⟨hQ, ⟨hU, hN, hS0, hS1⟩, hRm, htab⟩ := Y
  subst hQ
  subst hRm
  subst hlf
  intro H locs lr ht hR hS hl
  obtain ⟨sa, hsa⟩ := hS0 _ hstr
  refine vx_throwSW (mc := kc) (ms := ks) hx hb hst hown hcls hnames (hts _ hk) (hts _ hini) hsa (fun w hw => (hat w hw).elim (fun q => hts _ q) (fun q => hS1 w q args)) hgood hU hN hS hl.1 d0 d3 d4 d6 d9 (fun x h => (htab x h).elim) hfr hlo hc hs hlk (fun T hA hz hq => ⟨⟨G, M, hp _ (by rw [← ht]; exact hz), fun a e he => ?_⟩, ?_, fun q h1 h2 => ?_⟩) hS.2.2 hc hs
  · have h9 := hR a e he
    exact ⟨h9.1, h9.2.kept (hq a (vx_lt (k := 0) (mo_one h9.2) rfl))⟩
  · exact Nat.le_trans hS.1 hz
  · exact (hq q (Nat.lt_of_lt_of_le h1 hS.1)).trans (hS.2.1 q h1 h2)
theorem mo_atI : (vx_atS RX4 77 "java/lang/IndexOutOfBoundsException" mo_nm).all vx_ot = true := by decide +kernel
theorem mo_atA : (vx_atS RX4 52 "java/lang/IllegalArgumentException" mo_nm).all vx_ot = true := by decide +kernel
theorem mo_atT : (vx_atS RX4 62 "java/lang/IllegalStateException" mo_nm).all vx_ot = true := by decide +kernel
