def mo_strs : List (Nat × String) := [(50, "hours or venues is out of range"), (60, "there are 8 orders"), (75, "no such order"), (82, "week or hours is out of range"), (91, "venues is out of range"), (110, "slots or limit is out of range"), (115, "there are 6 escorts"), (123, "no such escort"), (125, "slots is out of range"), (130, "rooms is out of range"), (135, "there are 5 venues"), (143, "no such order, escort or venue"), (151, "week or slot is out of range"), (157, "the meeting cannot be planned"), (162, "week is out of range"), (167, "the week is before the present one"), (176, "no such meeting is kept"), (181, "the meeting is not planned"), (190, "the meeting is not planned, or not in the present week"), (205, "the present week is 19"), (225, "what is out of range"), (236, "no such venue"), (273, "value is out of range"), (278, "the text has 100 bytes"), (305, "there is no saved state")]
def mo_nm : List String := ["java/lang/RuntimeException", "java/lang/Exception"]
/-- the words of a throw that are not good ones; they speak of tables alone -/
def mo_bad : List Cond := (vx_atS RX4 77 "java/lang/IndexOutOfBoundsException" mo_nm ++ (vx_atS RX4 52 "java/lang/IllegalArgumentException" mo_nm ++ vx_atS RX4 62 "java/lang/IllegalStateException" mo_nm)).filter (fun w => !goodWord w)
def mo_Ks (U : State) : Prop := (∀ q ∈ mo_strs, ∃ sa, vk_R RX4 q.1 q.2 sa U) ∧ ∀ w ∈ mo_bad, ∀ a, w.before a U = true
def mo_Ry (κ : mo_T) (post : Option Value → mo_G → mo_M → Nat → Prop) (postX : String → mo_G → mo_M → Nat → Prop) (d kc ks : Nat) : Prop := mo_Rx κ post postX d kc ks ∧ mo_Ks κ.1.2.2.2.2
theorem mo_thrS {κ : mo_T} {lf : Launch} {ρf : mo_E} {cc : ByteArray} {nL : Nat} {ret : Option FieldType} {d kc ks k n pc : Nat} {ls : List (Option Value)} {st : List Value} {G : mo_G} {M : mo_M} {t : Nat} {post : Option Value → mo_G → mo_M → Nat → Prop} {postX : String → mo_G → mo_M → Nat → Prop} (X : mo_Cx κ lf ρf cc nL RX4 ret d) (Y : mo_Ry κ post postX d kc ks) (hst : lf.stackTraces = false) {cls text : String} {names : List String} {ik is ic : Nat}
    (hcls : Bundle.fit cls = true) (hnames : ∀ n ∈ names, Bundle.fit n = true) (hk : Cond.classLink RX4 ik cls ∈ mo_B) (hini : Cond.initialized cls ∈ mo_B) (hstr : (is, text) ∈ mo_strs) (hat : ∀ w ∈ vx_atS RX4 ic cls names, w ∈ mo_B ∨ w ∈ mo_bad)
    (hgood : ∀ w ∈ Cond.classLink RX4 ik cls :: Cond.initialized cls :: vx_atS RX4 ic cls names, vx_ot w = true)
    (d0 : decode cc pc = .ok (.new ik, 3)) (d3 : decode cc (pc + 3) = .ok (.dup, 1)) (d4 : decode cc (pc + 4) = .ok (.ldc is, 2)) (d6 : decode cc (pc + 6) = .ok (.invokespecial ic, 3)) (d9 : decode cc (pc + 9) = .ok (.athrow, 1))
    (hfr : names.length + 3 < d) (hlo : (st.map fun v => v.category).sum + (13 * (names.length + 1) + 43) ≤ 30 * d) (hc : k + 1 ≤ kc) (hs : n + 6 ≤ ks)
    (hp : ∀ t', t ≤ t' → postX cls G M t') : mo_V κ k n pc ls st G M t := by
  obtain ⟨⟨p, l, e, R, s⟩, ⟨m, args, below, meth, c⟩, Q, ρ⟩ := κ
  obtain ⟨hx, hb, hml, hown, hts, hK, hlk, hrt, hb0, hRf, hRl, hlf, hρ⟩ := X
  obtain ⟨⟨hQ, ⟨hU, hN⟩, hRm, htab⟩, hS0, hS1⟩ := Y
  subst hQ
  subst hRm
  subst hlf
  intro H locs lr ht hR hS hl
  obtain ⟨sa, hsa⟩ := hS0 _ hstr
  refine vx_throwS (mc := kc) (ms := ks) hx hb hst hown hcls hnames (hts _ hk) (hts _ hini) hsa (fun w hw => (hat w hw).elim (fun q => hts _ q) (fun q => hS1 w q args)) hgood hU hN hS hl.1 d0 d3 d4 d6 d9 (fun x h => (htab x h).elim) hfr hlo hc hs hlk (fun T hA hz hq => ⟨⟨G, M, hp _ (by rw [← ht]; exact hz), fun a e he => ?_⟩, ?_, fun q h1 h2 => ?_⟩) hS.2.2 hc hs
  · have h9 := hR a e he
    exact ⟨h9.1, h9.2.kept (hq a (vx_lt (k := 0) (mo_one h9.2) rfl))⟩
  · exact Nat.le_trans hS.1 hz
  · exact (hq q (Nat.lt_of_lt_of_le h1 hS.1)).trans (hS.2.1 q h1 h2)
theorem mo_thrSW {κ : mo_T} {lf : Launch} {ρf : mo_E} {cc : ByteArray} {nL : Nat} {ret : Option FieldType} {d kc ks k n pc : Nat} {ls : List (Option Value)} {st : List Value} {G : mo_G} {M : mo_M} {t : Nat} {post : Option Value → mo_G → mo_M → Nat → Prop} {postX : String → mo_G → mo_M → Nat → Prop} (X : mo_Cx κ lf ρf cc nL RX4 ret d) (Y : mo_Ry κ post postX d kc ks) (hst : lf.stackTraces = false) {cls text : String} {names : List String} {ik is ic : Nat}
    (hcls : Bundle.fit cls = true) (hnames : ∀ n ∈ names, Bundle.fit n = true) (hk : Cond.classLink RX4 ik cls ∈ mo_B) (hini : Cond.initialized cls ∈ mo_B) (hstr : (is, text) ∈ mo_strs) (hat : ∀ w ∈ vx_atS RX4 ic cls names, w ∈ mo_B ∨ w ∈ mo_bad)
    (hgood : ∀ w ∈ Cond.classLink RX4 ik cls :: Cond.initialized cls :: vx_atS RX4 ic cls names, vx_ot w = true)
    (d0 : decode cc pc = .ok (.new ik, 3)) (d3 : decode cc (pc + 3) = .ok (.dup, 1)) (d4 : decode cc (pc + 4) = .ok (.ldc_w is, 3)) (d6 : decode cc (pc + 7) = .ok (.invokespecial ic, 3)) (d9 : decode cc (pc + 10) = .ok (.athrow, 1))
    (hfr : names.length + 3 < d) (hlo : (st.map fun v => v.category).sum + (13 * (names.length + 1) + 43) ≤ 30 * d) (hc : k + 1 ≤ kc) (hs : n + 6 ≤ ks)
    (hp : ∀ t', t ≤ t' → postX cls G M t') : mo_V κ k n pc ls st G M t := by
  obtain ⟨⟨p, l, e, R, s⟩, ⟨m, args, below, meth, c⟩, Q, ρ⟩ := κ
  obtain ⟨hx, hb, hml, hown, hts, hK, hlk, hrt, hb0, hRf, hRl, hlf, hρ⟩ := X
  obtain ⟨⟨hQ, ⟨hU, hN⟩, hRm, htab⟩, hS0, hS1⟩ := Y
  subst hQ
  subst hRm
  subst hlf
  intro H locs lr ht hR hS hl
  obtain ⟨sa, hsa⟩ := hS0 _ hstr
  refine vx_throwSW (mc := kc) (ms := ks) hx hb hst hown hcls hnames (hts _ hk) (hts _ hini) hsa (fun w hw => (hat w hw).elim (fun q => hts _ q) (fun q => hS1 w q args)) hgood hU hN hS hl.1 d0 d3 d4 d6 d9 (fun x h => (htab x h).elim) hfr hlo hc hs hlk (fun T hA hz hq => ⟨⟨G, M, hp _ (by rw [← ht]; exact hz), fun a e he => ?_⟩, ?_, fun q h1 h2 => ?_⟩) hS.2.2 hc hs
  · have h9 := hR a e he
    exact ⟨h9.1, h9.2.kept (hq a (vx_lt (k := 0) (mo_one h9.2) rfl))⟩
  · exact Nat.le_trans hS.1 hz
  · exact (hq q (Nat.lt_of_lt_of_le h1 hS.1)).trans (hS.2.1 q h1 h2)
theorem mo_atI : (vx_atS RX4 77 "java/lang/IndexOutOfBoundsException" mo_nm).all vx_ot = true := by decide +kernel
theorem mo_atA : (vx_atS RX4 52 "java/lang/IllegalArgumentException" mo_nm).all vx_ot = true := by decide +kernel
theorem mo_atT : (vx_atS RX4 62 "java/lang/IllegalStateException" mo_nm).all vx_ot = true := by decide +kernel
