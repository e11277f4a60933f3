/-! THE V LAYER, third half: calls of throwers, handlers, the law's helpers -/
def mo_cst (E : String) : Cond := .castable E E
theorem mo_cst_mv {A C : String} {u U : State} {a a' : Array Value} (hvm : u.vm.Alike U.vm) (h : (Cond.castable A C).before a u = true) : (Cond.castable A C).before a' U = true := by
  simp only [Cond.before, Cond.holds, Cond.value, hvm.findClass, hvm.assignable] at h ⊢
  exact h
theorem mo_dec_mv {y : MethodName} {u U : State} {a a' : Array Value} (hvm : u.vm.Alike U.vm) (h : (Cond.declares y).before a u = true) : (Cond.declares y).before a' U = true := by
  have h2 : (Cond.declares y).before a (u.setVm U.vm) = true := by
    have hm : U.vm.method? = u.vm.method? := funext hvm.method?
    simp only [Cond.before, Cond.holds, Cond.value, State.methodNamed?_setVm hvm, State.vm_setVm, hm] at h ⊢
    exact h
  exact va_tabs (u := u.setVm U.vm) rfl rfl h2
def mo_bk : Cond → Bool
  | .castable _ _ => true
  | .declares _ => true
  | _ => false
theorem mo_bad_k : mo_bad.all mo_bk = true := by decide +kernel
theorem mo_bad_mv {w : Cond} (hw : w ∈ mo_bad) {u U : State} {a a' : Array Value} (hvm : u.vm.Alike U.vm) (h : w.before a u = true) : w.before a' U = true := by
  have hb := List.all_eq_true.mp mo_bad_k w hw
  clear hw
  cases w
  all_goals first
    | exact mo_cst_mv hvm h
    | exact mo_dec_mv hvm h
    | (exfalso; exact absurd hb (by simp [mo_bk]))
theorem mo_bad_m : mo_cst mo_IOE ∈ mo_bad ∧ mo_cst mo_IAE ∈ mo_bad ∧ mo_cst mo_ISE ∈ mo_bad := by decide +kernel
theorem mo_Ks_mv {u U : State} (hW : u.WarmedH U.vm) (h : mo_Ks u) : mo_Ks U := by
  refine ⟨fun q hq => ?_, fun w hw a => ?_⟩
  · obtain ⟨sa, h1⟩ := h.1 q hq
    exact ⟨sa, vk_R.warm hW h1⟩
  · have h2 := h.2 w hw
    exact mo_bad_mv hw hW.alike (h2 #[])
theorem mo_Ks_sm {u U : State} (hv : U.vm = u.vm) (h : mo_Ks u) : mo_Ks U := by
  refine ⟨fun q hq => ?_, fun w hw a => ?_⟩
  · obtain ⟨sa, h1⟩ := h.1 q hq
    exact ⟨sa, vk_R.same hv h1⟩
  · have h2 := h.2 w hw
    have hal : u.vm.Alike U.vm := by rw [hv]; exact Vm.Alike.refl u.vm
    exact mo_bad_mv hw hal (h2 #[])
def mo_Nx (U : State) : Prop := va_Nc mo_IAE mo_IOE U ∧ va_Nc mo_ISE mo_IOE U ∧ va_Nc mo_ISE mo_IAE U
theorem mo_Nx_mv {u U : State} (h : u.vm.Alike U.vm) (hN : mo_Nx u) : mo_Nx U := ⟨va_Nc.moved h hN.1, va_Nc.moved h hN.2.1, va_Nc.moved h hN.2.2⟩
/-- what a state later in the run keeps of the start: heap below the base as it was -/
theorem mo_Kx_mv {ρ : mo_E} {u U : State} (hW : u.WarmedH U.vm) (hh : ∀ a : Nat, a < u.heap.size → ¬ mo_fr ρ a → U.heap[a]? = u.heap[a]?) (h : mo_Kx ρ u) : mo_Kx ρ U :=
  ⟨(vx_Zq.moved hW.alike h.1).kept hh, (vx_Zq.moved hW.alike h.2.1).kept hh, mo_Ks_mv hW h.2.2⟩
def mo_By (ρ : mo_E) (G : mo_G) (M : mo_M) (t : Nat) : State → Prop := fun U => mo_Bx ρ G M t U ∧ mo_Nx U
theorem mo_fbx (av : List Value) (ρ : mo_E) (G : mo_G) (M : mo_M) (t : Nat) : FrameBlind (va_Pc av (mo_Bx ρ G M t)) := fun a U g mk q => by
  obtain ⟨q0, ⟨q1, q2, q3, q4⟩, q5, q6, q7⟩ := q
  exact ⟨q0, ⟨q1, q2, va_K.moved (u := U) (U := U.calling g mk a) (Vm.Alike.refl U.vm) q3, q4⟩, vx_Zq.moved (u := U) (U := U.calling g mk a) (Vm.Alike.refl U.vm) q5, vx_Zq.moved (u := U) (U := U.calling g mk a) (Vm.Alike.refl U.vm) q6, mo_Ks_sm (u := U) (U := U.calling g mk a) rfl q7⟩
theorem mo_fby (av : List Value) (ρ : mo_E) (G : mo_G) (M : mo_M) (t : Nat) : FrameBlind (va_Pc av (mo_By ρ G M t)) := fun a U g mk q => by
  obtain ⟨q0, q1, q2⟩ := q
  exact ⟨q0, (mo_fbx av ρ G M t a U g mk ⟨q0, q1⟩).2, mo_Nx_mv (u := U) (U := U.calling g mk a) (Vm.Alike.refl U.vm) q2⟩
/-- a method with handlers, whose own words are told with its table -/
def mo_wsH (y : MethodName) (cc : ByteArray) (maxL : Nat) (ret : Option FieldType) (hh : List (Nat × Nat × Nat × Nat)) : List Cond := Cond.codeWith y cc maxL ret hh :: mo_B
def mo_CtH (l : Launch) (ρ : mo_E) (y : MethodName) (cc : ByteArray) (maxL : Nat) (ret : Option FieldType) (hh : List (Nat × Nat × Nat × Nat)) (d kc ks : Nat) (av : List Value) (G : mo_G) (M : mo_M) (t : Nat) (post : Option Value → mo_G → mo_M → Nat → Prop) : Prop :=
  Met l y (mo_wsH y cc maxL ret hh) (mo_rm d kc ks) (va_Pc av (mo_By ρ G M t)) (mo_Qc ρ post) kc ks (mo_fr ρ)
def mo_Hx (κ : mo_T) (hh : List (Nat × Nat × Nat × Nat)) : Prop := match κ with
  | ((_, _, _, _, s), (_, _, _, _, c), _, ρ) => mo_Kx ρ s ∧ mo_Nx s ∧ c.exceptionTable.toList = tableOf hh
theorem mo_ofWH {l : Launch} {ρ : mo_E} {y : MethodName} {cc : ByteArray} {maxL d kc ks : Nat} {ret : Option FieldType} {hh : List (Nat × Nat × Nat × Nat)} {av : List Value} {G : mo_G} {M : mo_M} {t : Nat} {post : Option Value → mo_G → mo_M → Nat → Prop} {ls0 : List (Option Value)}
    (hy : plainName y.cls = true) (hls : mo_en 0 ls0 = lv_args 0 av) (hlen : (lg_sl av).length ≤ maxL)
    (body : ∀ κ : mo_T, mo_Cx κ l ρ cc maxL y.cls ret d → mo_Rt κ post kc ks → mo_Hx κ hh → κ.1.2.2.2.1 = mo_rm d kc ks → mo_V κ 0 0 0 ls0 [] G M t) : mo_CtH l ρ y cc maxL ret hh d kc ks av G M t post := by
  unfold mo_CtH
  refine MetFree.of_bodyS (code := cc) (maxLocals := maxL) (ret := ret) hy ?_ ?_
  · intro args s m h hn
    obtain ⟨m9, meth, c, hn9, h1, h2, h3, h4, -, h5, h6, -⟩ := Cond.codeWith_spec (atoms_spec (ws := mo_wsH y cc maxL ret hh) h _ List.mem_cons_self)
    cases hn.symm.trans hn9
    exact ⟨meth, c, h1, h2, h3, h4, h5, h6⟩
  · intro p e s m args below meth c s₁ B hml hP _
    obtain ⟨rfl, ⟨⟨hsz, hR, hK, hb0⟩, hKx⟩, hN⟩ := hP
    have hh0 : s₁.heap = s.heap := by rw [B.state]; rfl
    have hts := atoms_spec (ws := mo_wsH y cc maxL ret hh) B.pre
    have htab := vx_table (x := y) B (hts _ List.mem_cons_self)
    have hl := lv_entry av (n := maxL) hlen
    have hW : W p l e (mo_rm d kc ks) s m av.toArray below meth c s.heap [] 0 0 (MQ below (mo_Qc ρ post) av.toArray s kc ks (mo_fr ρ)) (entryFrame m av.toArray maxL) := by
      rw [lg_entry_eq]
      refine body ((p, l, e, mo_rm d kc ks, s), (m, av.toArray, below, meth, c), MQ below (mo_Qc ρ post) av.toArray s kc ks (mo_fr ρ), ρ) ⟨B.exec, B.bytes, hml, findClass_of_methodNamed B.named, fun w h => hts w (List.mem_cons_of_mem _ h), hK, B.notSynchronized, B.returns, by rw [hsz]; exact hb0, Nat.le_refl _, Nat.le_refl _, rfl, rfl⟩ rfl ⟨hKx, hN, htab⟩ rfl s.heap [] _ hsz hR va_S.rf ?_
      rw [hls, hml]
      exact hl
    obtain ⟨t2, a1, o, b1, b2, b3⟩ := hW s₁ hh0 (Stand.of_body B)
    exact ⟨t2, o, a1, b1, b2, b3⟩
/-- a thrown one on its way, at the call's place -/
def mo_VX (κ : mo_T) (k n pc : Nat) (ls : List (Option Value)) (st : List Value) (E : String) (G : mo_G) (M : mo_M) (t : Nat) : Prop := match κ with
  | ((p, l, e, R, s), (m, args, below, meth, c), Q, ρ) => ∀ (H : Heap) (locs : List Loc) (lr : Array Slot) (q : Nat) (ce : Cell), H.size = t → mo_R ρ G M H → va_S (fun q => ρ.2.2 ≤ q) s.heap H locs → lv_has lr c.maxLocals (mo_en 0 ls) → H[q]? = some ce → ce.vm = .none → s.vm.findClass E = some ce.cls → vx_W p l e R s m args below meth c H locs k n Q (F0 m pc lr st) q
section MOX
variable {κ : mo_T} {lf : Launch} {ρf : mo_E} {cc : ByteArray} {nL : Nat} {own : String} {ret : Option FieldType} {d k n pc : Nat} {ls : List (Option Value)} {st : List Value} {G : mo_G} {M : mo_M} {t : Nat} {hh : List (Nat × Nat × Nat × Nat)}
theorem mo_callVx (X : mo_Cx κ lf ρf cc nL own ret d) (Z : mo_Hx κ hh) {y : MethodName} {bytes : ByteArray} {maxL d' kc ks b ci N index : Nat} {ret' : Option FieldType} {As rest : List Value} {C : String} {T : u_T} {post : Option Value → mo_G → mo_M → Nat → Prop} {postX : String → mo_G → mo_M → Nat → Prop} (hL : mo_LkV own index C y bytes maxL ret') (hy : mo_dV y C As.length) (hcl : vwCl[ci]? = some (C, T, N)) (hd : decode cc pc = .ok (.invokevirtual index, 3)) (hC : mo_Cv lf ρf y bytes maxL ret' d' kc ks (.ref b :: As) G M t post postX) (hG : G.1 b = some (.inl ci)) (hst : st = As.reverse ++ .ref b :: rest) (hdd : d' + 1 ≤ d) (hmx : maxL ≤ 11) (hsum : (rest.map fun v => v.category).sum ≤ 8) (hroom : mo_Rm κ (k + kc) (n + ks)) (kk : ∀ v G' M' t', post v G' M' t' → mo_V κ (k + kc) (n + ks) (pc + 3) ls (v.toList ++ rest) G' M' t') (kx : ∀ E G' M' t', postX E G' M' t' → mo_VX κ (k + kc) (n + ks) pc ls rest E G' M' t') : mo_V κ k n pc ls st G M t := by
  obtain ⟨⟨p, l, e, R, s⟩, ⟨m, args, below, meth, c⟩, Q, ρ⟩ := κ
  obtain ⟨hx, hb, hml, hown, hts, hK, hlk, hrt, hb0, hRf, hRl, hlf, hρ⟩ := X
  obtain ⟨hKx, hN, htab⟩ := Z
  subst hlf
  subst hρ
  intro H locs lr ht hR hS hl
  have hPc := mo_one (hR b _ hG).2
  have hr := vx_runV (As := As) (rest := rest) (g := F0 m pc lr st) (H := H) (locs := locs) (cells := k) (slots := n) (p := p) (l := l) (e := e) (R := R) (below := below) (meth := meth) (c := c) (b := b) (C := C) ⟨hx, hb, hml, hown, hts⟩ hC (cwV As.length hts (mo_gwV hL) rfl rfl rfl hy ⟨Nat.le_trans hdd hRf, by show 8 + (maxL + 11) + 30 * d' ≤ R.locals; omega⟩) ⟨mo_fbx _ _ _ _ _, va_recv hK hPc (ci := ci) (q0 := 0) hcl rfl, fun U hU hW => ⟨rfl, ⟨by rw [hU]; exact ht, by rw [hU]; exact hR, va_K.moved hW.alike hK, by rw [← ht]; exact Nat.le_trans hb0 hS.1⟩, mo_Kx_mv hW (fun a h1 h2 => by rw [hU]; exact hS.2.1 a h1 h2) hKx⟩⟩ rfl rfl (hl.1.trans hml) hst (lv_room hsum) hd hroom
  intro T hT XT
  rcases hr T hT XT with ⟨v, st₀, t1, T', L, h0, X', hL1, e1, e2, ⟨⟨v', G', M', hv, hp, hR'⟩, hz, hk⟩, stp⟩ | ⟨q, st₀, t1, T', L, E, ce, h0, X', hL1, e1, e2, ⟨⟨G', M', hp, hR'⟩, hz, hk⟩, hce, hcv, hcl2, stp⟩
  · obtain rfl : v = v' := Outcome.returned.inj hv
    rw [h0] at hz hk
    have hS' : va_S (fun q => ρ.2.2 ≤ q) s.heap T'.heap (locs ++ L) := by
      refine ⟨Nat.le_trans hS.1 (by rw [e1]; exact hz), fun q h1 h2 => ?_, fun q hq => ?_⟩
      · rw [e1, hk q (Nat.lt_of_lt_of_le h1 hS.1) h2]
        exact hS.2.1 q h1 h2
      · rcases List.mem_append.mp hq with h | h
        · exact hS.2.2 q h
        · exact hL1 q h
    obtain ⟨t2, a1, b1⟩ := kk v G' M' t1.heap.size hp T'.heap (locs ++ L) lr (by rw [e1]) (by rw [e1]; exact hR') hS' hl T' rfl X'
    exact ⟨t2, stp t2 a1, b1⟩
  · rw [h0] at hz hk
    have hS' : va_S (fun q => ρ.2.2 ≤ q) s.heap T'.heap (locs ++ L) := by
      refine ⟨Nat.le_trans hS.1 (by rw [e1]; exact hz), fun q h1 h2 => ?_, fun q hq => ?_⟩
      · rw [e1, hk q (Nat.lt_of_lt_of_le h1 hS.1) h2]
        exact hS.2.1 q h1 h2
      · rcases List.mem_append.mp hq with h | h
        · exact hS.2.2 q h
        · exact hL1 q h
    obtain ⟨t2, a1, b1⟩ := kx E G' M' t1.heap.size hp T'.heap (locs ++ L) lr q ce (by rw [e1]) (by rw [e1]; exact hR') hS' hl (by rw [e1]; exact hce) hcv hcl2 T' rfl X'
    exact ⟨t2, stp.trans a1, b1⟩
/-- caught by a row of the table, past rows that name other classes -/
theorem mo_catch (X : mo_Cx κ lf ρf cc nL own ret d) (Z : mo_Hx κ hh) {E : String} (pre : List ExceptionTableEntry) (x : ExceptionTableEntry) (suf : List ExceptionTableEntry) (hsplit : tableOf hh = pre ++ x :: suf)
    (hpass : ∀ z ∈ pre, z.catchType ≠ 0 ∧ ∃ nm : String, Cond.classLink own z.catchType nm ∈ mo_B ∧ ∀ U : State, mo_Nx U → va_Nc E nm U) (hx : covers x pc = true) (h0 : x.catchType ≠ 0) (hlink : Cond.classLink own x.catchType E ∈ mo_B) (hcast : mo_cst E ∈ mo_bad)
    (kk : ∀ q : Nat, mo_V κ k n x.handlerPc ls [.ref q] G M t) : mo_VX κ k n pc ls st E G M t := by
  obtain ⟨⟨p, l, e, R, s⟩, ⟨m, args, below, meth, c⟩, Q, ρ⟩ := κ
  obtain ⟨hx2, hb, hml, hown, hts, hK, hlk, hrt, hb0, hRf, hRl, hlf, hρ⟩ := X
  obtain ⟨hKx, hN, htab⟩ := Z
  intro H locs lr q ce ht hR hS hl hce hcv hcl
  refine vx_catch (own := own) (name := E) hown pre x suf (htab.trans hsplit) (fun z hz => ?_) hx h0 (hts _ hlink) (hKx.2.2.2 _ hcast _) hce hcv hcl (kk q H locs lr ht hR hS hl)
  obtain ⟨g1, nm, g2, g3⟩ := hpass z hz
  exact Or.inr ⟨g1, nm, hts _ g2, g3 s hN⟩
/-- a static call of a method with handlers -/
theorem mo_callSH (X : mo_Cx κ lf ρf cc nL own ret d) (Z : mo_Hx κ hh) {y : MethodName} {bytes : ByteArray} {maxL d' kc ks index : Nat} {ret' : Option FieldType} {hh' : List (Nat × Nat × Nat × Nat)} {As rest : List Value} {post : Option Value → mo_G → mo_M → Nat → Prop} (h1 : Cond.methodLink own index y ∈ mo_B) (h2 : Cond.static y ∈ mo_B) (h3 : Cond.initialized y.cls ∈ mo_B) (h5 : Cond.codeWith y bytes maxL ret' hh' ∈ mo_B) (hy : y.cls ≠ "java/lang/invoke/MethodHandle" ∧ y.cls ≠ "java/lang/invoke/VarHandle" ∧ (parseMethodDescriptor y.desc).map (fun d => d.parameters.length) = some As.length) (hd : decode cc pc = .ok (.invokestatic index, 3)) (hC : mo_CtH lf ρf y bytes maxL ret' hh' d' kc ks As G M t post) (hst : st = As.reverse ++ rest) (hdd : d' + 1 ≤ d) (hmx : maxL ≤ 11) (hsum : (rest.map fun v => v.category).sum ≤ 8) (hroom : mo_Rm κ (k + kc) (n + ks)) (kk : ∀ v G' M' t', post v G' M' t' → mo_V κ (k + kc) (n + ks) (pc + 3) ls (v.toList ++ rest) G' M' t') : mo_V κ k n pc ls st G M t := by
  obtain ⟨⟨p, l, e, R, s⟩, ⟨m, args, below, meth, c⟩, Q, ρ⟩ := κ
  obtain ⟨hx, hb, hml, hown, hts, hK, hlk, hrt, hb0, hRf, hRl, hlf, hρ⟩ := X
  obtain ⟨hKx, hN, htab⟩ := Z
  subst hlf
  subst hρ
  intro H locs lr ht hR hS hl
  have hgw : GoodIn mo_B (va_wsS own index y (mo_wsH y bytes maxL ret' hh')) := fun w hw => by
    rcases List.mem_append.mp hw with e | e
    · simp only [List.mem_cons, List.not_mem_nil, or_false] at e
      rcases e with rfl | rfl | rfl
      · exact ⟨h1, mo_gd h1⟩
      · exact ⟨h2, mo_gd h2⟩
      · exact ⟨h3, mo_gd h3⟩
    · rcases List.mem_cons.mp e with e | e
      · rw [e]; exact ⟨h5, mo_gd h5⟩
      · exact ⟨e, mo_gd e⟩
  refine mo_back (vx_runSW (As := As) (rest := rest) ⟨hx, hb, hml, hown, hts⟩ hC (vx_cwSW As.length hts hgw rfl rfl rfl hy ⟨Nat.le_trans hdd hRf, by show 8 + (maxL + 11) + 30 * d' ≤ R.locals; omega⟩) ⟨mo_fby _ _ _ _ _, fun U hU hW => ⟨rfl, ⟨⟨by rw [hU]; exact ht, by rw [hU]; exact hR, va_K.moved hW.alike hK, by rw [← ht]; exact Nat.le_trans hb0 hS.1⟩, mo_Kx_mv hW (fun a h1 h2 => by rw [hU]; exact hS.2.1 a h1 h2) hKx⟩, mo_Nx_mv hW.alike hN⟩⟩ rfl rfl (hl.1.trans hml) hst (lv_room hsum) hd hroom) hS ?_
  intro v G' M' t' hp H' locs' hz hR' hS'
  exact kk v G' M' t' hp H' locs' lr hz hR' hS' hl
end MOX
