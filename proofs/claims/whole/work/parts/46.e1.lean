def mo_strs : List (Nat × String) := [(50, "hours or venues is out of range"), (60, "there are 8 orders"), (75, "no such order"), (82, "week or hours is out of range"), (91, "venues is out of range"), (110, "slots or limit is out of range"), (115, "there are 6 escorts"), (123, "no such escort"), (125, "slots is out of range"), (130, "rooms is out of range"), (135, "there are 5 venues"), (143, "no such order, escort or venue"), (151, "week or slot is out of range"), (157, "the meeting cannot be planned"), (162, "week is out of range"), (167, "the week is before the present one"), (176, "no such meeting is kept"), (181, "the meeting is not planned"), (190, "the meeting is not planned, or not in the present week"), (205, "the present week is 19"), (225, "what is out of range"), (236, "no such venue"), (273, "value is out of range"), (278, "the text has 100 bytes"), (305, "there is no saved state")]
def mo_nm : List String := ["java/lang/RuntimeException", "java/lang/Exception"]
/-- the words of a throw that are not good ones; they speak of tables alone -/
def mo_bad : List Cond := (vx_atS RX4 77 "java/lang/IndexOutOfBoundsException" mo_nm ++ (vx_atS RX4 52 "java/lang/IllegalArgumentException" mo_nm ++ vx_atS RX4 62 "java/lang/IllegalStateException" mo_nm)).filter (fun w => !goodWord w)
def mo_Ks (U : State) : Prop := (∀ q ∈ mo_strs, ∃ sa, vk_R RX4 q.1 q.2 sa U) ∧ ∀ w ∈ mo_bad, ∀ a, w.before a U = true
/-! methods that throw: a contract with two ends -/
def mo_Kx (ρ : mo_E) (U : State) : Prop := vx_Zq Bundle.tN "UNASSIGNED_STACK" Bundle.steD (mo_fr ρ) U U.heap ∧ vx_Zq Bundle.tN "SUPPRESSED_SENTINEL" Bundle.listD (mo_fr ρ) U U.heap ∧ mo_Ks U
def mo_Bx (ρ : mo_E) (G : mo_G) (M : mo_M) (t : Nat) : State → Prop := fun U => mo_Bc ρ G M t U ∧ mo_Kx ρ U
def mo_XC (ρ : mo_E) (postX : String → mo_G → mo_M → Nat → Prop) : String → State → State → Prop := fun E st u => (∃ (G : mo_G) (M : mo_M), postX E G M u.heap.size ∧ mo_R ρ G M u.heap) ∧ va_F (fun q => ρ.2.2 ≤ q) st u
def mo_Cv (l : Launch) (ρ : mo_E) (y : MethodName) (cc : ByteArray) (maxL : Nat) (ret : Option FieldType) (d kc ks : Nat) (av : List Value) (G : mo_G) (M : mo_M) (t : Nat) (post : Option Value → mo_G → mo_M → Nat → Prop) (postX : String → mo_G → mo_M → Nat → Prop) : Prop :=
  vx_Met l y (mo_ws y cc maxL ret) (mo_rm d kc ks) (va_Pc av (mo_Bx ρ G M t)) (mo_Qc ρ post) (mo_XC ρ postX) kc ks (mo_fr ρ)
/-- the end of a thrower's walk -/
def mo_Rx (κ : mo_T) (post : Option Value → mo_G → mo_M → Nat → Prop) (postX : String → mo_G → mo_M → Nat → Prop) (d kc ks : Nat) : Prop := match κ with
  | ((_, _, _, R, s), (_, args, below, _, c), Q, ρ) => Q = vx_MQ below (mo_Qc ρ post) (mo_XC ρ postX) args s kc ks (mo_fr ρ) ∧ mo_Kx ρ s ∧ R = mo_rm d kc ks ∧ ∀ x ∈ c.exceptionTable.toList, False
theorem mo_ofWX {l : Launch} {ρ : mo_E} {y : MethodName} {cc : ByteArray} {maxL d kc ks : Nat} {ret : Option FieldType} {av : List Value} {G : mo_G} {M : mo_M} {t : Nat} {post : Option Value → mo_G → mo_M → Nat → Prop} {postX : String → mo_G → mo_M → Nat → Prop} {ls0 : List (Option Value)}
    (hy : plainName y.cls = true) (hls : mo_en 0 ls0 = lv_args 0 av) (hlen : (lg_sl av).length ≤ maxL)
    (body : ∀ κ : mo_T, mo_Cx κ l ρ cc maxL y.cls ret d → mo_Rx κ post postX d kc ks → mo_V κ 0 0 0 ls0 [] G M t) : mo_Cv l ρ y cc maxL ret d kc ks av G M t post postX := by
  refine vx_ofW (cc := cc) (maxL := maxL) (ret := ret) hy rfl ?_
  intro p e s m args below meth c s₁ B hml htab hv
  obtain ⟨rfl, ⟨hsz, hR, hK, hb0⟩, hX⟩ := hv
  have hl := lv_entry av (n := maxL) hlen
  rw [lg_entry_eq]
  have hts := atoms_spec (ws := mo_ws y cc maxL ret) B.pre
  refine body ((p, l, e, mo_rm d kc ks, s), (m, av.toArray, below, meth, c), vx_MQ below (mo_Qc ρ post) (mo_XC ρ postX) av.toArray s kc ks (mo_fr ρ), ρ) ⟨B.exec, B.bytes, hml, findClass_of_methodNamed B.named, fun w h => hts w (List.mem_cons_of_mem _ h), hK, B.notSynchronized, B.returns, by rw [hsz]; exact hb0, Nat.le_refl _, Nat.le_refl _, rfl, rfl⟩ ⟨rfl, hX, rfl, htab⟩ s.heap [] _ hsz hR va_S.rf ?_
  rw [hls, hml]
  exact hl
/-- from here on nothing is thrown: the rest is an ordinary walk -/
theorem mo_toN {κ : mo_T} {lf : Launch} {ρf : mo_E} {cc : ByteArray} {nL : Nat} {own : String} {ret : Option FieldType} {d d2 kc ks k n pc : Nat} {ls : List (Option Value)} {st : List Value} {G : mo_G} {M : mo_M} {t : Nat} {post : Option Value → mo_G → mo_M → Nat → Prop} {postX : String → mo_G → mo_M → Nat → Prop} (X : mo_Cx κ lf ρf cc nL own ret d) (Y : mo_Rx κ post postX d2 kc ks) (h : ∀ κ2 : mo_T, mo_Cx κ2 lf ρf cc nL own ret d → mo_Rt κ2 post kc ks → mo_V κ2 k n pc ls st G M t) : mo_V κ k n pc ls st G M t := by
  obtain ⟨⟨p, l, e, R, s⟩, ⟨m, args, below, meth, c⟩, Q, ρ⟩ := κ
  obtain ⟨hQ, -, -, -⟩ := Y
  subst hQ
  intro H locs lr ht hR hS hl
  exact vx_ret (h ((p, l, e, R, s), (m, args, below, meth, c), MQ below (mo_Qc ρ post) args s kc ks (mo_fr ρ), ρ) X rfl H locs lr ht hR hS hl)
