/-! making: new objects and arrays, constructors -/
def mo_gnw (G : mo_G) (t : Nat) (e : mo_Kd) : mo_G := (fun b => if b = t then some e else G.1 b, fun b => if b = t then fun _ => none else G.2 b)
theorem mo_gnw_1 (G : mo_G) (t : Nat) (e : mo_Kd) : (mo_gnw G t e).1 t = some e := by simp [mo_gnw]
theorem mo_gnw_1n {G : mo_G} {t b : Nat} {e : mo_Kd} (h : b ≠ t) : (mo_gnw G t e).1 b = G.1 b := by simp [mo_gnw, h]
theorem mo_gnw_2 (G : mo_G) (t : Nat) (e : mo_Kd) : (mo_gnw G t e).2 t = fun _ => none := by simp [mo_gnw]
theorem mo_gnw_2n {G : mo_G} {t b : Nat} {e : mo_Kd} (h : b ≠ t) : (mo_gnw G t e).2 b = G.2 b := by simp [mo_gnw, h]
theorem mo_el_cg (ρ : mo_E) {G G' : mo_G} {M M' : mo_M} {b : Nat} (h1 : G'.2 b = G.2 b) (h2 : M' b = M b) (e : mo_Kd) : mo_el ρ G' M' b e = mo_el ρ G M b e := by
  have hf : mo_fs G' M' b = mo_fs G M b := by
    funext ci
    unfold mo_fs
    congr 1
    funext k
    unfold mo_fv
    rw [h1, h2]
  rcases e with ci | ⟨t, n⟩
  · show Sum.inr _ = Sum.inr _
    rw [hf]
  · match t with
    | 0 => show Sum.inl _ = Sum.inl _; rw [h2]
    | 1 => show Sum.inl _ = Sum.inl _; rw [h2]
    | t + 2 => show Sum.inl _ = Sum.inl _; rw [h1]
theorem mo_R_new {ρ : mo_E} {G : mo_G} {M : mo_M} {H H1 : Heap} {e : mo_Kd} (hR : mo_R ρ G M H) (hb : ρ.2.2 ≤ H.size) (h1 : va_at ρ.1 vwCl (H.size, mo_el ρ (mo_gnw G H.size e) (mo_ur M H.size (fun _ => 0)) H.size e) H1) (h2 : ∀ q, q < H.size → H1[q]? = H[q]?) : mo_R ρ (mo_gnw G H.size e) (mo_ur M H.size (fun _ => 0)) H1 := by
  intro b e' hbb
  by_cases hba : b = H.size
  · subst hba
    rw [mo_gnw_1] at hbb
    cases hbb
    exact ⟨hb, h1⟩
  · rw [mo_gnw_1n hba] at hbb
    have h3 := hR b e' hbb
    have hlt : b < H.size := h3.2.lt
    refine ⟨h3.1, ?_⟩
    rw [mo_el_cg ρ (mo_gnw_2n hba) (mo_ur_n hba)]
    exact h3.2.kept (h2 b hlt)
def mo_nR (κ : mo_T) (nm : String) (R0 : Room) : Prop := match κ with
  | ((_, _, _, R, _), (_, _, _, meth, _), _, _) => meth.name = nm ∧ R = R0
def mo_N3 (U : State) : Prop := va_Nw (.methodLinkNest RX4 11 yX2_init RX4) U ∧ va_Nw (.methodLinkNest RX4 25 yX3_init RX4) U ∧ va_Nw (.methodLinkNest RX4 32 yX0_init RX4) U ∧ va_AO RX2 U
theorem mo_N3_mv {u U : State} (hW : u.WarmedH U.vm) (h : mo_N3 u) : mo_N3 U := ⟨va_Nw.warmM hW h.1, va_Nw.warmM hW h.2.1, va_Nw.warmM hW h.2.2.1, va_AO.moved hW.alike h.2.2.2⟩
def mo_B3 (ρ : mo_E) (G : mo_G) (M : mo_M) (t : Nat) : State → Prop := fun U => mo_Bc ρ G M t U ∧ mo_N3 U
theorem mo_fb3 (av : List Value) (ρ : mo_E) (G : mo_G) (M : mo_M) (t : Nat) : FrameBlind (va_Pc av (mo_B3 ρ G M t)) := fun a U g mk q => by
  obtain ⟨q0, q1, q2, q3, q4, q5⟩ := q
  exact ⟨q0, (mo_fb av ρ G M t a U g mk ⟨q0, q1⟩).2, va_Nw.same rfl (u := U) (U := U.calling g mk a) rfl q2, va_Nw.same rfl (u := U) (U := U.calling g mk a) rfl q3, va_Nw.same rfl (u := U) (U := U.calling g mk a) rfl q4, va_AO.moved (u := U) (U := U.calling g mk a) (Vm.Alike.refl U.vm) q5⟩
def mo_CtN (l : Launch) (ρ : mo_E) (y : MethodName) (cc : ByteArray) (maxL : Nat) (ret : Option FieldType) (d kc ks : Nat) (av : List Value) (G : mo_G) (M : mo_M) (t : Nat) (post : Option Value → mo_G → mo_M → Nat → Prop) : Prop :=
  Met l y (mo_ws y cc maxL ret) (mo_rm d kc ks) (va_Pc av (mo_B3 ρ G M t)) (mo_Qc ρ post) kc ks (mo_fr ρ)
theorem mo_ofWC {l : Launch} {ρ : mo_E} {y : MethodName} {cc : ByteArray} {maxL d kc ks : Nat} {ret : Option FieldType} {av : List Value} {G : mo_G} {M : mo_M} {t : Nat} {post : Option Value → mo_G → mo_M → Nat → Prop} {ls0 : List (Option Value)}
    (hy : plainName y.cls = true) (hls : mo_en 0 ls0 = lv_args 0 av) (hlen : (lg_sl av).length ≤ maxL)
    (body : ∀ κ : mo_T, mo_Cx κ l ρ cc maxL y.cls ret d → mo_Rt κ post kc ks → mo_nR κ y.name (mo_rm d kc ks) → mo_V κ 0 0 0 ls0 [] G M t) : mo_Ct l ρ y cc maxL ret d kc ks av G M t post := by
  refine Met.ofW (cc := cc) (maxL := maxL) (ret := ret) hy rfl ?_
  intro p e s m args below meth c s₁ B hml hv
  obtain ⟨rfl, hsz, hR, hK, hb0⟩ := hv
  have hl := lv_entry av (n := maxL) hlen
  rw [lg_entry_eq]
  have hts := atoms_spec (ws := mo_ws y cc maxL ret) B.pre
  refine body ((p, l, e, mo_rm d kc ks, s), (m, av.toArray, below, meth, c), MQ below (mo_Qc ρ post) av.toArray s kc ks (mo_fr ρ), ρ) ⟨B.exec, B.bytes, hml, findClass_of_methodNamed B.named, fun w h => hts w (List.mem_cons_of_mem _ h), hK, B.notSynchronized, B.returns, by rw [hsz]; exact hb0, Nat.le_refl _, Nat.le_refl _, rfl, rfl⟩ rfl ⟨(name_of_methodNamed B.named B.method).1, rfl⟩ s.heap [] _ hsz hR va_S.rf ?_
  rw [hls, hml]
  exact hl
theorem mo_ofWN {l : Launch} {ρ : mo_E} {y : MethodName} {cc : ByteArray} {maxL d kc ks : Nat} {ret : Option FieldType} {av : List Value} {G : mo_G} {M : mo_M} {t : Nat} {post : Option Value → mo_G → mo_M → Nat → Prop} {ls0 : List (Option Value)}
    (hy : plainName y.cls = true) (hls : mo_en 0 ls0 = lv_args 0 av) (hlen : (lg_sl av).length ≤ maxL)
    (body : ∀ κ : mo_T, mo_Cx κ l ρ cc maxL y.cls ret d → mo_Rt κ post kc ks → mo_nR κ y.name (mo_rm d kc ks) → mo_N3 κ.1.2.2.2.2 → mo_V κ 0 0 0 ls0 [] G M t) : mo_CtN l ρ y cc maxL ret d kc ks av G M t post := by
  refine Met.ofW (cc := cc) (maxL := maxL) (ret := ret) hy rfl ?_
  intro p e s m args below meth c s₁ B hml hv
  obtain ⟨rfl, ⟨hsz, hR, hK, hb0⟩, h3⟩ := hv
  have hl := lv_entry av (n := maxL) hlen
  rw [lg_entry_eq]
  have hts := atoms_spec (ws := mo_ws y cc maxL ret) B.pre
  refine body ((p, l, e, mo_rm d kc ks, s), (m, av.toArray, below, meth, c), MQ below (mo_Qc ρ post) av.toArray s kc ks (mo_fr ρ), ρ) ⟨B.exec, B.bytes, hml, findClass_of_methodNamed B.named, fun w h => hts w (List.mem_cons_of_mem _ h), hK, B.notSynchronized, B.returns, by rw [hsz]; exact hb0, Nat.le_refl _, Nat.le_refl _, rfl, rfl⟩ rfl ⟨(name_of_methodNamed B.named B.method).1, rfl⟩ h3 s.heap [] _ hsz hR va_S.rf ?_
  rw [hls, hml]
  exact hl
def mo_dv (ci j : Nat) : Value := match mo_fk ci j with
  | 0 => mo_iv 0
  | 1 => mo_jv 0
  | _ => .null
section MON
variable {κ : mo_T} {lf : Launch} {ρf : mo_E} {cc : ByteArray} {nL : Nat} {own : String} {ret : Option FieldType} {d k n pc : Nat} {ls : List (Option Value)} {st : List Value} {G : mo_G} {M : mo_M} {t : Nat}
theorem mo_new (X : mo_Cx κ lf ρf cc nL own ret d) {C : String} {T : u_T} {N ci index : Nat} {ty0 : Nat → FieldType} (hin : ∀ w ∈ u_ws C T N, w ∈ mo_B) (hty0 : ∀ k, k < N → parseFieldDescriptor (T k).2.2.1 = some (ty0 k)) (hc : vwCl[ci]? = some (C, T, N)) (hcl : Cond.classLink own index C ∈ mo_B) (hinst : Cond.instantiable C N ∈ mo_B) (hini : Cond.initialized C ∈ mo_B) (hN : N = mo_fn ci) (hdef : ∀ j, j < N → defaultValue (ty0 j) = mo_dv ci j) (hroom : mo_Rm κ (k + 1) (n + N)) (hd : decode cc pc = .ok (.new index, 3)) (kk : mo_V κ (k + 1) (n + N) (pc + 3) ls (.ref t :: st) (mo_gnw G t (.inl ci)) (mo_ur M t (fun _ => 0)) (t + 1)) : mo_V κ k n pc ls st G M t := by
  obtain ⟨⟨p, l, e, R, s⟩, ⟨m, args, below, meth, c⟩, Q, ρ⟩ := κ
  obtain ⟨hx, hb, hml, hown, hts, hK, hlk, hrt, hb0, hRf, hRl, hlf, hρ⟩ := X
  intro H locs lr ht hR hS hl
  subst ht
  have hKn := hK.1 ci _ hc
  refine W.newcK hx hb hown (hts _ hcl) (hts _ hinst) (hts _ hini) rfl hd hroom.1 hroom.2 hKn.2.1 rfl fun H1 kC hkC e1 z1 o1 => ?_
  refine kk H1 locs lr z1 (mo_R_new hR (Nat.le_trans hb0 hS.1) ?_ o1) ⟨Nat.le_trans hS.1 (by omega), fun x h1 h2 => (o1 x (Nat.lt_of_lt_of_le h1 hS.1)).trans (hS.2.1 x h1 h2), hS.2.2⟩ hl
  refine ⟨_, hc, (u_born ty0 hts hin hKn hkC e1 hty0).to (fun j hj => ?_)⟩
  rw [hdef j hj]
  unfold vp_V
  have h2 := mo_fs_at (mo_gnw G H.size (.inl ci)) (mo_ur M H.size (fun _ => 0)) H.size ci (k := j) (by rw [← hN]; exact hj)
  show _ = List.getD _ j Value.null
  rw [List.getD_eq_getElem?_getD, h2]
  show mo_dv ci j = mo_fv _ _ _ _ _
  unfold mo_dv mo_fv
  rw [mo_gnw_2, mo_ur_s]
  rfl
theorem mo_newI (X : mo_Cx κ lf ρf cc nL own ret d) {N : Nat} (hN : (N : Int) ≤ 100000) (hroom : mo_Rm κ (k + 1) (n + N)) (hd : decode cc pc = .ok (.newarray .int, 2)) (kk : mo_V κ (k + 1) (n + N) (pc + 2) ls (.ref t :: st) (mo_gnw G t (.inr (0, N))) (mo_ur M t (fun _ => 0)) (t + 1)) : mo_V κ k n pc ls (mo_iv N :: st) G M t := by
  obtain ⟨⟨p, l, e, R, s⟩, ⟨m, args, below, meth, c⟩, Q, ρ⟩ := κ
  obtain ⟨hx, hb, hml, hown, hts, hK, hlk, hrt, hb0, hRf, hRl, hlf, hρ⟩ := X
  intro H locs lr ht hR hS hl
  subst ht
  have hnn : ¬ Int32.ofInt (N : Int) < 0 := fun h => by
    rw [mo_0, mo_lt (by omega) (by omega)] at h
    omega
  refine va_newaK hx hb (hts _ (mo_tb1 38 rfl rfl)) (atype := .int) rfl hd rfl hnn (N := N) (by rw [mo_cl (by omega) (by omega)]; omega) (by show N * 4 ≤ _; omega) hroom.1 hroom.2 rfl fun H1 cA e1 z1 o1 hAr hNm => ?_
  have hcA : ρ.2.1.1 = cA := by
    have h9 : s.vm.findClass ("[" ++ FieldType.int.toString) = some ρ.2.1.1 := (hK.2 0 _ rfl).2
    exact Option.some.inj (h9.symm.trans hNm)
  refine kk H1 locs lr z1 (mo_R_new hR (Nat.le_trans hb0 hS.1) ?_ o1) ⟨Nat.le_trans hS.1 (by omega), fun x h1 h2 => (o1 x (Nat.lt_of_lt_of_le h1 hS.1)).trans (hS.2.1 x h1 h2), hS.2.2⟩ hl
  show H1[H.size]? = some (vp_cell _ _)
  rw [mo_ur_s, hcA]
  exact e1
theorem mo_newQ (X : mo_Cx κ lf ρf cc nL own ret d) (h3 : mo_N3 κ.1.2.2.2.2) {N index : Nat} (hcl : Cond.classLink own index RX2 ∈ mo_B) (hN : (N : Int) ≤ 100000) (hroom : mo_Rm κ (k + 1) (n + N)) (hd : decode cc pc = .ok (.anewarray index, 3)) (kk : mo_V κ (k + 1) (n + N) (pc + 3) ls (.ref t :: st) (mo_gnw G t (.inr (2, N))) (mo_ur M t (fun _ => 0)) (t + 1)) : mo_V κ k n pc ls (mo_iv N :: st) G M t := by
  obtain ⟨⟨p, l, e, R, s⟩, ⟨m, args, below, meth, c⟩, Q, ρ⟩ := κ
  obtain ⟨hx, hb, hml, hown, hts, hK, hlk, hrt, hb0, hRf, hRl, hlf, hρ⟩ := X
  intro H locs lr ht hR hS hl
  subst ht
  have hnn : ¬ Int32.ofInt (N : Int) < 0 := fun h => by
    rw [mo_0, mo_lt (by omega) (by omega)] at h
    omega
  have hNN : (Int32.ofInt (N : Int)).toNatClampNeg = N := by rw [mo_cl (by omega) (by omega)]; omega
  refine W.anew hx hb hown (hts _ hcl) (va_AO.use h3.2.2.2) rfl hd rfl hnn (by rw [hNN]; omega) hroom.1 (by rw [hNN]; exact hroom.2) fun cA kA comp f1 f2 f3 f4 => ?_
  rw [hNN]
  have hcA : ρ.2.1.2.2 = cA := by
    obtain ⟨kA9, comp9, -, -, -, h9⟩ : va_RA s ρ.2.1.2.2 (.object RX2) := (hK.2 2 _ rfl).2
    exact Option.some.inj (h9.symm.trans f1)
  generalize hH1 : H.push ({ cls := cA, slots := Array.replicate N .null, vm := .none } : Cell) = H1
  have z1 : H1.size = H.size + 1 := by rw [← hH1, Array.size_push]
  have e1 : H1[H.size]? = some (arrV cA N (fun _ => .null)) := by rw [← hH1, Array.getElem?_push_size, ← arrV_new]
  have o1 : ∀ q : Nat, q < H.size → H1[q]? = H[q]? := fun q hq => by rw [← hH1, Array.getElem?_push, if_neg (Nat.ne_of_lt hq)]
  refine kk H1 locs lr z1 (mo_R_new hR (Nat.le_trans hb0 hS.1) ?_ o1) ⟨Nat.le_trans hS.1 (by omega), fun x h1 h2 => (o1 x (Nat.lt_of_lt_of_le h1 hS.1)).trans (hS.2.1 x h1 h2), hS.2.2⟩ hl
  show H1[H.size]? = some (vp_cell _ (N, .inr (.inr (.inr (.inr (fun j => (mo_gnw G H.size (.inr (2, N))).2 H.size j))))))
  rw [vp_cell_q, mo_gnw_2, hcA]
  exact e1
theorem mo_pRF (X : mo_Cx κ lf ρf cc nL own ret d) {R0 : Room} (hnm : mo_nR κ "<init>" R0) {C : String} {T : u_T} {N ci j a index q : Nat} (hc : vwCl[ci]? = some (C, T, N)) (hin : ∀ w ∈ u_ws C T N, w ∈ mo_B) (hj : j < N) (hjn : j < mo_fn ci) (hlink : Cond.fieldLink own index (T j).1 (T j).2.1 (T j).2.2.1 ∈ mo_B) (hk : mo_fk ci j = 2) (hd : decode cc pc = .ok (.putfield index, 3)) (hG : G.1 a = some (.inl ci)) {ty0 : Nat → FieldType} (hty0 : ∀ k, k < N → parseFieldDescriptor (T k).2.2.1 = some (ty0 k)) (hnm2 : ∀ a, a < N → ∀ b, b < N → a ≠ b → (T a).2.1 ≠ (T b).2.1) (hfin : (T j).2.2.2 = true) (hdecl : (T j).1 = own) {ty : FieldType} (htj : parseFieldDescriptor (T j).2.2.1 = some ty) (hn : narrow ty (.ref q) = .ref q) (hfit : fits ty (.ref q) = true) (kk : mo_V κ k n (pc + 3) ls st (mo_gp G a j (some q)) M t) : mo_V κ k n pc ls (.ref q :: .ref a :: st) G M t := by
  obtain ⟨⟨p, l, e, R, s⟩, ⟨m, args, below, meth, c⟩, Q, ρ⟩ := κ
  obtain ⟨hx, hb, hml, hown, hts, hK, hlk, hrt, hb0, hRf, hRl, hlf, hρ⟩ := X
  obtain ⟨hin2, -⟩ := hnm
  intro H locs lr ht hR hS hl
  have hap := va_apart (own := own) hts hin ty0 hty0 hnm2 hK hc
  obtain ⟨r, h1, cell, q1, q2, q3, q4⟩ := (hR a _ hG).2
  have hr : r = (C, T, N) := Option.some.inj (h1.symm.trans hc)
  subst hr
  obtain ⟨hS1, hfc, kC, hkC, hkind⟩ := hK.1 ci _ hc
  obtain ⟨cf, kf, fi, f, hi, hsl⟩ := hS1 j hj
  have hlay := hts _ (hin _ (u_in_lay hj))
  unfold u_lay at hlay
  rw [if_pos hfin] at hlay
  have hst := (u_facts hfc hkC (u_lays hts hin hj) hi).1
  have hcf : m.cls = cf := by
    obtain ⟨_, _, c', _, _, _, -, -, hf', -, -, -, hown2, -⟩ := Cond.laysFinal_spec hlay
    have e1 : c' = cf := by have := hi.symm.trans hf'; simp at this; exact this.1.symm
    rw [hdecl] at hown2
    rw [← e1]; exact Option.some.inj (hown.symm.trans hown2)
  have h6 := u_fits hfc hkC hkind (Or.inr hlay) hi htj hn hfit
  refine W.putFinK hx hb hown (hts _ hlink) hi hst hcf hin2 (by rw [q2]; exact h6) q1 q3 (by rw [hsl]; exact k2_hasslot (q4 j hj)) rfl rfl hd fun H' e1 e2 e3 => ?_
  rw [hsl] at e1 ⊢
  refine kk H' _ lr (by rw [e2]; exact ht) (mo_R_gp hR hG ⟨_, hc, ?_⟩ e3) (hS.put e2 e3 (hR a _ hG).1) hl
  refine t_OB.to (V := updV (vp_V (mo_fs G M a ci)) j (.ref q)) ⟨_, e1, q2, q3, t_set q4 hap hj _⟩ (fun i _ => ?_)
  rw [vp_updV_set (by rw [mo_fs_len]; exact hjn)]
  rw [mo_fs_set G (mo_gp G a j (some q)) M M a ci j _ ?_ ?_]
  · unfold mo_fv
    rw [hk, mo_gp_s, mo_up_s]
    rfl
  · intro i hij
    unfold mo_fv
    rw [mo_gp_s, mo_up_n hij]
theorem mo_objI (X : mo_Cx κ lf ρf cc nL own ret d) {idx a : Nat} (hlink : Cond.methodLink own idx objectInit ∈ mo_B) (hd : decode cc pc = .ok (.invokespecial idx, 3)) (hdd : 1 ≤ d) (hsum : (st.map fun v => v.category).sum ≤ 8) (kk : mo_V κ k n (pc + 3) ls st G M t) : mo_V κ k n pc ls (.ref a :: st) G M t := by
  obtain ⟨⟨p, l, e, R, s⟩, ⟨m, args, below, meth, c⟩, Q, ρ⟩ := κ
  obtain ⟨hx, hb, hml, hown, hts, hK, hlk, hrt, hb0, hRf, hRl, hlf, hρ⟩ := X
  intro H locs lr ht hR hS hl
  exact W.objInit hx hb hown (hts _ hlink) (hts _ (by decide +kernel)) (hts _ (by decide +kernel)) rfl hl.1 rfl hd (Nat.le_trans hdd hRf) (by show 2 * 0 + _ + 12 ≤ _; omega) (kk H locs lr ht hR hS hl)
theorem mo_callIN (X : mo_Cx κ lf ρf cc nL own ret d) {y : MethodName} {bytes : ByteArray} {maxL d' kc ks b index : Nat} {host : String} {As rest : List Value} {post : Option Value → mo_G → mo_M → Nat → Prop} (hnw : va_Nw (.methodLinkNest own index y host) κ.1.2.2.2.2) (hcd : Cond.code y bytes maxL none ∈ mo_B) (hini : Cond.initialized y.cls ∈ mo_B) (hins : Cond.instanceMethod y ∈ mo_B) (hy1 : y.name = "<init>") (hy : y.cls ≠ "java/lang/invoke/MethodHandle" ∧ y.cls ≠ "java/lang/invoke/VarHandle" ∧ (parseMethodDescriptor y.desc).map (fun d => d.parameters.length) = some As.length) (hd : decode cc pc = .ok (.invokespecial index, 3)) (hC : mo_Ct lf ρf y bytes maxL none d' kc ks (.ref b :: As) G M t post) (hst : st = As.reverse ++ .ref b :: rest) (hdd : d' + 1 ≤ d) (hmx : maxL ≤ 11) (hsum : (rest.map fun v => v.category).sum ≤ 8) (hroom : mo_Rm κ (k + kc) (n + ks)) (kk : ∀ v G' M' t', post v G' M' t' → mo_V κ (k + kc) (n + ks) (pc + 3) ls (v.toList ++ rest) G' M' t') : mo_V κ k n pc ls st G M t := by
  obtain ⟨⟨p, l, e, R, s⟩, ⟨m, args, below, meth, c⟩, Q, ρ⟩ := κ
  obtain ⟨hx, hb, hml, hown, hts, hK, hlk, hrt, hb0, hRf, hRl, hlf, hρ⟩ := X
  subst hlf
  subst hρ
  intro H locs lr ht hR hS hl
  refine mo_back (va_runIN (As := As) (rest := rest) ⟨hx, hb, hml, hown, hts⟩ hC ⟨va_cnB As.length hts (mo_gw hcd) rfl rfl rfl hnw (hts _ hini) hy ⟨Nat.le_trans hdd hRf, by show 8 + (maxL + 11) + 30 * d' ≤ R.locals; omega⟩, hy1, hts _ hins⟩ ⟨mo_fb _ _ _ _ _, fun U hU hW => ⟨rfl, by rw [hU]; exact ht, by rw [hU]; exact hR, va_K.moved hW.alike hK, by rw [← ht]; exact Nat.le_trans hb0 hS.1⟩⟩ rfl rfl (hl.1.trans hml) hst (lv_room hsum) hd hroom) hS ?_
  intro v G' M' t' hp H' locs' hz hR' hS'
  exact kk v G' M' t' hp H' locs' lr hz hR' hS' hl
/-- a constructor that asks for the nest's words -/
theorem mo_callI3 (X : mo_Cx κ lf ρf cc nL own ret d) (h3 : mo_N3 κ.1.2.2.2.2) {y : MethodName} {bytes : ByteArray} {maxL d' kc ks b index : Nat} {As rest : List Value} {post : Option Value → mo_G → mo_M → Nat → Prop} (hL : mo_LkI own index y bytes maxL) (hy1 : y.name = "<init>") (hy : y.cls ≠ "java/lang/invoke/MethodHandle" ∧ y.cls ≠ "java/lang/invoke/VarHandle" ∧ (parseMethodDescriptor y.desc).map (fun d => d.parameters.length) = some As.length) (hd : decode cc pc = .ok (.invokespecial index, 3)) (hC : mo_CtN lf ρf y bytes maxL none d' kc ks (.ref b :: As) G M t post) (hst : st = As.reverse ++ .ref b :: rest) (hdd : d' + 1 ≤ d) (hmx : maxL ≤ 11) (hsum : (rest.map fun v => v.category).sum ≤ 8) (hroom : mo_Rm κ (k + kc) (n + ks)) (kk : ∀ v G' M' t', post v G' M' t' → mo_V κ (k + kc) (n + ks) (pc + 3) ls (v.toList ++ rest) G' M' t') : mo_V κ k n pc ls st G M t := by
  obtain ⟨⟨p, l, e, R, s⟩, ⟨m, args, below, meth, c⟩, Q, ρ⟩ := κ
  obtain ⟨hx, hb, hml, hown, hts, hK, hlk, hrt, hb0, hRf, hRl, hlf, hρ⟩ := X
  subst hlf
  subst hρ
  intro H locs lr ht hR hS hl
  refine mo_back (va_runI (As := As) (rest := rest) ⟨hx, hb, hml, hown, hts⟩ hC (cwI As.length hts (mo_gw hL.2.2.2) rfl rfl rfl (hts _ hL.2.2.1) (hts _ hL.1) (hts _ hL.2.1) hy1 hy ⟨Nat.le_trans hdd hRf, by show 8 + (maxL + 11) + 30 * d' ≤ R.locals; omega⟩) ⟨mo_fb3 _ _ _ _ _, fun U hU hW => ⟨rfl, ⟨by rw [hU]; exact ht, by rw [hU]; exact hR, va_K.moved hW.alike hK, by rw [← ht]; exact Nat.le_trans hb0 hS.1⟩, mo_N3_mv hW h3⟩⟩ rfl rfl (hl.1.trans hml) hst (lv_room hsum) hd hroom) hS ?_
  intro v G' M' t' hp H' locs' hz hR' hS'
  exact kk v G' M' t' hp H' locs' lr hz hR' hS' hl
end MON
