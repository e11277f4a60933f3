/-! THE V LAYER, second half: fields, arrays, calls, ends -/
theorem mo_tb1 {w : Cond} (i : Nat) (h : tables_1_1[i]? = some w) (g : goodWord w = true) : w ∈ mo_B := List.mem_filter.mpr ⟨List.mem_append_right _ (show w ∈ tables_1_1 ++ (tables_1_2 ++ tables_1_3) from List.mem_append_left _ (List.mem_of_getElem? h)), g⟩
theorem mo_tb2 {w : Cond} (i : Nat) (h : tables_1_2[i]? = some w) (g : goodWord w = true) : w ∈ mo_B := List.mem_filter.mpr ⟨List.mem_append_right _ (show w ∈ tables_1_1 ++ (tables_1_2 ++ tables_1_3) from List.mem_append_right _ (List.mem_append_left _ (List.mem_of_getElem? h))), g⟩
theorem mo_tb3 {w : Cond} (i : Nat) (h : tables_1_3[i]? = some w) (g : goodWord w = true) : w ∈ mo_B := List.mem_filter.mpr ⟨List.mem_append_right _ (show w ∈ tables_1_1 ++ (tables_1_2 ++ tables_1_3) from List.mem_append_right _ (List.mem_append_right _ (List.mem_of_getElem? h))), g⟩
theorem mo_pv1 {y : MethodName} {w : Cond} {nn : Nat} (i : Nat) (h : lw_privs_1[i]? = some (y, nn)) (g : Cond.selects y.cls y y = w) : w ∈ mo_B := by
  have h1 : (y, nn) ∈ lw_privs := show (y, nn) ∈ lw_privs_1 from List.mem_of_getElem? h
  refine List.mem_filter.mpr ⟨List.mem_append_left _ (List.mem_map.mpr ⟨(y, nn), h1, g⟩), ?_⟩
  rw [← g]
  rfl
theorem mo_wsys : Cond.initialized "java/lang/System" ∈ mo_B := mo_tb1 12 rfl rfl
theorem mo_gd {w : Cond} (h : w ∈ mo_B) : (w.onTables && w.keeps) = true ∨ ∃ ty, w = .arrayClass ty := good_of_word (List.mem_filter.mp h).2
def mo_LkV (own : String) (index : Nat) (C : String) (y : MethodName) (bytes : ByteArray) (maxL : Nat) (ret : Option FieldType) : Prop := Cond.methodLink own index y ∈ mo_B ∧ Cond.instanceMethod y ∈ mo_B ∧ Cond.selects C y y ∈ mo_B ∧ Cond.initialized C ∈ mo_B ∧ Cond.code y bytes maxL ret ∈ mo_B
def mo_LkS (own : String) (index : Nat) (y : MethodName) (bytes : ByteArray) (maxL : Nat) (ret : Option FieldType) : Prop := Cond.methodLink own index y ∈ mo_B ∧ Cond.static y ∈ mo_B ∧ Cond.initialized y.cls ∈ mo_B ∧ Cond.code y bytes maxL ret ∈ mo_B
def mo_LkI (own : String) (index : Nat) (y : MethodName) (bytes : ByteArray) (maxL : Nat) : Prop := Cond.methodLink own index y ∈ mo_B ∧ Cond.instanceMethod y ∈ mo_B ∧ Cond.initialized y.cls ∈ mo_B ∧ Cond.code y bytes maxL none ∈ mo_B
theorem mo_gw {y : MethodName} {cc : ByteArray} {maxL : Nat} {ret : Option FieldType} (h : Cond.code y cc maxL ret ∈ mo_B) : GoodIn mo_B (mo_ws y cc maxL ret) := fun w hw => by
  rcases List.mem_cons.mp hw with e | e
  · rw [e]; exact ⟨h, mo_gd h⟩
  · exact ⟨e, mo_gd e⟩
theorem mo_gwV {own : String} {index : Nat} {C : String} {y : MethodName} {cc : ByteArray} {maxL : Nat} {ret : Option FieldType} (h : mo_LkV own index C y cc maxL ret) : GoodIn mo_B (wsV own index C y (mo_ws y cc maxL ret)) := fun w hw => by
  obtain ⟨h1, h2, h3, h4, h5⟩ := h
  rcases List.mem_append.mp hw with e | e
  · simp only [List.mem_cons, List.not_mem_nil, or_false] at e
    rcases e with rfl | rfl | rfl | rfl
    · exact ⟨h1, mo_gd h1⟩
    · exact ⟨h2, mo_gd h2⟩
    · exact ⟨h3, mo_gd h3⟩
    · exact ⟨h4, mo_gd h4⟩
  · exact mo_gw h5 w e
theorem mo_gwS {own : String} {index : Nat} {y : MethodName} {cc : ByteArray} {maxL : Nat} {ret : Option FieldType} (h : mo_LkS own index y cc maxL ret) : GoodIn mo_B (va_wsS own index y (mo_ws y cc maxL ret)) := fun w hw => by
  obtain ⟨h1, h2, h3, h5⟩ := h
  rcases List.mem_append.mp hw with e | e
  · simp only [List.mem_cons, List.not_mem_nil, or_false] at e
    rcases e with rfl | rfl | rfl
    · exact ⟨h1, mo_gd h1⟩
    · exact ⟨h2, mo_gd h2⟩
    · exact ⟨h3, mo_gd h3⟩
  · exact mo_gw h5 w e
theorem mo_fb (av : List Value) (ρ : mo_E) (G : mo_G) (M : mo_M) (t : Nat) : FrameBlind (va_Pc av (mo_Bc ρ G M t)) := fun a U g mk q => by
  obtain ⟨q0, q1, q2, q3, q4⟩ := q
  exact ⟨q0, q1, q2, va_K.moved (u := U) (U := U.calling g mk a) (Vm.Alike.refl U.vm) q3, q4⟩
theorem mo_back {p : Program} {l : Launch} {e : Env} {R : Room} {s : State} {m : MethodId} {args : Array Value} {below : List Frame} {meth : Method} {c : Code} {H : Heap} {locs : List Loc} {k n kc ks pc : Nat} {lr : Array Slot} {st0 rest : List Value} {ρ : mo_E} {post : Option Value → mo_G → mo_M → Nat → Prop} {av : Array Value} {Q : State → Prop}
    (hr : va_Run p l e R s m args below meth c H locs k n kc ks (F0 m pc lr st0) rest (mo_Qc ρ post av) (mo_fr ρ)) (hS : va_S (fun q => ρ.2.2 ≤ q) s.heap H locs)
    (kk : ∀ (v : Option Value) (G' : mo_G) (M' : mo_M) (t' : Nat), post v G' M' t' → ∀ (H' : Heap) (locs' : List Loc), H'.size = t' → mo_R ρ G' M' H' → va_S (fun q => ρ.2.2 ≤ q) s.heap H' locs' → W p l e R s m args below meth c H' locs' (k + kc) (n + ks) Q (F0 m (pc + 3) lr (v.toList ++ rest))) : W p l e R s m args below meth c H locs k n Q (F0 m pc lr st0) := by
  intro T hT X
  obtain ⟨v, st₀, t, T', L, h0, X', hL, e1, e2, ⟨⟨v', G', M', hv, hp, hR'⟩, hz, hk⟩, st⟩ := hr T hT X
  obtain rfl : v = v' := Outcome.returned.inj hv
  rw [h0] at hz hk
  have hS' : va_S (fun q => ρ.2.2 ≤ q) s.heap T'.heap (locs ++ L) := by
    refine ⟨Nat.le_trans hS.1 (by rw [e1]; exact hz), fun q h1 h2 => ?_, fun q hq => ?_⟩
    · rw [e1, hk q (Nat.lt_of_lt_of_le h1 hS.1) h2]
      exact hS.2.1 q h1 h2
    · rcases List.mem_append.mp hq with h | h
      · exact hS.2.2 q h
      · exact hL q h
  obtain ⟨t2, a1, b1⟩ := kk v G' M' t.heap.size hp T'.heap (locs ++ L) (by rw [e1]) (by rw [e1]; exact hR') hS' T' rfl X'
  exact ⟨t2, st t2 a1, b1⟩
def mo_Rm (κ : mo_T) (a b : Nat) : Prop := a ≤ κ.1.2.2.2.1.cells ∧ b ≤ κ.1.2.2.2.1.slots
def mo_dV (y : MethodName) (C : String) (n : Nat) : Prop := y.cls = C ∧ y.cls ≠ "java/lang/invoke/MethodHandle" ∧ y.cls ≠ "java/lang/invoke/VarHandle" ∧ (parseMethodDescriptor y.desc).map (fun d => d.parameters.length) = some n
section MOS
variable {κ : mo_T} {lf : Launch} {ρf : mo_E} {cc : ByteArray} {nL : Nat} {own : String} {ret : Option FieldType} {d k n pc : Nat} {ls : List (Option Value)} {st : List Value} {G : mo_G} {M : mo_M} {t : Nat}
theorem mo_gI (X : mo_Cx κ lf ρf cc nL own ret d) {C : String} {T : u_T} {N ci j a index : Nat} (hc : vwCl[ci]? = some (C, T, N)) (hin : ∀ w ∈ u_ws C T N, w ∈ mo_B) (hj : j < N) (hjn : j < mo_fn ci) (hlink : Cond.fieldLink own index (T j).1 (T j).2.1 (T j).2.2.1 ∈ mo_B) (hk : mo_fk ci j = 0) (hd : decode cc pc = .ok (.getfield index, 3)) (hG : G.1 a = some (.inl ci))  (kk : mo_V κ k n (pc + 3) ls (mo_iv (M a j) :: st) G M t) : mo_V κ k n pc ls (.ref a :: st) G M t := by
  obtain ⟨⟨p, l, e, R, s⟩, ⟨m, args, below, meth, c⟩, Q, ρ⟩ := κ
  obtain ⟨hx, hb, hml, hown, hts, hK, hlk, hrt, hb0, hRf, hRl, hlf, hρ⟩ := X
  intro H locs lr ht hR hS hl
  have hv : (mo_fs G M a ci)[j]? = some (mo_iv (M a j)) := by
    rw [mo_fs_at G M a ci hjn]
    unfold mo_fv
    rw [hk]
    rfl
  exact va_get (D := ρ.1) (tys := mo_tys ρ) (cl := vwCl) hx hb hts hin hown hK (mo_one (hR a _ hG).2) 0 rfl hc j hj (hts _ hlink) (fun _ h => h) hv hd (kk H locs lr ht hR hS hl)
theorem mo_gJ (X : mo_Cx κ lf ρf cc nL own ret d) {C : String} {T : u_T} {N ci j a index : Nat} (hc : vwCl[ci]? = some (C, T, N)) (hin : ∀ w ∈ u_ws C T N, w ∈ mo_B) (hj : j < N) (hjn : j < mo_fn ci) (hlink : Cond.fieldLink own index (T j).1 (T j).2.1 (T j).2.2.1 ∈ mo_B) (hk : mo_fk ci j = 1) (hd : decode cc pc = .ok (.getfield index, 3)) (hG : G.1 a = some (.inl ci))  (kk : mo_V κ k n (pc + 3) ls (mo_jv (M a j) :: st) G M t) : mo_V κ k n pc ls (.ref a :: st) G M t := by
  obtain ⟨⟨p, l, e, R, s⟩, ⟨m, args, below, meth, c⟩, Q, ρ⟩ := κ
  obtain ⟨hx, hb, hml, hown, hts, hK, hlk, hrt, hb0, hRf, hRl, hlf, hρ⟩ := X
  intro H locs lr ht hR hS hl
  have hv : (mo_fs G M a ci)[j]? = some (mo_jv (M a j)) := by
    rw [mo_fs_at G M a ci hjn]
    unfold mo_fv
    rw [hk]
    rfl
  exact va_get (D := ρ.1) (tys := mo_tys ρ) (cl := vwCl) hx hb hts hin hown hK (mo_one (hR a _ hG).2) 0 rfl hc j hj (hts _ hlink) (fun _ h => h) hv hd (kk H locs lr ht hR hS hl)
theorem mo_gR (X : mo_Cx κ lf ρf cc nL own ret d) {C : String} {T : u_T} {N ci j a index : Nat} (hc : vwCl[ci]? = some (C, T, N)) (hin : ∀ w ∈ u_ws C T N, w ∈ mo_B) (hj : j < N) (hjn : j < mo_fn ci) (hlink : Cond.fieldLink own index (T j).1 (T j).2.1 (T j).2.2.1 ∈ mo_B) (hk : mo_fk ci j = 2) (hd : decode cc pc = .ok (.getfield index, 3)) (hG : G.1 a = some (.inl ci)) {q : Nat} (hp : G.2 a j = some q) (kk : mo_V κ k n (pc + 3) ls (.ref q :: st) G M t) : mo_V κ k n pc ls (.ref a :: st) G M t := by
  obtain ⟨⟨p, l, e, R, s⟩, ⟨m, args, below, meth, c⟩, Q, ρ⟩ := κ
  obtain ⟨hx, hb, hml, hown, hts, hK, hlk, hrt, hb0, hRf, hRl, hlf, hρ⟩ := X
  intro H locs lr ht hR hS hl
  have hv : (mo_fs G M a ci)[j]? = some (.ref q) := by
    rw [mo_fs_at G M a ci hjn]
    unfold mo_fv
    rw [hk]
    show some (va_rf _) = _
    rw [hp]
    rfl
  exact va_get (D := ρ.1) (tys := mo_tys ρ) (cl := vwCl) hx hb hts hin hown hK (mo_one (hR a _ hG).2) 0 rfl hc j hj (hts _ hlink) (fun _ h => h) hv hd (kk H locs lr ht hR hS hl)
theorem mo_pI (X : mo_Cx κ lf ρf cc nL own ret d) {C : String} {T : u_T} {N ci j a index : Nat} (hc : vwCl[ci]? = some (C, T, N)) (hin : ∀ w ∈ u_ws C T N, w ∈ mo_B) (hj : j < N) (hjn : j < mo_fn ci) (hlink : Cond.fieldLink own index (T j).1 (T j).2.1 (T j).2.2.1 ∈ mo_B) (hk : mo_fk ci j = 0) (hd : decode cc pc = .ok (.putfield index, 3)) (hG : G.1 a = some (.inl ci)) {ty0 : Nat → FieldType} (hty0 : ∀ k, k < N → parseFieldDescriptor (T k).2.2.1 = some (ty0 k)) (hnm : ∀ a, a < N → ∀ b, b < N → a ≠ b → (T a).2.1 ≠ (T b).2.1) (hfin : (T j).2.2.2 = false) (htj : parseFieldDescriptor (T j).2.2.1 = some .int) {x : Int} (kk : mo_V κ k n (pc + 3) ls st G (mo_ur M a (va_up (M a) j x)) t) : mo_V κ k n pc ls (mo_iv x :: .ref a :: st) G M t := by
  obtain ⟨⟨p, l, e, R, s⟩, ⟨m, args, below, meth, c⟩, Q, ρ⟩ := κ
  obtain ⟨hx, hb, hml, hown, hts, hK, hlk, hrt, hb0, hRf, hRl, hlf, hρ⟩ := X
  intro H locs lr ht hR hS hl
  have hap := va_apart (own := own) hts hin ty0 hty0 hnm hK hc
  obtain ⟨r, h1, cell, q1, q2, q3, q4⟩ := (hR a _ hG).2
  have hr : r = (C, T, N) := Option.some.inj (h1.symm.trans hc)
  subst hr
  obtain ⟨hS1, hfc, kC, hkC, hkind⟩ := hK.1 ci _ hc
  obtain ⟨cf, kf, fi, f, hi, hsl⟩ := hS1 j hj
  have hlay := hts _ (hin _ (u_in_lay hj))
  unfold u_lay at hlay
  rw [if_neg (by rw [hfin]; decide)] at hlay
  have hst := (u_facts hfc hkC (u_lays hts hin hj) hi).1
  have h6 := u_store hfc hkC hkind hlay hi htj (v := mo_iv x) rfl rfl
  refine W.putK hx hb (f := f) ⟨hown, hts _ hlink, ⟨_, _, _, hi⟩, hst⟩ (by rw [q2]; exact h6) q1 q3 (by rw [hsl]; exact k2_hasslot (q4 j hj)) rfl rfl hd fun H' e1 e2 e3 => ?_
  rw [hsl] at e1 ⊢
  refine kk H' _ lr (by rw [e2]; exact ht) (mo_R_set hR hG ⟨_, hc, ?_⟩ e3) (hS.put e2 e3 (hR a _ hG).1) hl
  refine t_OB.to (V := updV (vp_V (mo_fs G M a ci)) j (mo_iv x)) ⟨_, e1, q2, q3, t_set q4 hap hj _⟩ (fun i _ => ?_)
  rw [vp_updV_set (by rw [mo_fs_len]; exact hjn)]
  rw [mo_fs_set G G M (mo_ur M a (va_up (M a) j x)) a ci j _ ?_ ?_]
  · unfold mo_fv
    rw [hk, mo_ur_s, mo_up_s]
    rfl
  · intro i hij
    unfold mo_fv
    rw [mo_ur_s, mo_up_n hij]
theorem mo_pJ (X : mo_Cx κ lf ρf cc nL own ret d) {C : String} {T : u_T} {N ci j a index : Nat} (hc : vwCl[ci]? = some (C, T, N)) (hin : ∀ w ∈ u_ws C T N, w ∈ mo_B) (hj : j < N) (hjn : j < mo_fn ci) (hlink : Cond.fieldLink own index (T j).1 (T j).2.1 (T j).2.2.1 ∈ mo_B) (hk : mo_fk ci j = 1) (hd : decode cc pc = .ok (.putfield index, 3)) (hG : G.1 a = some (.inl ci)) {ty0 : Nat → FieldType} (hty0 : ∀ k, k < N → parseFieldDescriptor (T k).2.2.1 = some (ty0 k)) (hnm : ∀ a, a < N → ∀ b, b < N → a ≠ b → (T a).2.1 ≠ (T b).2.1) (hfin : (T j).2.2.2 = false) (htj : parseFieldDescriptor (T j).2.2.1 = some .long) {x : Int} (kk : mo_V κ k n (pc + 3) ls st G (mo_ur M a (va_up (M a) j x)) t) : mo_V κ k n pc ls (mo_jv x :: .ref a :: st) G M t := by
  obtain ⟨⟨p, l, e, R, s⟩, ⟨m, args, below, meth, c⟩, Q, ρ⟩ := κ
  obtain ⟨hx, hb, hml, hown, hts, hK, hlk, hrt, hb0, hRf, hRl, hlf, hρ⟩ := X
  intro H locs lr ht hR hS hl
  have hap := va_apart (own := own) hts hin ty0 hty0 hnm hK hc
  obtain ⟨r, h1, cell, q1, q2, q3, q4⟩ := (hR a _ hG).2
  have hr : r = (C, T, N) := Option.some.inj (h1.symm.trans hc)
  subst hr
  obtain ⟨hS1, hfc, kC, hkC, hkind⟩ := hK.1 ci _ hc
  obtain ⟨cf, kf, fi, f, hi, hsl⟩ := hS1 j hj
  have hlay := hts _ (hin _ (u_in_lay hj))
  unfold u_lay at hlay
  rw [if_neg (by rw [hfin]; decide)] at hlay
  have hst := (u_facts hfc hkC (u_lays hts hin hj) hi).1
  have h6 := u_store hfc hkC hkind hlay hi htj (v := mo_jv x) rfl rfl
  refine W.putK hx hb (f := f) ⟨hown, hts _ hlink, ⟨_, _, _, hi⟩, hst⟩ (by rw [q2]; exact h6) q1 q3 (by rw [hsl]; exact k2_hasslot (q4 j hj)) rfl rfl hd fun H' e1 e2 e3 => ?_
  rw [hsl] at e1 ⊢
  refine kk H' _ lr (by rw [e2]; exact ht) (mo_R_set hR hG ⟨_, hc, ?_⟩ e3) (hS.put e2 e3 (hR a _ hG).1) hl
  refine t_OB.to (V := updV (vp_V (mo_fs G M a ci)) j (mo_jv x)) ⟨_, e1, q2, q3, t_set q4 hap hj _⟩ (fun i _ => ?_)
  rw [vp_updV_set (by rw [mo_fs_len]; exact hjn)]
  rw [mo_fs_set G G M (mo_ur M a (va_up (M a) j x)) a ci j _ ?_ ?_]
  · unfold mo_fv
    rw [hk, mo_ur_s, mo_up_s]
    rfl
  · intro i hij
    unfold mo_fv
    rw [mo_ur_s, mo_up_n hij]
theorem mo_iald (X : mo_Cx κ lf ρf cc nL own ret d) {a N : Nat} {i : Int} (hd : decode cc pc = .ok (.iaload, 1)) (hG : G.1 a = some (.inr (0, N))) (hN : (N : Int) ≤ 2147483647) (h0 : 0 ≤ i) (h1 : i < (N : Int)) {j : Nat} (hj : i.toNat = j) (kk : mo_V κ k n (pc + 1) ls (mo_iv (M a j) :: st) G M t) : mo_V κ k n pc ls (mo_iv i :: .ref a :: st) G M t := by
  obtain ⟨⟨p, l, e, R, s⟩, ⟨m, args, below, meth, c⟩, Q, ρ⟩ := κ
  obtain ⟨hx, hb, hml, hown, hts, hK, hlk, hrt, hb0, hRf, hRl, hlf, hρ⟩ := X
  intro H locs lr ht hR hS hl
  refine va_iald hx hb hK (mo_one (hR a _ hG).2) 0 0 rfl rfl (mo_vin (by omega) h0 h1) hd ?_
  rw [mo_cl (by omega) h0, hj]
  exact kk H locs lr ht hR hS hl
theorem mo_iast (X : mo_Cx κ lf ρf cc nL own ret d) {a N : Nat} {i x : Int} (hd : decode cc pc = .ok (.iastore, 1)) (hG : G.1 a = some (.inr (0, N))) (hN : (N : Int) ≤ 2147483647) (h0 : 0 ≤ i) (h1 : i < (N : Int)) {j : Nat} (hj : i.toNat = j) (kk : mo_V κ k n (pc + 1) ls st G (mo_ur M a (va_up (M a) j x)) t) : mo_V κ k n pc ls (mo_iv x :: mo_iv i :: .ref a :: st) G M t := by
  obtain ⟨⟨p, l, e, R, s⟩, ⟨m, args, below, meth, c⟩, Q, ρ⟩ := κ
  obtain ⟨hx, hb, hml, hown, hts, hK, hlk, hrt, hb0, hRf, hRl, hlf, hρ⟩ := X
  intro H locs lr ht hR hS hl
  subst hj
  have hin := mo_vin (n := N) (x := i) (by omega) h0 h1
  refine W.iast hx hb (hR a _ hG).2 ((hK.2 0 _ rfl).1 N (fun j => mo_iv (M a j))) (fun q => by cases q) (by show ¬ (_ ∨ (arrV _ _ _).slots.size ≤ _); rw [arrV_size]; exact hin) rfl rfl hd fun H1 e z oq => ?_
  refine kk H1 _ lr (by rw [z]; exact ht) (mo_R_set hR hG ?_ oq) (hS.put z oq (hR a _ hG).1) hl
  show H1[a]? = some (vp_cell _ _)
  rw [e, vp_cell_i]
  rw [vp_cell_i, arrV_store, mo_cl (by omega) h0]
  congr 2
  funext q
  by_cases hq : q = i.toNat
  · subst hq
    simp [updV, mo_ur, va_up, mo_iv]
  · simp [updV, mo_ur, va_up, hq]
theorem mo_alenI (X : mo_Cx κ lf ρf cc nL own ret d) {a N : Nat} (hd : decode cc pc = .ok (.arraylength, 1)) (hG : G.1 a = some (.inr (0, N))) (kk : mo_V κ k n (pc + 1) ls (mo_iv (N : Int) :: st) G M t) : mo_V κ k n pc ls (.ref a :: st) G M t := by
  obtain ⟨⟨p, l, e, R, s⟩, ⟨m, args, below, meth, c⟩, Q, ρ⟩ := κ
  obtain ⟨hx, hb, hml, hown, hts, hK, hlk, hrt, hb0, hRf, hRl, hlf, hρ⟩ := X
  intro H locs lr ht hR hS hl
  exact va_alen hx hb hK (mo_one (hR a _ hG).2) 0 0 rfl rfl rfl hd (kk H locs lr ht hR hS hl)
theorem mo_alenQ (X : mo_Cx κ lf ρf cc nL own ret d) {a N : Nat} (hd : decode cc pc = .ok (.arraylength, 1)) (hG : G.1 a = some (.inr (2, N))) (kk : mo_V κ k n (pc + 1) ls (mo_iv (N : Int) :: st) G M t) : mo_V κ k n pc ls (.ref a :: st) G M t := by
  obtain ⟨⟨p, l, e, R, s⟩, ⟨m, args, below, meth, c⟩, Q, ρ⟩ := κ
  obtain ⟨hx, hb, hml, hown, hts, hK, hlk, hrt, hb0, hRf, hRl, hlf, hρ⟩ := X
  intro H locs lr ht hR hS hl
  exact va_alen hx hb hK (mo_one (hR a _ hG).2) 0 2 rfl rfl rfl hd (kk H locs lr ht hR hS hl)
theorem mo_aald (X : mo_Cx κ lf ρf cc nL own ret d) {a N q : Nat} {i : Int} (hd : decode cc pc = .ok (.aaload, 1)) (hG : G.1 a = some (.inr (2, N))) (hN : (N : Int) ≤ 2147483647) (h0 : 0 ≤ i) (h1 : i < (N : Int)) (hp : G.2 a i.toNat = some q) (kk : mo_V κ k n (pc + 1) ls (.ref q :: st) G M t) : mo_V κ k n pc ls (mo_iv i :: .ref a :: st) G M t := by
  obtain ⟨⟨p, l, e, R, s⟩, ⟨m, args, below, meth, c⟩, Q, ρ⟩ := κ
  obtain ⟨hx, hb, hml, hown, hts, hK, hlk, hrt, hb0, hRf, hRl, hlf, hρ⟩ := X
  intro H locs lr ht hR hS hl
  refine va_aldq (C := RX2) hx hb hK (mo_one (hR a _ hG).2) 0 2 rfl rfl (mo_vin (by omega) h0 h1) hd ?_
  rw [mo_cl (by omega) h0, hp]
  exact kk H locs lr ht hR hS hl
def mo_gp (G : mo_G) (a : Nat) (i : Nat) (v : Option Nat) : mo_G := (G.1, fun b => if b = a then va_up (G.2 a) i v else G.2 b)
theorem mo_el_gp (ρ : mo_E) (G : mo_G) (M : mo_M) (a i : Nat) (v : Option Nat) {b : Nat} (h : b ≠ a) (e : mo_Kd) : mo_el ρ (mo_gp G a i v) M b e = mo_el ρ G M b e := by
  have h2 : (mo_gp G a i v).2 b = G.2 b := by simp [mo_gp, h]
  have hf : mo_fs (mo_gp G a i v) M b = mo_fs G M b := by
    funext ci
    unfold mo_fs
    congr 1
    funext k
    unfold mo_fv
    rw [h2]
  rcases e with ci | ⟨t, n⟩
  · show Sum.inr _ = Sum.inr _
    rw [hf]
  · match t with
    | 0 => rfl
    | 1 => rfl
    | t + 2 => show Sum.inl _ = Sum.inl _; rw [h2]
theorem mo_R_gp {ρ : mo_E} {G : mo_G} {M : mo_M} {H H1 : Heap} {a i : Nat} {v : Option Nat} {e : mo_Kd} (hR : mo_R ρ G M H) (he : G.1 a = some e) (h1 : va_at ρ.1 vwCl (a, mo_el ρ (mo_gp G a i v) M a e) H1) (h2 : ∀ q, q ≠ a → H1[q]? = H[q]?) : mo_R ρ (mo_gp G a i v) M H1 := by
  intro b e' hb
  have hb : G.1 b = some e' := hb
  by_cases hba : b = a
  · subst hba
    cases he.symm.trans hb
    exact ⟨(hR b e hb).1, h1⟩
  · refine ⟨(hR b e' hb).1, ?_⟩
    rw [mo_el_gp ρ G M a i v hba e']
    exact (hR b e' hb).2.kept (h2 b hba)
theorem mo_aast (X : mo_Cx κ lf ρf cc nL own ret d) {a N v : Nat} {i : Int} (hd : decode cc pc = .ok (.aastore, 1)) (hG : G.1 a = some (.inr (2, N))) (hv : G.1 v = some (.inl 2)) (hN : (N : Int) ≤ 2147483647) (h0 : 0 ≤ i) (h1 : i < (N : Int)) (kk : mo_V κ k n (pc + 1) ls st (mo_gp G a i.toNat (some v)) M t) : mo_V κ k n pc ls (.ref v :: mo_iv i :: .ref a :: st) G M t := by
  obtain ⟨⟨p, l, e, R, s⟩, ⟨m, args, below, meth, c⟩, Q, ρ⟩ := κ
  obtain ⟨hx, hb, hml, hown, hts, hK, hlk, hrt, hb0, hRf, hRl, hlf, hρ⟩ := X
  intro H locs lr ht hR hS hl
  have hin := mo_vin (n := N) (x := i) (by omega) h0 h1
  have hlt : (Int32.ofInt i).toNatClampNeg < N := Nat.not_le.mp fun q => hin (Or.inr q)
  have h00 : ¬ Int32.ofInt i < 0 := fun q => hin (Or.inl q)
  obtain ⟨r', hr', cellV, g1, g2, g3, -⟩ := (hR v _ hv).2
  have hcls := (hK.1 2 (RX2, TX2, 15) rfl).2
  obtain ⟨kA, comp, k1, k2, k3, -⟩ := (hK.2 2 _ rfl).2
  have hcomp : comp = ρ.1.1 2 := Option.some.inj (k3.symm.trans hcls.1)
  subst hcomp
  obtain ⟨kC, hkC, -⟩ := hcls.2
  refine W.aast hx hb (hR a _ hG).2 (fun q h => by cases h) (fun h => by cases h) k1 k2 rfl hkC ⟨h00, by show _ < (arrV _ _ _).slots.size; rw [arrV_size]; exact hlt⟩ g1 (fun q h => by rw [g3] at h; cases h) (by rw [g2]; exact hkC) (by rw [g2]; exact va_assign hcls) rfl rfl hd fun H1 e z oq => ?_
  refine kk H1 _ lr (by rw [z]; exact ht) (mo_R_gp hR hG ?_ oq) (hS.put z oq (hR a _ hG).1) hl
  show H1[a]? = some (vp_cell _ _)
  rw [e, vp_cell_q]
  rw [vp_cell_q, arrV_store, mo_cl (by omega) h0]
  congr 2
  funext q
  by_cases hq : q = i.toNat
  · subst hq
    simp [updV, mo_gp, va_up, va_rf]
  · simp [updV, mo_gp, va_up, hq]
theorem mo_callVr (X : mo_Cx κ lf ρf cc nL own ret d) {y : MethodName} {bytes : ByteArray} {maxL d' kc ks b ci N index : Nat} {ret' : Option FieldType} {As rest : List Value} {C : String} {T : u_T} {post : Option Value → mo_G → mo_M → Nat → Prop} (hL : mo_LkV own index C y bytes maxL ret') (hy : mo_dV y C As.length) (hcl : vwCl[ci]? = some (C, T, N)) (hd : decode cc pc = .ok (.invokevirtual index, 3)) (hC : mo_Ct lf ρf y bytes maxL ret' d' kc ks (.ref b :: As) G M t post) (hG : G.1 b = some (.inl ci)) (hst : st = As.reverse ++ .ref b :: rest) (hdd : d' + 1 ≤ d) (hmx : maxL ≤ 11) (hsum : (rest.map fun v => v.category).sum ≤ 8) (hroom : mo_Rm κ (k + kc) (n + ks)) (kk : ∀ v G' M' t', post v G' M' t' → mo_V κ (k + kc) (n + ks) (pc + 3) ls (v.toList ++ rest) G' M' t') : mo_V κ k n pc ls st G M t := by
  obtain ⟨⟨p, l, e, R, s⟩, ⟨m, args, below, meth, c⟩, Q, ρ⟩ := κ
  obtain ⟨hx, hb, hml, hown, hts, hK, hlk, hrt, hb0, hRf, hRl, hlf, hρ⟩ := X
  subst hlf
  subst hρ
  intro H locs lr ht hR hS hl
  have hPc := mo_one (hR b _ hG).2
  refine mo_back (va_runV (As := As) (rest := rest) ⟨hx, hb, hml, hown, hts⟩ hC (cwV As.length hts (mo_gwV hL) rfl rfl rfl hy ⟨Nat.le_trans hdd hRf, by show 8 + (maxL + 11) + 30 * d' ≤ R.locals; omega⟩) ⟨mo_fb _ _ _ _ _, va_recv hK hPc (ci := ci) (q0 := 0) hcl rfl, fun U hU hW => ⟨rfl, by rw [hU]; exact ht, by rw [hU]; exact hR, va_K.moved hW.alike hK, by rw [← ht]; exact Nat.le_trans hb0 hS.1⟩⟩ rfl rfl (hl.1.trans hml) hst (lv_room hsum) hd hroom) hS ?_
  intro v G' M' t' hp H' locs' hz hR' hS'
  exact kk v G' M' t' hp H' locs' lr hz hR' hS' hl
theorem mo_callSr (X : mo_Cx κ lf ρf cc nL own ret d) {y : MethodName} {bytes : ByteArray} {maxL d' kc ks index : Nat} {ret' : Option FieldType} {As rest : List Value} {post : Option Value → mo_G → mo_M → Nat → Prop} (hL : mo_LkS own index y bytes maxL ret') (hy : y.cls ≠ "java/lang/invoke/MethodHandle" ∧ y.cls ≠ "java/lang/invoke/VarHandle" ∧ (parseMethodDescriptor y.desc).map (fun d => d.parameters.length) = some As.length) (hd : decode cc pc = .ok (.invokestatic index, 3)) (hC : mo_Ct lf ρf y bytes maxL ret' d' kc ks As G M t post) (hst : st = As.reverse ++ rest) (hdd : d' + 1 ≤ d) (hmx : maxL ≤ 11) (hsum : (rest.map fun v => v.category).sum ≤ 8) (hroom : mo_Rm κ (k + kc) (n + ks)) (kk : ∀ v G' M' t', post v G' M' t' → mo_V κ (k + kc) (n + ks) (pc + 3) ls (v.toList ++ rest) G' M' t') : mo_V κ k n pc ls st G M t := by
  obtain ⟨⟨p, l, e, R, s⟩, ⟨m, args, below, meth, c⟩, Q, ρ⟩ := κ
  obtain ⟨hx, hb, hml, hown, hts, hK, hlk, hrt, hb0, hRf, hRl, hlf, hρ⟩ := X
  subst hlf
  subst hρ
  intro H locs lr ht hR hS hl
  refine mo_back (va_runS (As := As) (rest := rest) ⟨hx, hb, hml, hown, hts⟩ hC (va_cwS As.length hts (mo_gwS hL) rfl rfl rfl hy ⟨Nat.le_trans hdd hRf, by show 8 + (maxL + 11) + 30 * d' ≤ R.locals; omega⟩) ⟨mo_fb _ _ _ _ _, fun U hU hW => ⟨rfl, by rw [hU]; exact ht, by rw [hU]; exact hR, va_K.moved hW.alike hK, by rw [← ht]; exact Nat.le_trans hb0 hS.1⟩⟩ rfl rfl (hl.1.trans hml) hst (lv_room hsum) hd hroom) hS ?_
  intro v G' M' t' hp H' locs' hz hR' hS'
  exact kk v G' M' t' hp H' locs' lr hz hR' hS' hl
theorem mo_callIr (X : mo_Cx κ lf ρf cc nL own ret d) {y : MethodName} {bytes : ByteArray} {maxL d' kc ks b index : Nat} {As rest : List Value} {post : Option Value → mo_G → mo_M → Nat → Prop} (hL : mo_LkI own index y bytes maxL) (hy1 : y.name = "<init>") (hy : y.cls ≠ "java/lang/invoke/MethodHandle" ∧ y.cls ≠ "java/lang/invoke/VarHandle" ∧ (parseMethodDescriptor y.desc).map (fun d => d.parameters.length) = some As.length) (hd : decode cc pc = .ok (.invokespecial index, 3)) (hC : mo_Ct lf ρf y bytes maxL none d' kc ks (.ref b :: As) G M t post) (hst : st = As.reverse ++ .ref b :: rest) (hdd : d' + 1 ≤ d) (hmx : maxL ≤ 11) (hsum : (rest.map fun v => v.category).sum ≤ 8) (hroom : mo_Rm κ (k + kc) (n + ks)) (kk : ∀ v G' M' t', post v G' M' t' → mo_V κ (k + kc) (n + ks) (pc + 3) ls (v.toList ++ rest) G' M' t') : mo_V κ k n pc ls st G M t := by
  obtain ⟨⟨p, l, e, R, s⟩, ⟨m, args, below, meth, c⟩, Q, ρ⟩ := κ
  obtain ⟨hx, hb, hml, hown, hts, hK, hlk, hrt, hb0, hRf, hRl, hlf, hρ⟩ := X
  subst hlf
  subst hρ
  intro H locs lr ht hR hS hl
  refine mo_back (va_runI (As := As) (rest := rest) ⟨hx, hb, hml, hown, hts⟩ hC (cwI As.length hts (mo_gw hL.2.2.2) rfl rfl rfl (hts _ hL.2.2.1) (hts _ hL.1) (hts _ hL.2.1) hy1 hy ⟨Nat.le_trans hdd hRf, by show 8 + (maxL + 11) + 30 * d' ≤ R.locals; omega⟩) ⟨mo_fb _ _ _ _ _, fun U hU hW => ⟨rfl, by rw [hU]; exact ht, by rw [hU]; exact hR, va_K.moved hW.alike hK, by rw [← ht]; exact Nat.le_trans hb0 hS.1⟩⟩ rfl rfl (hl.1.trans hml) hst (lv_room hsum) hd hroom) hS ?_
  intro v G' M' t' hp H' locs' hz hR' hS'
  exact kk v G' M' t' hp H' locs' lr hz hR' hS' hl
def mo_pi (G : mo_G) (t : Nat) (P : Int → mo_M → Prop) : Option Value → mo_G → mo_M → Nat → Prop := fun v G' M' t' => G' = G ∧ t' = t ∧ ∃ x, v = some (mo_iv x) ∧ P x M'
def mo_pj (G : mo_G) (t : Nat) (P : Int → mo_M → Prop) : Option Value → mo_G → mo_M → Nat → Prop := fun v G' M' t' => G' = G ∧ t' = t ∧ ∃ x, v = some (mo_jv x) ∧ P x M'
def mo_pv (G : mo_G) (t : Nat) (P : mo_M → Prop) : Option Value → mo_G → mo_M → Nat → Prop := fun v G' M' t' => G' = G ∧ t' = t ∧ v = none ∧ P M'
theorem mo_rm0 (κ : mo_T) : mo_Rm κ (0 + 0) (0 + 0) := ⟨Nat.zero_le _, Nat.zero_le _⟩
theorem mo_cVI (X : mo_Cx κ lf ρf cc nL own ret d) {y : MethodName} {bytes : ByteArray} {maxL d' b ci N index : Nat} {ret' : Option FieldType} {As rest : List Value} {C : String} {T : u_T} {P : Int → mo_M → Prop} (hL : mo_LkV own index C y bytes maxL ret') (hy : mo_dV y C As.length) (hcl : vwCl[ci]? = some (C, T, N)) (hd : decode cc pc = .ok (.invokevirtual index, 3)) (hC : mo_Ct lf ρf y bytes maxL ret' d' 0 0 (.ref b :: As) G M t (mo_pi G t P)) (hG : G.1 b = some (.inl ci)) (hst : st = As.reverse ++ .ref b :: rest) (hdd : d' + 1 ≤ d) (hmx : maxL ≤ 11) (hsum : (rest.map fun v => v.category).sum ≤ 8) (kk : ∀ (x : Int) (M' : mo_M), P x M' → mo_V κ 0 0 (pc + 3) ls (mo_iv x :: rest) G M' t) : mo_V κ 0 0 pc ls st G M t := by
  refine mo_callVr X hL hy hcl hd hC hG hst hdd hmx hsum (mo_rm0 κ) ?_
  intro v G' M' t' hp
  obtain ⟨rfl, rfl, x, rfl, hP⟩ := hp
  exact kk x M' hP
theorem mo_cSI (X : mo_Cx κ lf ρf cc nL own ret d) {y : MethodName} {bytes : ByteArray} {maxL d' index : Nat} {ret' : Option FieldType} {As rest : List Value} {P : Int → mo_M → Prop} (hL : mo_LkS own index y bytes maxL ret') (hy : y.cls ≠ "java/lang/invoke/MethodHandle" ∧ y.cls ≠ "java/lang/invoke/VarHandle" ∧ (parseMethodDescriptor y.desc).map (fun d => d.parameters.length) = some As.length) (hd : decode cc pc = .ok (.invokestatic index, 3)) (hC : mo_Ct lf ρf y bytes maxL ret' d' 0 0 As G M t (mo_pi G t P)) (hst : st = As.reverse ++ rest) (hdd : d' + 1 ≤ d) (hmx : maxL ≤ 11) (hsum : (rest.map fun v => v.category).sum ≤ 8) (kk : ∀ (x : Int) (M' : mo_M), P x M' → mo_V κ 0 0 (pc + 3) ls (mo_iv x :: rest) G M' t) : mo_V κ 0 0 pc ls st G M t := by
  refine mo_callSr X hL hy hd hC hst hdd hmx hsum (mo_rm0 κ) ?_
  intro v G' M' t' hp
  obtain ⟨rfl, rfl, x, rfl, hP⟩ := hp
  exact kk x M' hP
theorem mo_cVJ (X : mo_Cx κ lf ρf cc nL own ret d) {y : MethodName} {bytes : ByteArray} {maxL d' b ci N index : Nat} {ret' : Option FieldType} {As rest : List Value} {C : String} {T : u_T} {P : Int → mo_M → Prop} (hL : mo_LkV own index C y bytes maxL ret') (hy : mo_dV y C As.length) (hcl : vwCl[ci]? = some (C, T, N)) (hd : decode cc pc = .ok (.invokevirtual index, 3)) (hC : mo_Ct lf ρf y bytes maxL ret' d' 0 0 (.ref b :: As) G M t (mo_pj G t P)) (hG : G.1 b = some (.inl ci)) (hst : st = As.reverse ++ .ref b :: rest) (hdd : d' + 1 ≤ d) (hmx : maxL ≤ 11) (hsum : (rest.map fun v => v.category).sum ≤ 8) (kk : ∀ (x : Int) (M' : mo_M), P x M' → mo_V κ 0 0 (pc + 3) ls (mo_jv x :: rest) G M' t) : mo_V κ 0 0 pc ls st G M t := by
  refine mo_callVr X hL hy hcl hd hC hG hst hdd hmx hsum (mo_rm0 κ) ?_
  intro v G' M' t' hp
  obtain ⟨rfl, rfl, x, rfl, hP⟩ := hp
  exact kk x M' hP
theorem mo_cSJ (X : mo_Cx κ lf ρf cc nL own ret d) {y : MethodName} {bytes : ByteArray} {maxL d' index : Nat} {ret' : Option FieldType} {As rest : List Value} {P : Int → mo_M → Prop} (hL : mo_LkS own index y bytes maxL ret') (hy : y.cls ≠ "java/lang/invoke/MethodHandle" ∧ y.cls ≠ "java/lang/invoke/VarHandle" ∧ (parseMethodDescriptor y.desc).map (fun d => d.parameters.length) = some As.length) (hd : decode cc pc = .ok (.invokestatic index, 3)) (hC : mo_Ct lf ρf y bytes maxL ret' d' 0 0 As G M t (mo_pj G t P)) (hst : st = As.reverse ++ rest) (hdd : d' + 1 ≤ d) (hmx : maxL ≤ 11) (hsum : (rest.map fun v => v.category).sum ≤ 8) (kk : ∀ (x : Int) (M' : mo_M), P x M' → mo_V κ 0 0 (pc + 3) ls (mo_jv x :: rest) G M' t) : mo_V κ 0 0 pc ls st G M t := by
  refine mo_callSr X hL hy hd hC hst hdd hmx hsum (mo_rm0 κ) ?_
  intro v G' M' t' hp
  obtain ⟨rfl, rfl, x, rfl, hP⟩ := hp
  exact kk x M' hP
theorem mo_cVV (X : mo_Cx κ lf ρf cc nL own ret d) {y : MethodName} {bytes : ByteArray} {maxL d' b ci N index : Nat} {ret' : Option FieldType} {As rest : List Value} {C : String} {T : u_T} {P : mo_M → Prop} (hL : mo_LkV own index C y bytes maxL ret') (hy : mo_dV y C As.length) (hcl : vwCl[ci]? = some (C, T, N)) (hd : decode cc pc = .ok (.invokevirtual index, 3)) (hC : mo_Ct lf ρf y bytes maxL ret' d' 0 0 (.ref b :: As) G M t (mo_pv G t P)) (hG : G.1 b = some (.inl ci)) (hst : st = As.reverse ++ .ref b :: rest) (hdd : d' + 1 ≤ d) (hmx : maxL ≤ 11) (hsum : (rest.map fun v => v.category).sum ≤ 8) (kk : ∀ (M' : mo_M), P M' → mo_V κ 0 0 (pc + 3) ls rest G M' t) : mo_V κ 0 0 pc ls st G M t := by
  refine mo_callVr X hL hy hcl hd hC hG hst hdd hmx hsum (mo_rm0 κ) ?_
  intro v G' M' t' hp
  obtain ⟨rfl, rfl, rfl, hP⟩ := hp
  exact kk M' hP
theorem mo_cSV (X : mo_Cx κ lf ρf cc nL own ret d) {y : MethodName} {bytes : ByteArray} {maxL d' index : Nat} {ret' : Option FieldType} {As rest : List Value} {P : mo_M → Prop} (hL : mo_LkS own index y bytes maxL ret') (hy : y.cls ≠ "java/lang/invoke/MethodHandle" ∧ y.cls ≠ "java/lang/invoke/VarHandle" ∧ (parseMethodDescriptor y.desc).map (fun d => d.parameters.length) = some As.length) (hd : decode cc pc = .ok (.invokestatic index, 3)) (hC : mo_Ct lf ρf y bytes maxL ret' d' 0 0 As G M t (mo_pv G t P)) (hst : st = As.reverse ++ rest) (hdd : d' + 1 ≤ d) (hmx : maxL ≤ 11) (hsum : (rest.map fun v => v.category).sum ≤ 8) (kk : ∀ (M' : mo_M), P M' → mo_V κ 0 0 (pc + 3) ls rest G M' t) : mo_V κ 0 0 pc ls st G M t := by
  refine mo_callSr X hL hy hd hC hst hdd hmx hsum (mo_rm0 κ) ?_
  intro v G' M' t' hp
  obtain ⟨rfl, rfl, rfl, hP⟩ := hp
  exact kk M' hP
theorem mo_iret (X : mo_Cx κ lf ρf cc nL own ret d) {post : Option Value → mo_G → mo_M → Nat → Prop} (Y : mo_Rt κ post k n) {x : Int} (hr : ret = some .int) (hd : decode cc pc = .ok (.ireturn, 1)) (hp : post (some (mo_iv x)) G M t) : mo_V κ k n pc ls [mo_iv x] G M t := by
  obtain ⟨⟨p, l, e, R, s⟩, ⟨m, args, below, meth, c⟩, Q, ρ⟩ := κ
  obtain ⟨hx, hb, hml, hown, hts, hK, hlk, hrt, hb0, hRf, hRl, hlf, hρ⟩ := X
  have hY : Q = MQ below (mo_Qc ρ post) args s k n (mo_fr ρ) := Y
  subst hY
  intro H locs lr ht hR hS hl
  exact W.iret hx hb (hrt.trans hr) (fun u hu hW => ⟨⟨_, G, M, rfl, by rw [hu, ht]; exact hp, by rw [hu]; exact hR⟩, hS.F hu⟩) hS.2.2 hd hlk
theorem mo_zret (X : mo_Cx κ lf ρf cc nL own ret d) {post : Option Value → mo_G → mo_M → Nat → Prop} (Y : mo_Rt κ post k n) {x : Int} (hr : ret = some .boolean) (h01 : x = 0 ∨ x = 1) (hd : decode cc pc = .ok (.ireturn, 1)) (hp : post (some (mo_iv x)) G M t) : mo_V κ k n pc ls [mo_iv x] G M t := by
  obtain ⟨⟨p, l, e, R, s⟩, ⟨m, args, below, meth, c⟩, Q, ρ⟩ := κ
  obtain ⟨hx, hb, hml, hown, hts, hK, hlk, hrt, hb0, hRf, hRl, hlf, hρ⟩ := X
  have hY : Q = MQ below (mo_Qc ρ post) args s k n (mo_fr ρ) := Y
  subst hY
  intro H locs lr ht hR hS hl
  exact W.zret hx hb (hrt.trans hr) (by rcases h01 with rfl | rfl <;> rfl) (fun u hu hW => ⟨⟨_, G, M, rfl, by rw [hu, ht]; exact hp, by rw [hu]; exact hR⟩, hS.F hu⟩) hS.2.2 hd hlk
theorem mo_vret (X : mo_Cx κ lf ρf cc nL own ret d) {post : Option Value → mo_G → mo_M → Nat → Prop} (Y : mo_Rt κ post k n) (hr : ret = none) (hd : decode cc pc = .ok (.return_, 1)) (hp : post none G M t) : mo_V κ k n pc ls [] G M t := by
  obtain ⟨⟨p, l, e, R, s⟩, ⟨m, args, below, meth, c⟩, Q, ρ⟩ := κ
  obtain ⟨hx, hb, hml, hown, hts, hK, hlk, hrt, hb0, hRf, hRl, hlf, hρ⟩ := X
  have hY : Q = MQ below (mo_Qc ρ post) args s k n (mo_fr ρ) := Y
  subst hY
  intro H locs lr ht hR hS hl
  exact W.vret hx hb (hrt.trans hr) (fun u hu hW => ⟨⟨_, G, M, rfl, by rw [hu, ht]; exact hp, by rw [hu]; exact hR⟩, hS.F hu⟩) hS.2.2 hd hlk
theorem mo_lret (X : mo_Cx κ lf ρf cc nL own ret d) {post : Option Value → mo_G → mo_M → Nat → Prop} (Y : mo_Rt κ post k n) {x : Int} (hr : ret = some .long) (hd : decode cc pc = .ok (.lreturn, 1)) (hp : post (some (mo_jv x)) G M t) : mo_V κ k n pc ls [mo_jv x] G M t := by
  obtain ⟨⟨p, l, e, R, s⟩, ⟨m, args, below, meth, c⟩, Q, ρ⟩ := κ
  obtain ⟨hx, hb, hml, hown, hts, hK, hlk, hrt, hb0, hRf, hRl, hlf, hρ⟩ := X
  have hY : Q = MQ below (mo_Qc ρ post) args s k n (mo_fr ρ) := Y
  subst hY
  intro H locs lr ht hR hS hl
  exact W.lret hx hb (hrt.trans hr) (fun u hu hW => ⟨⟨_, G, M, rfl, by rw [hu, ht]; exact hp, by rw [hu]; exact hR⟩, hS.F hu⟩) hS.2.2 hd hlk
theorem mo_max (X : mo_Cx κ lf ρf cc nL own ret d) {index : Nat} {x y : Int} (hd : decode cc pc = .ok (.invokestatic index, 3)) (hw : Cond.methodLink own index Lib.Math.max.name ∈ mo_B) (h1 : mo_In x) (h2 : mo_In y) (hdd : 1 ≤ d) (hsum : (st.map fun v => v.category).sum ≤ 8) (hk0 : k = 0 ∧ n = 0) (kk : mo_V κ k n (pc + 3) ls (mo_iv (if x < y then y else x) :: st) G M t) : mo_V κ k n pc ls (mo_iv y :: mo_iv x :: st) G M t := by
  obtain ⟨⟨p, l, e, R, s⟩, ⟨m, args, below, meth, c⟩, Q, ρ⟩ := κ
  obtain ⟨hx, hb, hml, hown, hts, hK, hlk, hrt, hb0, hRf, hRl, hlf, hρ⟩ := X
  intro H locs lr ht hR hS hl
  obtain ⟨rfl, rfl⟩ := hk0
  refine va_mmax hx hb (by rw [hl.1]) hown (hts _ hw) (hts _ (by decide +kernel)) (hts _ (by decide +kernel)) (hts _ (by decide +kernel)) (Nat.le_trans hdd hRf) (by omega) (Nat.zero_le _) (Nat.zero_le _) hd ?_
  have h := kk H locs lr ht hR hS hl
  by_cases c1 : x < y
  · rw [if_pos c1] at h
    rw [if_pos ((mo_lt h1 h2).mpr c1)]
    exact h
  · rw [if_neg c1] at h
    rw [if_neg (fun q => c1 ((mo_lt h1 h2).mp q))]
    exact h
theorem mo_min (X : mo_Cx κ lf ρf cc nL own ret d) {index : Nat} {x y : Int} (hd : decode cc pc = .ok (.invokestatic index, 3)) (hw : Cond.methodLink own index Lib.Math.min.name ∈ mo_B) (h1 : mo_In x) (h2 : mo_In y) (hdd : 1 ≤ d) (hsum : (st.map fun v => v.category).sum ≤ 8) (hk0 : k = 0 ∧ n = 0) (kk : mo_V κ k n (pc + 3) ls (mo_iv (if y < x then y else x) :: st) G M t) : mo_V κ k n pc ls (mo_iv y :: mo_iv x :: st) G M t := by
  obtain ⟨⟨p, l, e, R, s⟩, ⟨m, args, below, meth, c⟩, Q, ρ⟩ := κ
  obtain ⟨hx, hb, hml, hown, hts, hK, hlk, hrt, hb0, hRf, hRl, hlf, hρ⟩ := X
  intro H locs lr ht hR hS hl
  obtain ⟨rfl, rfl⟩ := hk0
  refine va_mmin hx hb (by rw [hl.1]) hown (hts _ hw) (hts _ (by decide +kernel)) (hts _ (by decide +kernel)) (hts _ (by decide +kernel)) (Nat.le_trans hdd hRf) (by omega) (Nat.zero_le _) (Nat.zero_le _) hd ?_
  have h := kk H locs lr ht hR hS hl
  by_cases c1 : y < x
  · rw [if_pos c1] at h
    rw [if_pos ((mo_lt h2 h1).mpr c1)]
    exact h
  · rw [if_neg c1] at h
    rw [if_neg (fun q => c1 ((mo_lt h2 h1).mp q))]
    exact h
theorem mo_swIn (X : mo_Cx κ lf ρf cc nL own ret d) {dflt lo hi : Int} {offs : Array Int} {len : Nat} {x off : Int} {tgt : Nat} (hd : decode cc pc = .ok (.tableswitch dflt lo hi offs, len)) (hx0 : mo_In x) (h1 : lo ≤ x) (h2 : x ≤ hi) (ho : offs[(x - lo).toNat]? = some off) (htg : (pc : Int) + off = (tgt : Int)) (kk : mo_V κ k n tgt ls st G M t) : mo_V κ k n pc ls (mo_iv x :: st) G M t := by
  obtain ⟨⟨p, l, e, R, s⟩, ⟨m, args, below, meth, c⟩, Q, ρ⟩ := κ
  obtain ⟨hx, hb, hml, hown, hts, hK, hlk, hrt, hb0, hRf, hRl, hlf, hρ⟩ := X
  intro H locs lr ht hR hS hl
  exact lv_tableIn hx hb hd (by rw [mo_ti hx0]; omega) (by rw [mo_ti hx0]; omega) (by rw [mo_ti hx0]; exact ho) htg (kk H locs lr ht hR hS hl)
theorem mo_swOut (X : mo_Cx κ lf ρf cc nL own ret d) {dflt lo hi : Int} {offs : Array Int} {len : Nat} {x : Int} {tgt : Nat} (hd : decode cc pc = .ok (.tableswitch dflt lo hi offs, len)) (hx0 : mo_In x) (h1 : x < lo ∨ hi < x) (htg : (pc : Int) + dflt = (tgt : Int)) (kk : mo_V κ k n tgt ls st G M t) : mo_V κ k n pc ls (mo_iv x :: st) G M t := by
  obtain ⟨⟨p, l, e, R, s⟩, ⟨m, args, below, meth, c⟩, Q, ρ⟩ := κ
  obtain ⟨hx, hb, hml, hown, hts, hK, hlk, hrt, hb0, hRf, hRl, hlf, hρ⟩ := X
  intro H locs lr ht hR hS hl
  exact lv_tableOut hx hb hd (by rw [mo_ti hx0]; exact h1) htg (kk H locs lr ht hR hS hl)
theorem mo_lsw (X : mo_Cx κ lf ρf cc nL own ret d) {dflt : Int} {ps : Array (Int × Int)} {len : Nat} {x off : Int} {tgt : Nat} (hd : decode cc pc = .ok (.lookupswitch dflt ps, len)) (hx0 : mo_In x) (hs : (ps.toList.zip (ps.toList.drop 1)).all (fun (a, next) => a.1 < next.1) = true) (ho : Op.lookupswitch.offset ps.toList dflt x = off) (htg : (pc : Int) + off = (tgt : Int)) (kk : mo_V κ k n tgt ls st G M t) : mo_V κ k n pc ls (mo_iv x :: st) G M t := by
  obtain ⟨⟨p, l, e, R, s⟩, ⟨m, args, below, meth, c⟩, Q, ρ⟩ := κ
  obtain ⟨hx, hb, hml, hown, hts, hK, hlk, hrt, hb0, hRf, hRl, hlf, hρ⟩ := X
  intro H locs lr ht hR hS hl
  exact lv_lookup hx hb hd hs (by rw [mo_ti hx0]; exact ho) htg (kk H locs lr ht hR hS hl)
theorem mo_copy (X : mo_Cx κ lf ρf cc nL own ret d) {index a a0 n0 n1 : Nat} {sp dp z : Int} (hd : decode cc pc = .ok (.invokestatic index, 3)) (hw : Cond.methodLink own index arraycopyName ∈ mo_B) (hG0 : G.1 a0 = some (.inr (0, n0))) (hG1 : G.1 a = some (.inr (0, n1))) (hn0 : (n0 : Int) ≤ 2147483647) (hn1 : (n1 : Int) ≤ 2147483647) (h1 : 0 ≤ sp) (h2 : 0 ≤ dp) (h3 : 0 ≤ z) (h4 : sp + z ≤ n0) (h5 : dp + z ≤ n1) (hdd : 1 ≤ d) (hsum : (st.map fun v => v.category).sum + (nativeFrameWords "java/lang/System" "arraycopy" 5 + 11) ≤ 30) (kk : mo_V κ k n (pc + 3) ls st G (mo_ur M a (va_cpy (M a0) (M a) sp.toNat dp.toNat z.toNat)) t) : mo_V κ k n pc ls (mo_iv z :: mo_iv dp :: .ref a :: mo_iv sp :: .ref a0 :: st) G M t := by
  obtain ⟨⟨p, l, e, R, s⟩, ⟨m, args, below, meth, c⟩, Q, ρ⟩ := κ
  obtain ⟨hx, hb, hml, hown, hts, hK, hlk, hrt, hb0, hRf, hRl, hlf, hρ⟩ := X
  intro H locs lr ht hR hS hl
  have e1 : (Int32.ofInt sp).toNatClampNeg = sp.toNat := mo_cl (by omega) h1
  have e2 : (Int32.ofInt dp).toNatClampNeg = dp.toNat := mo_cl (by omega) h2
  have e3 : (Int32.ofInt z).toNatClampNeg = z.toNat := mo_cl (by omega) h3
  have nn : ∀ {y : Int}, 0 ≤ y → y ≤ 2147483647 → ¬ Int32.ofInt y < 0 := fun {y} g1 g2 g3 => by
    rw [mo_0, mo_lt (by omega) (by omega)] at g3
    omega
  have hc0 : H[a0]? = some (vp_cell ρ.2.1.1 (n0, .inl (fun j => Int32.ofInt (M a0 j)))) := (hR a0 _ hG0).2
  have hc1 : H[a]? = some (vp_cell ρ.2.1.1 (n1, .inl (fun j => Int32.ofInt (M a j)))) := (hR a _ hG1).2
  obtain ⟨-, k0, hk0, cm0, hkk0⟩ := (hK.2 0 _ rfl).1 n0 (fun j => mo_iv (M a0 j))
  obtain ⟨-, k1, hk1, cm1, hkk1⟩ := (hK.2 0 _ rfl).1 n1 (fun j => mo_iv (M a j))
  intro T hT XT
  obtain ⟨vm', X', step⟩ := XT.arraycopy hx hown (hts _ hw) (hts _ (mo_tb2 61 rfl rfl)) (hts _ (mo_tb2 60 rfl rfl)) (hts _ mo_wsys) (src := a0) (dst := a) (cs := vp_cell ρ.2.1.1 (n0, .inl (fun j => Int32.ofInt (M a0 j)))) (cd := vp_cell ρ.2.1.1 (n1, .inl (fun j => Int32.ofInt (M a j)))) (srcPos := Int32.ofInt sp) (destPos := Int32.ofInt dp) (n := Int32.ofInt z) (by rw [hT]; exact hc0) (by rw [hT]; exact hc1)
    (fun _ h => by cases h) (fun _ h => by cases h) (fun h => by cases h) (fun h => by cases h) hk0 hk1 hkk0 hkk1 rfl (nn h1 (by omega)) (nn h2 (by omega)) (nn h3 (by omega))
    (by rw [mo_ti (by omega), mo_ti (by omega)]; show ¬ _ > ((arrV _ n0 _).slots.size : Int); rw [arrV_size]; omega)
    (by rw [mo_ti (by omega), mo_ti (by omega)]; show ¬ _ > ((arrV _ n1 _).slots.size : Int); rw [arrV_size]; omega)
    (fun vm₁ _ i hi => by
      have e : (vp_cell ρ.2.1.1 (n0, .inl (fun j => Int32.ofInt (M a0 j)))).slots.getD ((Int32.ofInt sp).toNatClampNeg + i) .null = mo_iv (M a0 ((Int32.ofInt sp).toNatClampNeg + i)) := by
        show (arrV ρ.2.1.1 n0 (fun j => mo_iv (M a0 j))).slots.getD _ _ = _
        rw [Array.getD_eq_getD_getElem?, arrV_read _ _ (by rw [e1]; rw [e3] at hi; omega)]
        rfl
      refine ⟨?_, ?_⟩
      · rw [e]
        rfl
      · rw [e]
        exact trivial)
    (g := F0 m pc lr (mo_iv z :: mo_iv dp :: .ref a :: mo_iv sp :: .ref a0 :: st)) rfl hl.1 (rest := st) rfl (by rw [hb]; exact hd) (Nat.le_trans hdd hRf) (by show 2 * 0 + _ + _ ≤ _; omega)
  have ec : copied (vp_cell ρ.2.1.1 (n0, .inl (fun j => Int32.ofInt (M a0 j)))) (vp_cell ρ.2.1.1 (n1, .inl (fun j => Int32.ofInt (M a j)))) (Int32.ofInt sp) (Int32.ofInt dp) (Int32.ofInt z) = vp_cell ρ.2.1.1 (n1, .inl (va_cpy (fun j => Int32.ofInt (M a0 j)) (fun j => Int32.ofInt (M a j)) sp.toNat dp.toNat z.toNat)) := by
    have h := va_copied (fun z => Value.int z) ρ.2.1.1 ρ.2.1.1 (n0 := n0) (n1 := n1) (fun j => Int32.ofInt (M a0 j)) (fun j => Int32.ofInt (M a j)) (sp := (Int32.ofInt sp).toNatClampNeg) (dp := (Int32.ofInt dp).toNatClampNeg) (n := (Int32.ofInt z).toNatClampNeg) (by rw [e1, e3]; omega)
    refine Eq.trans h ?_
    rw [e1, e2, e3]
    rfl
  rw [ec] at X' step
  have hlt : a < H.size := (Array.getElem?_eq_some_iff.mp hc1).1
  generalize hC : vp_cell ρ.2.1.1 (n1, .inl (va_cpy (fun j => Int32.ofInt (M a0 j)) (fun j => Int32.ofInt (M a j)) sp.toNat dp.toNat z.toNat)) = C1 at X' step
  have hheap : ((T.setVm vm').setCell a C1).heap = H.setIfInBounds a C1 := by rw [← hT]; rfl
  have oq : ∀ q : Nat, q ≠ a → (H.setIfInBounds a C1)[q]? = H[q]? := fun q hq => by simp [Array.getElem?_setIfInBounds, Ne.symm hq]
  have hcell : (H.setIfInBounds a C1)[a]? = some C1 := by simp [Array.getElem?_setIfInBounds, hlt]
  obtain ⟨u, a1, b1⟩ := kk (H.setIfInBounds a C1) _ lr (by simp; exact ht) (mo_R_set hR hG1 (by
      show (H.setIfInBounds a C1)[a]? = some (vp_cell _ _)
      rw [hcell, ← hC]
      congr 3
      refine congrArg Sum.inl ?_
      funext j
      rw [mo_ur_s]
      unfold va_cpy
      split <;> rfl) oq) ⟨by simp; exact hS.1, fun q g1 g2 => by
      rw [oq q (fun e => g2 (by rw [e]; exact (hR a _ hG1).1))]
      exact hS.2.1 q g1 g2, fun q hq => by
      rcases List.mem_append.mp hq with h | h
      · exact hS.2.2 q h
      · obtain ⟨y, -, hy⟩ := List.mem_map.mp h
        rw [← hy]
        exact (hR a _ hG1).1⟩ hl _ hheap X'
  exact ⟨u, step u a1, b1⟩
end MOS
