/-! THE CLAIM OUT OF ONE WALK OF THE LAW'S BODY. Your part is whole_start (and what it stands on); all else here is the same for every law, but numbers. -/
def R_law : String := "MeetingOrdersLaw"
def lw_P (b : Addr) (xs : List Int32) (args : Array Value) (s : State) : Prop := args = #[.ref b] ∧ s.IntsAt b xs ∧ xs.length ≤ 3072 ∧ (Jvm.Cond.and given_1 narrow_1).before args s = true
/-- what a walk over the start with the record d0 says of its end, said of the start itself -/
theorem lw_closed {s t : State} {o : Outcome} {d0 : Drawn} {L : List Loc} {k n : Nat} (hd0 : s.drawn.sameBut d0 lw_cs) (hv : ∃ v, o = .returned v) (hW : (s.setDrawn d0).WarmedH t.vm) (hs : (s.setDrawn d0).sameButNew ({ t with vm := s.vm } : State) L k n) : State.butDraws s t lw_cs (fun t1 => Framed s o t1 L k n) := by
  have h2 : t.drawn = d0 := congrArg State.drawn hs.1
  refine ⟨⟨hv, hW, State.sameButNew.setDrawn hs s.drawn⟩, ?_, by decide⟩
  rw [h2]
  exact hd0
def lw_Q (_ : Array Value) (s : State) (o : Outcome) (t : State) : Prop := o = .returned (some (.int 1)) ∧ State.butDraws s t lw_cs (fun t1 => Framed s o t1 [] 601024 7293034)
def lw_Z (below : List Frame) (a : Array Value) (s : State) : State → Prop := fun t => ∃ o, t.status = .running ∧ Ended t below o ∧ lw_Q a s o t
/-- the law's own end, with 1 on the stack, nothing written that was there before, its room as the claim has it; d0: the record of draws at this point (at the entry s.drawn: begin with 'refine W.base ?_' and 'have hd0 := Drawn.sameBut.refl s.drawn lw_cs') -/
theorem lw_ret {p : Program} {l : Launch} {e : Env} {s : State} {m : MethodId} {below : List Frame} {meth : Method} {c : Code} {b : Nat} {d0 : Drawn} (hd0 : s.drawn.sameBut d0 lw_cs) (hx : p.tables.exec = Jvm.exec) (hb : c.code = code) (hr : meth.sig.returnType = ret) (hlocks : meth.locks = false) {pc : Nat} {H : Heap} {ls : Array Slot} (hdg : decode code pc = .ok (.ireturn, 1)) : W p l e room_1 (s.setDrawn d0) m #[Value.ref b] below meth c H [] 601024 7293034 (lw_Z below #[Value.ref b] s) (F0 m pc ls [.int 1]) := by
  intro T hT X
  obtain ⟨fs, hret, hrun, hended, hW, hframe⟩ := X.leave (v := some (.int 1)) (hlocks := hlocks) (fun h => by rw [hr] at h; cases h)
  have hmeth' : T.vm.method? m = some meth := X.method'
  refine ⟨T.setFrames fs, ?_, .returned (some (.int 1)), hrun, hended, rfl, lw_closed hd0 ⟨_, rfl⟩ hW hframe⟩
  jvm_step X.here [X.here.top, hx, hb, hdg, hmeth', hr, ret, narrow_b1]
  (try refine ⟨rfl, ?_⟩); (try refine ⟨rfl, ?_⟩)
  first | (intro acts; rw [hret _ acts rfl rfl rfl]) | rw [hret _ _ rfl rfl rfl]
  exact Steps.refl _
/-- what holds at the law's entry: the machine, the code, the tables' words (any of lw_tbl by 'hts w (by decide +kernel)'), the script of L ints xs at the cell b, what the Statement gives of the start (any of its parts by flat_of_before) -/
def lw_At (p : Program) (s : State) (m : MethodId) (meth : Method) (c : Code) (b L : Nat) (xs : Nat → Int32) : Prop :=
  p.tables.exec = Jvm.exec ∧ c.code = code ∧ meth.sig.returnType = ret ∧ c.maxLocals = 9 ∧ s.vm.findClass R_law = some m.cls ∧ (∀ w ∈ lw_tbl, w.before #[Value.ref b] s = true) ∧ va_X b L xs s s.heap ∧ b < s.heap.size ∧ meth.locks = false ∧ (Jvm.Cond.and given_1 narrow_1).before #[Value.ref b] s = true
theorem mo_lt1 {w : Cond} (i : Nat) (h : tables_1_1[i]? = some w) : w ∈ lw_tbl := List.mem_append_right _ (show w ∈ tables_1_1 ++ (tables_1_2 ++ (tables_1_3 ++ (tables_1_4 ++ (tables_1_5 ++ tables_1_6)))) from List.mem_append_left _ (List.mem_of_getElem? h))
theorem mo_lt2 {w : Cond} (i : Nat) (h : tables_1_2[i]? = some w) : w ∈ lw_tbl := List.mem_append_right _ (show w ∈ tables_1_1 ++ (tables_1_2 ++ (tables_1_3 ++ (tables_1_4 ++ (tables_1_5 ++ tables_1_6)))) from List.mem_append_right _ (List.mem_append_left _ (List.mem_of_getElem? h)))
theorem mo_lt3 {w : Cond} (i : Nat) (h : tables_1_3[i]? = some w) : w ∈ lw_tbl := List.mem_append_right _ (show w ∈ tables_1_1 ++ (tables_1_2 ++ (tables_1_3 ++ (tables_1_4 ++ (tables_1_5 ++ tables_1_6)))) from List.mem_append_right _ (List.mem_append_right _ (List.mem_append_left _ (List.mem_of_getElem? h))))
theorem mo_lt4 {w : Cond} (i : Nat) (h : tables_1_4[i]? = some w) : w ∈ lw_tbl := List.mem_append_right _ (show w ∈ tables_1_1 ++ (tables_1_2 ++ (tables_1_3 ++ (tables_1_4 ++ (tables_1_5 ++ tables_1_6)))) from List.mem_append_right _ (List.mem_append_right _ (List.mem_append_right _ (List.mem_append_left _ (List.mem_of_getElem? h)))))
set_option maxRecDepth 100000 in
theorem mo_strs_t : ∀ q ∈ mo_strs, Cond.stringRef RX4 q.1 q.2 ∈ lw_tbl := List.forall_mem_cons.mpr ⟨mo_lt3 87 rfl, List.forall_mem_cons.mpr ⟨mo_lt3 97 rfl, List.forall_mem_cons.mpr ⟨mo_lt3 43 rfl, List.forall_mem_cons.mpr ⟨mo_lt3 117 rfl, List.forall_mem_cons.mpr ⟨mo_lt3 125 rfl, List.forall_mem_cons.mpr ⟨mo_lt3 138 rfl, List.forall_mem_cons.mpr ⟨mo_lt3 139 rfl, List.forall_mem_cons.mpr ⟨mo_lt3 62 rfl, List.forall_mem_cons.mpr ⟨mo_lt3 151 rfl, List.forall_mem_cons.mpr ⟨mo_lt3 159 rfl, List.forall_mem_cons.mpr ⟨mo_lt3 160 rfl, List.forall_mem_cons.mpr ⟨mo_lt3 176 rfl, List.forall_mem_cons.mpr ⟨mo_lt3 180 rfl, List.forall_mem_cons.mpr ⟨mo_lt3 191 rfl, List.forall_mem_cons.mpr ⟨mo_lt3 200 rfl, List.forall_mem_cons.mpr ⟨mo_lt3 201 rfl, List.forall_mem_cons.mpr ⟨mo_lt3 209 rfl, List.forall_mem_cons.mpr ⟨mo_lt3 210 rfl, List.forall_mem_cons.mpr ⟨mo_lt3 222 rfl, List.forall_mem_cons.mpr ⟨mo_lt3 230 rfl, List.forall_mem_cons.mpr ⟨mo_lt2 239 rfl, List.forall_mem_cons.mpr ⟨mo_lt4 27 rfl, List.forall_mem_cons.mpr ⟨mo_lt4 69 rfl, List.forall_mem_cons.mpr ⟨mo_lt4 70 rfl, List.forall_mem_cons.mpr ⟨mo_lt4 82 rfl, fun _ h => absurd h List.not_mem_nil⟩⟩⟩⟩⟩⟩⟩⟩⟩⟩⟩⟩⟩⟩⟩⟩⟩⟩⟩⟩⟩⟩⟩⟩⟩
set_option maxHeartbeats 4000000 in
set_option maxRecDepth 1000000 in
theorem mo_bad_t : mo_bad.all (fun w => decide (w ∈ lw_tbl)) = true := by decide +kernel
theorem mo_Md_f4 {G G1 : mo_G} {m : Nat} (h1 : ∀ b, m ≤ b → b ≤ m + 9 → G1.1 b = G.1 b) (h2 : G1.2 m = G.2 m) (q : mo_Md G m) : mo_Md G1 m := by
  unfold mo_Md at q ⊢
  rw [h1 m (by omega) (by omega), h1 (m + 1) (by omega) (by omega), h1 (m + 2) (by omega) (by omega), h1 (m + 3) (by omega) (by omega), h1 (m + 4) (by omega) (by omega), h1 (m + 5) (by omega) (by omega), h1 (m + 6) (by omega) (by omega), h1 (m + 7) (by omega) (by omega), h1 (m + 8) (by omega) (by omega), h1 (m + 9) (by omega) (by omega), h2]
  exact q
theorem mo_Ms_f4 {G G1 : mo_G} {x : Nat} (A : ∀ b, x ≤ b → b ≤ x + 137 → G1.1 b = G.1 b ∧ G1.2 b = G.2 b) (q : mo_Ms G x) : mo_Ms G1 x := by
  refine ⟨by rw [(A x (by omega) (by omega)).1]; exact q.1, ⟨by rw [(A x (by omega) (by omega)).2]; exact mo_Ms_p0 q, mo_St_f3 (fun b h1 h2 => A b (by omega) (by omega)) (mo_Ms_r0 q)⟩, ⟨by rw [(A x (by omega) (by omega)).2]; exact mo_Ms_p1 q, mo_St_f3 (fun b h1 h2 => A b (by omega) (by omega)) (mo_Ms_r1 q)⟩, ⟨by rw [(A x (by omega) (by omega)).2]; exact mo_Ms_p2 q, by rw [(A _ (by omega) (by omega)).1]; exact mo_Ms_r2 q⟩, ⟨by rw [(A x (by omega) (by omega)).2]; exact mo_Ms_p3 q, mo_Bk_f3 (fun b h1 h2 => A b (by omega) (by omega)) (mo_Ms_r3 q)⟩, ⟨by rw [(A x (by omega) (by omega)).2]; exact mo_Ms_p4 q, mo_Tx_f3 (fun b h1 h2 => A b (by omega) (by omega)) (mo_Ms_r4 q)⟩, fun i hi => mo_St_f3 (fun b h1 h2 => A b (by omega) (by omega)) (mo_Ms_s q hi)⟩
theorem mo_sum_z : ∀ n : Nat, mo_sum (fun _ => 0) n = 0
  | 0 => rfl
  | n + 1 => by
    show mo_sum (fun _ => 0) n + 0 = 0
    rw [mo_sum_z n]; rfl
theorem mo_Iv_z : mo_Iv (fun _ => 0) 0 := by
  refine ⟨(show (0 : Int) ≤ 0 ∧ (0 : Int) ≤ 19 by decide), (show (0 : Int) ≤ 0 ∧ (0 : Int) ≤ 0 by decide), (show (0 : Int) ≤ 0 ∧ (0 : Int) ≤ 0 by decide), (show (0 : Int) ≤ 0 ∧ (0 : Int) ≤ 0 by decide), (show (0 : Int) ≤ 0 ∧ (0 : Int) ≤ 8 by decide), (show (0 : Int) ≤ 0 ∧ (0 : Int) ≤ 6 by decide), (show (0 : Int) ≤ 0 ∧ (0 : Int) ≤ 5 by decide), (show (0 : Int) ≤ 0 ∧ (0 : Int) ≤ 60 by decide), fun j hj => (show (0 : Int) ≤ 0 ∧ (0 : Int) ≤ 7 by decide), fun j hj => (show (0 : Int) ≤ 0 ∧ (0 : Int) < 32 by decide), fun j hj => (show (0 : Int) ≤ 0 ∧ (0 : Int) ≤ 0 by decide), fun j hj => (show (0 : Int) ≤ 0 ∧ (0 : Int) ≤ 0 by decide), fun j hj => (show (0 : Int) ≤ 0 ∧ (0 : Int) < 268435456 by decide), fun j hj => (show (0 : Int) ≤ 0 ∧ (0 : Int) ≤ 20 by decide), fun j hj => (show (0 : Int) ≤ 0 ∧ (0 : Int) ≤ 0 by decide), fun j hj => (show (0 : Int) ≤ 0 ∧ (0 : Int) ≤ 4 by decide), fun k hk => ?_, mo_sum_z 8, mo_sum_z 8, fun o w h1 h2 h3 => rfl⟩
  exfalso
  have hk : (k : Int) < 0 := hk
  omega
theorem mo_SR_z {M : mo_M} {h : Nat} (z : ∀ a, h ≤ a → a ≤ h + 18 → M a = fun _ => 0) : mo_SR M h (fun _ => 0) := by
  have e : ∀ a j, h ≤ a → a ≤ h + 18 → M a j = 0 := fun a j h1 h2 => by rw [z a h1 h2]
  refine ⟨e _ _ (by omega) (by omega), e _ _ (by omega) (by omega), e _ _ (by omega) (by omega), e _ _ (by omega) (by omega), e _ _ (by omega) (by omega), e _ _ (by omega) (by omega), fun j hj => e _ _ (by omega) (by omega), fun j hj => e _ _ (by omega) (by omega), fun j hj => e _ _ (by omega) (by omega), fun j hj => e _ _ (by omega) (by omega), fun j hj => e _ _ (by omega) (by omega), fun j hj => e _ _ (by omega) (by omega), fun j hj => e _ _ (by omega) (by omega), fun j hj => e _ _ (by omega) (by omega), fun k j hk hj => ?_⟩
  exfalso
  have hk : (k : Int) < 0 := hk
  omega
/-- the law's own end -/
theorem mo_lawend {p : Program} {l : Launch} {e : Env} {s : State} {m : MethodId} {below : List Frame} {meth : Method} {c : Code} {b : Nat} {ρ ρf : mo_E} {lf : Launch} (X : mo_Cx ((p, l, e, room_1, s), (m, #[Value.ref b], below, meth, c), lw_Z below #[Value.ref b] s, ρ) lf ρf cL_law 9 RL ret 11) (hbase : ρ.2.2 = s.heap.size) {dd : Drawn} (hd0 : s.drawn.sameBut dd lw_cs) {k n : Nat} {ls : List (Option Value)} {G : mo_G} {M : mo_M} {t : Nat} (hk : k ≤ 601024) (hn : n ≤ 7293034) : mo_V (mo_dr ((p, l, e, room_1, s), (m, #[Value.ref b], below, meth, c), lw_Z below #[Value.ref b] s, ρ) dd) k n 1897 ls [mo_iv 1] G M t := by
  obtain ⟨hx, hb, hml, hown, hts, hK, hlk, hrt, hb0, hRf, hRl, hlf, hρ⟩ := X
  intro H locs lr ht hR hS hl
  refine va_forget (s := s.setDrawn dd) (fun q hq => ?_) ?_
  · have h1 := hS.2.2 q hq
    show s.heap.size ≤ q.base
    rw [← hbase]
    exact h1
  · exact fun T hT XT => lw_ret hd0 hx hb hrt hlk dL_law_1897 T hT (stand_widen XT hk hn)
theorem mo_strT {l : Launch} (h : l.flags = flags0) : l.stackTraces = false := by
  unfold Launch.stackTraces
  rw [h]
  unfold flags0
  simp
set_option maxHeartbeats 8000000 in
set_option maxRecDepth 1000000 in
/-- from the entry to the loop: the class's object, the reference and the law's row are made, all zero -/
theorem whole_start {p : Program} {e : Env} {s : State} {m : MethodId} {below : List Frame} {meth : Method} {c : Code} (l : Launch) (hflags : l.flags = flags0) {b L : Nat} {xs : Nat → Int32} (hL : L ≤ 3072) (C0 : lw_At p s m meth c b L xs) : W p l e room_1 s m #[Value.ref b] below meth c s.heap [] 0 0 (lw_Z below #[Value.ref b] s) (entryFrame m ([Value.ref b] : List Value).toArray 9) := by
  obtain ⟨hx, hb, hr, hml, hown, hts, hX, hbl, hlocks, hgv⟩ := id C0
  have hg := flat_of_before _ hgv
  have htB : ∀ w ∈ mo_B, w.before #[Value.ref b] s = true := fun w h => hts w (List.mem_filter.mp h).1
  obtain ⟨c0, i0, k0⟩ := u_known (C := RX0) (T := TX0) (N := 8) (n := 8) htB mo_in_X0 (htB _ mo_wn_X0)
  obtain ⟨c1, i1, k1⟩ := u_known (C := RX1) (T := TX1) (N := 1) (n := 1) htB mo_in_X1 (htB _ mo_wn_X1)
  obtain ⟨c2, i2, k2⟩ := u_known (C := RX2) (T := TX2) (N := 15) (n := 15) htB mo_in_X2 (htB _ mo_wn_X2)
  obtain ⟨c3, i3, k3⟩ := u_known (C := RX3) (T := TX3) (N := 8) (n := 8) htB mo_in_X3 (htB _ mo_wn_X3)
  obtain ⟨c4, i4, k4⟩ := u_known (C := RX4) (T := TX4) (N := 6) (n := 6) htB mo_in_X4 (htB _ mo_wn_X4)
  obtain ⟨c5, i5, k5⟩ := u_known (C := RX5) (T := TX5) (N := 15) (n := 15) htB mo_in_X5 (htB _ mo_wn_X5)
  obtain ⟨dC, dI, hKc⟩ : ∃ (dC : Nat → ClassId) (dI : Nat → Nat → Nat), ∀ (k : Nat) (q : vw_C), vwCl[k]? = some q → u_Kn s q.1 q.2.1 q.2.2 (dC k) (dI k) := by
    refine ⟨fun k => match k with | 0 => c0 | 1 => c1 | 2 => c2 | 3 => c3 | 4 => c4 | _ => c5, fun k => match k with | 0 => i0 | 1 => i1 | 2 => i2 | 3 => i3 | 4 => i4 | _ => i5, ?_⟩
    intro k q hq
    match k, hq with
    | 0, hq => cases hq; exact k0
    | 1, hq => cases hq; exact k1
    | 2, hq => cases hq; exact k2
    | 3, hq => cases hq; exact k3
    | 4, hq => cases hq; exact k4
    | 5, hq => cases hq; exact k5
    | k + 6, hq => simp [vwCl] at hq
  obtain ⟨cI, kI, pI, fI1, fI2, fI3⟩ := Cond.arrayClass_spec (type := .int) (htB _ (mo_tb1 39 rfl rfl))
  obtain ⟨cJ, kJ, pJ, fJ1, fJ2, fJ3⟩ := Cond.arrayClass_spec (type := .long) (htB _ (mo_tb6 3 rfl rfl))
  obtain ⟨pQ, cQ, kQ, fQ1, fQ2, fQ3, fQ4, fQ5⟩ := Cond.arrayOver_spec (n := RX2) (hts (.arrayOver (.object RX2)) (mo_lt1 107 rfl))
  obtain ⟨ρ, hρ⟩ : ∃ ρ : mo_E, ρ = ((dC, dI), (cI, cJ, cQ), s.heap.size) := ⟨_, rfl⟩
  have hK : mo_K ρ s := by
    rw [hρ]
    refine ⟨hKc, fun k q hk => ?_⟩
    match k, hk with
    | 0, hk => cases hk; exact ⟨fun N z => ⟨(fun k h => by cases h), kI, fI2, pI, fI3⟩, fI1⟩
    | 1, hk => cases hk; exact ⟨fun N z => ⟨(fun k h => by cases h), kJ, fJ2, pJ, fJ3⟩, fJ1⟩
    | 2, hk => cases hk; exact ⟨fun N z => ⟨(fun k h => by cases h), kQ, fQ3, pQ, fQ4⟩, kQ, pQ, fQ3, fQ4, fQ1, fQ5⟩
    | k + 3, hk => simp [mo_tys] at hk
  have hbase : ρ.2.2 = s.heap.size := by rw [hρ]
  have hfr : ∀ a : Nat, a < s.heap.size → ¬ mo_fr ρ a := fun a h1 h2 => by
    unfold mo_fr at h2
    omega
  have hKx : mo_Kx ρ s := by
    refine ⟨vx_Zqof (hts (.laysStatic Bundle.tN "UNASSIGNED_STACK" Bundle.steD) (mo_lt2 225 rfl)) (htB _ mo_wz_Throwable) (hg (.isRef (.static Bundle.tN "UNASSIGNED_STACK" Bundle.steD)) (by decide +kernel)) hfr, vx_Zqof (hts (.laysStatic Bundle.tN "SUPPRESSED_SENTINEL" Bundle.listD) (mo_lt2 227 rfl)) (htB _ mo_wz_Throwable) (hg (.isRef (.static Bundle.tN "SUPPRESSED_SENTINEL" Bundle.listD)) (by decide +kernel)) hfr, fun q hq => ?_, fun w hw a => ?_⟩
    · have h1 := hts _ (mo_strs_t q hq)
      obtain ⟨_, _, _, sa, -, -, -, -, -, ev⟩ := Cond.stringRef_spec k4.2.1 h1
      exact ⟨sa, vk_R.of h1 ev⟩
    · have h1 := hts w (of_decide_eq_true (List.all_eq_true.mp mo_bad_t w hw))
      exact mo_bad_mv hw (Vm.Alike.refl s.vm) h1
  have hNx : mo_Nx s := ⟨va_Nc.of (hg (.not (.castable mo_IAE mo_IOE)) (by decide +kernel)), va_Nc.of (hg (.not (.castable mo_ISE mo_IOE)) (by decide +kernel)), va_Nc.of (hg (.not (.castable mo_ISE mo_IAE)) (by decide +kernel))⟩
  have hN3 : mo_N3 s := ⟨va_Nw.of rfl (hts _ (mo_lt1 25 rfl)), va_Nw.of rfl (hts _ (mo_lt1 110 rfl)), va_Nw.of rfl (hts _ (mo_lt1 144 rfl)), va_AO.of (hts _ (mo_lt1 107 rfl))⟩
  obtain ⟨hh, htab⟩ := mo_tab c
  obtain ⟨κ, hκ⟩ : ∃ κ : mo_T, κ = ((p, l, e, room_1, s), (m, #[Value.ref b], below, meth, c), lw_Z below #[Value.ref b] s, ρ) := ⟨_, rfl⟩
  have X0 : mo_Cx κ l ρ cL_law 9 RL ret 11 := by
    rw [hκ]
    exact ⟨hx, hb, hml, hown, htB, hK, hlocks, hr, by rw [hbase]; exact Nat.le_refl _, by decide, by decide, rfl, rfl⟩
  have Z0 : mo_Hx κ hh := by
    rw [hκ]
    exact ⟨hKx, hNx, htab⟩
  have hX0 : mo_Xs κ b L xs := by
    rw [hκ]
    exact ⟨hX, hbl, by rw [hbase]; exact hbl⟩
  have H3 : mo_N3 κ.1.2.2.2.2 := by
    rw [hκ]
    exact hN3
  have hRm : ∀ a q : Nat, a ≤ 601024 → q ≤ 7293034 → mo_Rm κ a q := fun a q h1 h2 => by
    rw [hκ]
    exact ⟨h1, h2⟩
  have hd0 : (mo_st κ).drawn.sameBut (mo_st κ).drawn lw_cs := Drawn.sameBut.refl _ _
  have hend : ∀ dd : Drawn, (mo_st κ).drawn.sameBut dd lw_cs → ∀ (k n : Nat) (ls : List (Option Value)) (G : mo_G) (M : mo_M) (t : Nat), k ≤ 149 + 513 → n ≤ 8529 + 3078 → mo_V (mo_dr κ dd) k n 1897 ls [mo_iv 1] G M t := by
    intro dd hdd k n ls G M t h1 h2
    rw [hκ] at X0 hdd ⊢
    exact mo_lawend X0 hbase hdd (by omega) (by omega)
  have main : mo_V (mo_dr κ (mo_st κ).drawn) 0 0 0 [some (.ref b), none, none, none, none, none, none, none, none] [] (fun _ => none, fun _ _ => none) (fun _ _ => 0) s.heap.size := by
    have X := mo_Cx_dr X0 (mo_st κ).drawn
    have H3 : mo_N3 (mo_dr κ (mo_st κ).drawn).1.2.2.2.2 := by
      rw [hκ]
      exact mo_N3_mv (u := s) (U := s.setDrawn s.drawn) (State.WarmedH.refl s) hN3
    have hRm : ∀ a q : Nat, a ≤ 601024 → q ≤ 7293034 → mo_Rm (mo_dr κ (mo_st κ).drawn) a q := fun a q h1 h2 => hRm a q h1 h2
    generalize s.heap.size = x
    refine mo_new (pc := 0) X mo_in_X4 tyX4_ok (ci := 4) rfl mo_wq_L_8 mo_wn_X4 mo_wz_X4 rfl (by decide) (hRm _ _ (by decide) (by decide)) dL_law_0 ?_
    refine mo_dup (pc := 3) X dL_law_3 rfl ?_
    refine mo_callI3 (pc := 4) (As := []) X H3 mo_k_L_93 rfl (by decide) dL_law_4 (ctX4_init (x := x) rfl (mo_gnw_1 _ _ _)) rfl (by decide) (by decide) (Nat.le_of_ble_eq_true rfl) (hRm _ _ (Nat.le_of_ble_eq_true rfl) (Nat.le_of_ble_eq_true rfl)) ?_
    rintro v1 G1 M1 t1 ⟨hv1, ht1, a1, a2, b1, b15, b2, hMs, hSg⟩
    subst hv1 ht1
    show mo_V (mo_dr κ (mo_st κ).drawn) 138 4410 7 _ [.ref x] G1 M1 (x + 138)
    refine mo_as1 (pc := 7) X dL_law_7 rfl (by decide) ?_
    refine mo_new (pc := 8) X mo_in_X5 tyX5_ok (ci := 5) rfl mo_wq_L_94 mo_wn_X5 mo_wz_X5 rfl (by decide) (hRm _ _ (by decide) (by decide)) dL_law_8 ?_
    refine mo_dup (pc := 11) X dL_law_11 rfl ?_
    refine mo_callIr (pc := 12) (As := []) X mo_k_L_96 rfl (by decide) dL_law_12 (ctX5_init (h := x + 138) rfl (mo_gnw_1 _ _ _)) rfl (by decide) (by decide) (Nat.le_of_ble_eq_true rfl) (hRm _ _ (Nat.le_of_ble_eq_true rfl) (Nat.le_of_ble_eq_true rfl)) ?_
    rintro v2 G2 M2 t2 ⟨hv2, ht2, A1, A2, B1, B2, hMd⟩
    subst hv2 ht2
    show mo_V (mo_dr κ (mo_st κ).drawn) 148 8528 15 _ [.ref (x + 138)] G2 M2 (x + 148)
    refine mo_as2 (pc := 15) X dL_law_15 rfl (by decide) ?_
    refine mo_iconst (pc := 16) X dL_law_16 ?_
    refine mo_newJ (pc := 17) (N := 1) X (by decide) (hRm _ _ (Nat.le_of_ble_eq_true rfl) (Nat.le_of_ble_eq_true rfl)) dL_law_17 ?_
    refine mo_as3 (pc := 19) X dL_law_19 rfl (by decide) ?_
    refine mo_iconst (pc := 20) X dL_law_20 ?_
    refine mo_is4 (pc := 21) X dL_law_21 rfl (by decide) ?_
    have g1 : ∀ q, q < x + 138 → (mo_gnw G2 (x + 148) (.inr (1, 1))).1 q = G1.1 q := fun q hq => by rw [mo_gnw_1n (by omega), A1 q (by omega), mo_gnw_1n (by omega)]
    have g2 : ∀ q, q < x + 138 → (mo_gnw G2 (x + 148) (.inr (1, 1))).2 q = G1.2 q := fun q hq => by rw [mo_gnw_2n (by omega), A2 q (by omega) (by omega), mo_gnw_2n (by omega)]
    have z1 : ∀ q, x + 1 ≤ q → q < x + 138 → mo_ur M2 (x + 148) (fun _ => 0) q = fun _ => 0 := fun q h1 h2 => by rw [mo_ur_n (by omega), B1 q (by omega), mo_ur_n (by omega)]; exact b2 q (by omega) (by omega)
    have zx : mo_ur M2 (x + 148) (fun _ => 0) x 5 = 0 := by rw [mo_ur_n (by omega), B1 x (by omega), mo_ur_n (by omega)]; exact b15
    have zm : mo_ur M2 (x + 148) (fun _ => 0) (x + 138) = fun _ => 0 := by rw [mo_ur_n (by omega), B1 _ (by omega), mo_ur_s]
    have z2 : ∀ q, x + 139 ≤ q → q < x + 148 → mo_ur M2 (x + 148) (fun _ => 0) q = fun _ => 0 := fun q h1 h2 => by rw [mo_ur_n (by omega)]; exact B2 q (by omega) (by omega)
    have hMs3 : mo_Ms (mo_gnw G2 (x + 148) (.inr (1, 1))) x := mo_Ms_f4 (fun q h1 h2 => ⟨g1 q (by omega), g2 q (by omega)⟩) hMs
    have hMd3 : mo_Md (mo_gnw G2 (x + 148) (.inr (1, 1))) (x + 138) := mo_Md_f4 (fun q h1 h2 => mo_gnw_1n (by omega)) (mo_gnw_2n (by omega)) hMd
    have hLI : mo_LI (mo_gnw G2 (x + 148) (.inr (1, 1))) (mo_ur M2 (x + 148) (fun _ => 0)) x (x + 138) (x + 148) 0 0 0 (4000 * ((0 : Nat) : Int)) := by
      have y1 : mo_ur M2 (x + 148) (fun _ => 0) (x + 138 + 1) = fun _ => 0 := z2 _ (by omega) (by omega)
      have y2 : mo_ur M2 (x + 148) (fun _ => 0) (x + 138 + 2) = fun _ => 0 := z2 _ (by omega) (by omega)
      have y8 : mo_ur M2 (x + 148) (fun _ => 0) (x + 138 + 8) = fun _ => 0 := z2 _ (by omega) (by omega)
      refine ⟨hMd3, mo_gnw_1 _ _ _, ⟨hMs3, fun i hi => by rw [g2 _ (by omega)]; exact hSg i hi, ?_, zx, fun i hi => by omega, by rw [z1 _ (by omega) (by omega)]; rfl, fun j hj => by omega⟩, by rw [zm]; rfl, by rw [zm]; rfl, by omega, by omega, by rw [y1]; exact mo_Iv_z, fun i hi => by omega, fun j hj => by omega, by omega, by omega⟩
      rw [y1]
      exact mo_SR_z (fun q h1 h2 => z1 q (by omega) (by omega))
    exact lc_loop (K := 149) (N := 8529) (mo_strT hflags) X0 Z0 hX0 hL (fun c hc => hRm _ _ (by omega) (by omega)) hend 512 0 _ _ _ _ 0 0 0 hd0 (by omega) (by omega) hLI
  rw [lg_entry_eq]
  refine W.base ?_
  have hl := lv_entry ([.ref b]) (n := 9) (Nat.le_of_ble_eq_true rfl)
  rw [hκ] at main
  refine main s.heap [] _ rfl (fun a e he => by cases he) va_S.rf ?_
  show lv_has _ c.maxLocals _
  rw [hml]
  exact hl
