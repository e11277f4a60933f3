/-! THE CLAIM OUT OF ONE WALK OF THE LAW'S BODY. Your part is whole_start (and what it stands on); all else here is the same for every law, but numbers. -/
def R_law : String := "MeetingOrdersLaw"
def lw_P (b : Addr) (xs : List Int32) (args : Array Value) (s : State) : Prop := args = #[.ref b] ∧ s.IntsAt b xs ∧ xs.length ≤ 260 ∧ (Jvm.Cond.and given_1 narrow_1).before args s = true
def lw_Q (_ : Array Value) (s : State) (o : Outcome) (t : State) : Prop := o = .returned (some (.int 1)) ∧ Framed s o t [] 600086 7301442
def lw_Z (below : List Frame) (a : Array Value) (s : State) : State → Prop := fun t => ∃ o, t.status = .running ∧ Ended t below o ∧ lw_Q a s o t
/-- the law's own end, with 1 on the stack, nothing written that was there before, its room as the claim has it -/
theorem lw_ret {p : Program} {l : Launch} {e : Env} {s : State} {m : MethodId} {below : List Frame} {meth : Method} {c : Code} {b : Nat} (hx : p.tables.exec = Jvm.exec) (hb : c.code = code) (hr : meth.sig.returnType = ret) (hlocks : meth.locks = false) {pc : Nat} {H : Heap} {ls : Array Slot} (hdg : decode code pc = .ok (.ireturn, 1)) : W p l e room_1 s m #[Value.ref b] below meth c H [] 600086 7301442 (lw_Z below #[Value.ref b] s) (F0 m pc ls [.int 1]) := by
  intro T hT X
  obtain ⟨fs, hret, hrun, hended, hW, hframe⟩ := X.leave (v := some (.int 1)) (hlocks := hlocks) (fun h => by rw [hr] at h; cases h)
  have hmeth' : T.vm.method? m = some meth := X.method'
  refine ⟨T.setFrames fs, ?_, .returned (some (.int 1)), hrun, hended, rfl, ⟨_, rfl⟩, hW, hframe⟩
  jvm_step X.here [X.here.top, hx, hb, hdg, hmeth', hr, ret, narrow_b1]
  (try refine ⟨rfl, ?_⟩); (try refine ⟨rfl, ?_⟩)
  first | (intro acts; rw [hret _ acts rfl rfl rfl]) | rw [hret _ _ rfl rfl rfl]
  exact Steps.refl _
/-- what holds at the law's entry: the machine, the code, the tables' words (any of lw_tbl by 'hts w (by decide +kernel)'), the script of L ints xs at the cell b, what the Statement gives of the start (any of its parts by flat_of_before) -/
def lw_At (p : Program) (s : State) (m : MethodId) (meth : Method) (c : Code) (b L : Nat) (xs : Nat → Int32) : Prop :=
  p.tables.exec = Jvm.exec ∧ c.code = code ∧ meth.sig.returnType = ret ∧ c.maxLocals = 6 ∧ s.vm.findClass R_law = some m.cls ∧ (∀ w ∈ lw_tbl, w.before #[Value.ref b] s = true) ∧ va_X b L xs s s.heap ∧ b < s.heap.size ∧ meth.locks = false ∧ (Jvm.Cond.and given_1 narrow_1).before #[Value.ref b] s = true
theorem mo_lt1 {w : Cond} (i : Nat) (h : tables_1_1[i]? = some w) : w ∈ lw_tbl := List.mem_append_right _ (show w ∈ tables_1_1 ++ (tables_1_2 ++ tables_1_3) from List.mem_append_left _ (List.mem_of_getElem? h))
theorem mo_Ms_f4 {G G1 : mo_G} {x : Nat} (A : ∀ b, x ≤ b → b ≤ x + 137 → G1.1 b = G.1 b ∧ G1.2 b = G.2 b) (q : mo_Ms G x) : mo_Ms G1 x := by
  refine ⟨by rw [(A x (by omega) (by omega)).1]; exact q.1, ⟨by rw [(A x (by omega) (by omega)).2]; exact mo_Ms_p0 q, mo_St_f3 (fun b h1 h2 => A b (by omega) (by omega)) (mo_Ms_r0 q)⟩, ⟨by rw [(A x (by omega) (by omega)).2]; exact mo_Ms_p1 q, mo_St_f3 (fun b h1 h2 => A b (by omega) (by omega)) (mo_Ms_r1 q)⟩, ⟨by rw [(A x (by omega) (by omega)).2]; exact mo_Ms_p2 q, by rw [(A _ (by omega) (by omega)).1]; exact mo_Ms_r2 q⟩, ⟨by rw [(A x (by omega) (by omega)).2]; exact mo_Ms_p3 q, mo_Bk_f3 (fun b h1 h2 => A b (by omega) (by omega)) (mo_Ms_r3 q)⟩, ⟨by rw [(A x (by omega) (by omega)).2]; exact mo_Ms_p4 q, mo_Tx_f3 (fun b h1 h2 => A b (by omega) (by omega)) (mo_Ms_r4 q)⟩, fun i hi => mo_St_f3 (fun b h1 h2 => A b (by omega) (by omega)) (mo_Ms_s q hi)⟩
theorem mo_sum_z : ∀ n : Nat, mo_sum (fun _ => 0) n = 0
  | 0 => rfl
  | n + 1 => by
    show mo_sum (fun _ => 0) n + 0 = 0
    rw [mo_sum_z n]; rfl
theorem mo_Iv_z : mo_Iv (fun _ => 0) 0 := by
  refine ⟨(show (0 : Int) ≤ 0 ∧ (0 : Int) ≤ 19 by decide), (show (0 : Int) ≤ 0 ∧ (0 : Int) ≤ 0 by decide), (show (0 : Int) ≤ 0 ∧ (0 : Int) ≤ 0 by decide), (show (0 : Int) ≤ 0 ∧ (0 : Int) ≤ 0 by decide), (show (0 : Int) ≤ 0 ∧ (0 : Int) ≤ 8 by decide), (show (0 : Int) ≤ 0 ∧ (0 : Int) ≤ 6 by decide), (show (0 : Int) ≤ 0 ∧ (0 : Int) ≤ 5 by decide), (show (0 : Int) ≤ 0 ∧ (0 : Int) ≤ 60 by decide), fun j hj => (show (0 : Int) ≤ 0 ∧ (0 : Int) ≤ 7 by decide), fun j hj => (show (0 : Int) ≤ 0 ∧ (0 : Int) < 32 by decide), fun j hj => (show (0 : Int) ≤ 0 ∧ (0 : Int) ≤ 0 by decide), fun j hj => (show (0 : Int) ≤ 0 ∧ (0 : Int) ≤ 0 by decide), fun j hj => (show (0 : Int) ≤ 0 ∧ (0 : Int) < 268435456 by decide), fun j hj => (show (0 : Int) ≤ 0 ∧ (0 : Int) ≤ 20 by decide), fun j hj => (show (0 : Int) ≤ 0 ∧ (0 : Int) ≤ 0 by decide), fun j hj => (show (0 : Int) ≤ 0 ∧ (0 : Int) ≤ 4 by decide), fun k hk => ?_, mo_sum_z 8, mo_sum_z 8, fun o w h1 h2 h3 => rfl⟩
  exfalso
  have hk : (k : Int) < 0 := hk
  omega
theorem mo_SR_z {M : mo_M} {h : Nat} (z : ∀ a, h ≤ a → a ≤ h + 18 → M a = fun _ => 0) : mo_SR M h (fun _ => 0) := by
  have e : ∀ a j, h ≤ a → a ≤ h + 18 → M a j = 0 := fun a j h1 h2 => by rw [z a h1 h2]
  refine ⟨e _ _ (by omega) (by omega), e _ _ (by omega) (by omega), e _ _ (by omega) (by omega), e _ _ (by omega) (by omega), e _ _ (by omega) (by omega), e _ _ (by omega) (by omega), fun j hj => e _ _ (by omega) (by omega), fun j hj => e _ _ (by omega) (by omega), fun j hj => e _ _ (by omega) (by omega), fun j hj => e _ _ (by omega) (by omega), fun j hj => e _ _ (by omega) (by omega), fun j hj => e _ _ (by omega) (by omega), fun j hj => e _ _ (by omega) (by omega), fun j hj => e _ _ (by omega) (by omega), fun k j hk hj => ?_⟩
  exfalso
  have hk : (k : Int) < 0 := hk
  omega
/-- the law's own end -/
theorem mo_lawend {p : Program} {l : Launch} {e : Env} {s : State} {m : MethodId} {below : List Frame} {meth : Method} {c : Code} {b : Nat} {ρ ρf : mo_E} {lf : Launch} (X : mo_Cx ((p, l, e, room_1, s), (m, #[Value.ref b], below, meth, c), lw_Z below #[Value.ref b] s, ρ) lf ρf cL_law 6 RL ret 10) (hbase : ρ.2.2 = s.heap.size) {k n : Nat} {ls : List (Option Value)} {G : mo_G} {M : mo_M} {t : Nat} (hk : k ≤ 600086) (hn : n ≤ 7301442) : mo_V ((p, l, e, room_1, s), (m, #[Value.ref b], below, meth, c), lw_Z below #[Value.ref b] s, ρ) k n 271 ls [mo_iv 1] G M t := by
  obtain ⟨hx, hb, hml, hown, hts, hK, hlk, hrt, hb0, hRf, hRl, hlf, hρ⟩ := X
  intro H locs lr ht hR hS hl
  refine va_forget (s := s) (fun q hq => ?_) ?_
  · have h1 := hS.2.2 q hq
    show s.heap.size ≤ q.base
    rw [← hbase]
    exact h1
  · exact fun T hT XT => lw_ret hx hb hrt hlk dL_law_271 T hT (stand_widen XT hk hn)
set_option maxHeartbeats 8000000 in
set_option maxRecDepth 1000000 in
/-- from the entry to the law's calls: the class's object and the two rows are made, all zero -/
theorem whole_start {p : Program} {e : Env} {s : State} {m : MethodId} {below : List Frame} {meth : Method} {c : Code} (l : Launch) (hflags : l.flags = flags0) {b L : Nat} {xs : Nat → Int32} (hL : L ≤ 260) (C0 : lw_At p s m meth c b L xs) : W p l e room_1 s m #[Value.ref b] below meth c s.heap [] 0 0 (lw_Z below #[Value.ref b] s) (entryFrame m ([Value.ref b] : List Value).toArray 6) := by
  obtain ⟨hx, hb, hr, hml, hown, hts, hX, hbl, hlocks, hgv⟩ := id C0
  have htB : ∀ w ∈ mo_B, w.before #[Value.ref b] s = true := fun w h => hts w (List.mem_filter.mp h).1
  obtain ⟨c0, i0, k0⟩ := u_known (C := RX0) (T := TX0) (N := 8) (n := 8) htB mo_in_X0 (htB _ mo_wn_X0)
  obtain ⟨c1, i1, k1⟩ := u_known (C := RX1) (T := TX1) (N := 1) (n := 1) htB mo_in_X1 (htB _ mo_wn_X1)
  obtain ⟨c2, i2, k2⟩ := u_known (C := RX2) (T := TX2) (N := 15) (n := 15) htB mo_in_X2 (htB _ mo_wn_X2)
  obtain ⟨c3, i3, k3⟩ := u_known (C := RX3) (T := TX3) (N := 8) (n := 8) htB mo_in_X3 (htB _ mo_wn_X3)
  obtain ⟨c4, i4, k4⟩ := u_known (C := RX4) (T := TX4) (N := 6) (n := 6) htB mo_in_X4 (htB _ mo_wn_X4)
  obtain ⟨dC, dI, hKc⟩ : ∃ (dC : Nat → ClassId) (dI : Nat → Nat → Nat), ∀ (k : Nat) (q : vw_C), vwCl[k]? = some q → u_Kn s q.1 q.2.1 q.2.2 (dC k) (dI k) := by
    refine ⟨fun k => match k with | 0 => c0 | 1 => c1 | 2 => c2 | 3 => c3 | _ => c4, fun k => match k with | 0 => i0 | 1 => i1 | 2 => i2 | 3 => i3 | _ => i4, ?_⟩
    intro k q hq
    match k, hq with
    | 0, hq => cases hq; exact k0
    | 1, hq => cases hq; exact k1
    | 2, hq => cases hq; exact k2
    | 3, hq => cases hq; exact k3
    | 4, hq => cases hq; exact k4
    | k + 5, hq => simp [vwCl] at hq
  obtain ⟨cI, kI, pI, fI1, fI2, fI3⟩ := Cond.arrayClass_spec (type := .int) (htB _ (mo_tb1 38 rfl rfl))
  obtain ⟨pQ, cQ, kQ, fQ1, fQ2, fQ3, fQ4, fQ5⟩ := Cond.arrayOver_spec (n := RX2) (hts (.arrayOver (.object RX2)) (mo_lt1 105 rfl))
  obtain ⟨ρ, hρ⟩ : ∃ ρ : mo_E, ρ = ((dC, dI), (cI, cI, cQ), s.heap.size) := ⟨_, rfl⟩
  have hK : mo_K ρ s := by
    rw [hρ]
    refine ⟨hKc, fun k q hk => ?_⟩
    match k, hk with
    | 0, hk => cases hk; exact ⟨fun N z => ⟨(fun k h => by cases h), kI, fI2, pI, fI3⟩, fI1⟩
    | 1, hk => cases hk; exact ⟨fun N z => ⟨(fun k h => by cases h), kI, fI2, pI, fI3⟩, fI1⟩
    | 2, hk => cases hk; exact ⟨fun N z => ⟨(fun k h => by cases h), kQ, fQ3, pQ, fQ4⟩, kQ, pQ, fQ3, fQ4, fQ1, fQ5⟩
    | k + 3, hk => simp [mo_tys] at hk
  have hbase : ρ.2.2 = s.heap.size := by rw [hρ]
  have hN3 : mo_N3 s := ⟨va_Nw.of rfl (hts _ (mo_lt1 24 rfl)), va_Nw.of rfl (hts _ (mo_lt1 108 rfl)), va_Nw.of rfl (hts _ (mo_lt1 142 rfl)), va_AO.of (hts _ (mo_lt1 105 rfl))⟩
  obtain ⟨κ, hκ⟩ : ∃ κ : mo_T, κ = ((p, l, e, room_1, s), (m, #[Value.ref b], below, meth, c), lw_Z below #[Value.ref b] s, ρ) := ⟨_, rfl⟩
  have X : mo_Cx κ l ρ cL_law 6 RL ret 10 := by
    rw [hκ]
    exact ⟨hx, hb, hml, hown, htB, hK, hlocks, hr, by rw [hbase]; exact Nat.le_refl _, by decide, by decide, rfl, rfl⟩
  have hXs : mo_Xs κ b L xs := by
    rw [hκ]
    exact ⟨hX, hbl, by rw [hbase]; exact hbl⟩
  have H3 : mo_N3 κ.1.2.2.2.2 := by
    rw [hκ]
    exact hN3
  have hRm : ∀ a q : Nat, a ≤ 600086 → q ≤ 7301442 → mo_Rm κ a q := fun a q h1 h2 => by
    rw [hκ]
    exact ⟨h1, h2⟩
  have hend : ∀ (ls : List (Option Value)) (G : mo_G) (M : mo_M) (t : Nat), mo_V κ 140 4538 271 ls [mo_iv 1] G M t := by
    intro ls G M t
    rw [hκ] at X ⊢
    exact mo_lawend X hbase (Nat.le_of_ble_eq_true rfl) (Nat.le_of_ble_eq_true rfl)
  have main : mo_V κ 0 0 0 [some (.ref b), none, none, none, none, none] [] (fun _ => none, fun _ _ => none) (fun _ _ => 0) s.heap.size := by
    generalize s.heap.size = x
    refine mo_new (pc := 0) X mo_in_X4 tyX4_ok (ci := 4) rfl mo_wq_L_10 mo_wn_X4 mo_wz_X4 rfl (by decide) (hRm _ _ (Nat.le_of_ble_eq_true rfl) (Nat.le_of_ble_eq_true rfl)) dL_law_0 ?_
    refine mo_dup (pc := 3) X dL_law_3 rfl ?_
    refine mo_callI3 (pc := 4) (As := []) X H3 mo_k_L_85 rfl (by decide) dL_law_4 (ctX4_init (x := x) rfl (mo_gnw_1 _ _ _)) rfl (by decide) (by decide) (Nat.le_of_ble_eq_true rfl) (hRm _ _ (Nat.le_of_ble_eq_true rfl) (Nat.le_of_ble_eq_true rfl)) ?_
    rintro v1 G1 M1 t1 ⟨hv1, ht1, a1, a2, b1, b15, b2, hMs, hSg⟩
    subst hv1 ht1
    show mo_V κ 138 4410 7 _ [.ref x] G1 M1 (x + 138)
    refine mo_as1 (pc := 7) X dL_law_7 rfl (by decide) ?_
    refine mo_bipush (pc := 8) X dL_law_8 (by decide) ?_
    refine mo_newI (pc := 10) (N := 64) X (by decide) (hRm _ _ (Nat.le_of_ble_eq_true rfl) (Nat.le_of_ble_eq_true rfl)) dL_law_10 ?_
    refine mo_as2 (pc := 12) X dL_law_12 rfl (by decide) ?_
    refine mo_bipush (pc := 13) X dL_law_13 (by decide) ?_
    refine mo_newI (pc := 15) (N := 64) X (by decide) (hRm _ _ (Nat.le_of_ble_eq_true rfl) (Nat.le_of_ble_eq_true rfl)) dL_law_15 ?_
    refine mo_as3 (pc := 17) X dL_law_17 rfl (by decide) ?_
    have g1 : ∀ q, q < x + 138 → (mo_gnw (mo_gnw G1 (x + 138) (.inr (0, 64))) (x + 138 + 1) (.inr (0, 64))).1 q = G1.1 q := fun q hq => by rw [mo_gnw_1n (by omega), mo_gnw_1n (by omega)]
    have g2 : ∀ q, q < x + 138 → (mo_gnw (mo_gnw G1 (x + 138) (.inr (0, 64))) (x + 138 + 1) (.inr (0, 64))).2 q = G1.2 q := fun q hq => by rw [mo_gnw_2n (by omega), mo_gnw_2n (by omega)]
    have z0 : ∀ q, q < x + 138 → mo_ur (mo_ur M1 (x + 138) (fun _ => 0)) (x + 138 + 1) (fun _ => 0) q = M1 q := fun q hq => by rw [mo_ur_n (by omega), mo_ur_n (by omega)]
    have z1 : ∀ q, x + 1 ≤ q → q < x + 138 → mo_ur (mo_ur M1 (x + 138) (fun _ => 0)) (x + 138 + 1) (fun _ => 0) q = fun _ => 0 := fun q h1 h2 => by rw [z0 q h2]; exact b2 q (by omega) (by omega)
    have hMs3 : mo_Ms (mo_gnw (mo_gnw G1 (x + 138) (.inr (0, 64))) (x + 138 + 1) (.inr (0, 64))) x := mo_Ms_f4 (fun q h1 h2 => ⟨g1 q (by omega), g2 q (by omega)⟩) hMs
    have hWd : mo_Wd (mo_gnw (mo_gnw G1 (x + 138) (.inr (0, 64))) (x + 138 + 1) (.inr (0, 64))) (mo_ur (mo_ur M1 (x + 138) (fun _ => 0)) (x + 138 + 1) (fun _ => 0)) x (fun _ => 0) 0 := by
      refine ⟨fun _ => 0, 0, fun _ _ => 0, 0, ⟨hMs3, fun i hi => by rw [g2 _ (by omega)]; exact hSg i hi, mo_SR_z (fun q h1 h2 => z1 q (by omega) (by omega)), by rw [z0 x (by omega)]; exact b15, fun i hi => by omega, by rw [z1 _ (by omega) (by omega)]; rfl, fun j hj => by omega⟩, by omega, fun i hi => by omega, mo_Iv_z⟩
    exact ll_start (h := x + 138) (h2 := x + 138 + 1) hL X hXs (hRm 140 4538 (Nat.le_of_ble_eq_true rfl) (Nat.le_of_ble_eq_true rfl)) (Or.inr (by omega)) (Or.inr (by omega)) (by omega) hend hWd (by rw [mo_gnw_1n (by omega), mo_gnw_1]) (mo_gnw_1 _ _ _) (fun j => by rw [mo_ur_n (by omega), mo_ur_s])
  rw [lg_entry_eq]
  have hl := lv_entry ([.ref b]) (n := 6) (Nat.le_of_ble_eq_true rfl)
  rw [hκ] at main
  refine main s.heap [] _ rfl (fun a e he => by cases he) va_S.rf ?_
  show lv_has _ c.maxLocals _
  rw [hml]
  exact hl
