set_option maxHeartbeats 4000000 in
set_option maxRecDepth 100000 in
theorem ct4_undo {lf : Launch} {ρf : mo_E} {G : mo_G} {M : mo_M} {t : Nat} (hlf : lf.stackTraces = false) {x n sv s : Nat} {g T : Nat → Int} {S : Nat → Nat → Int} {B : Int} (hC : mo_CI G M x g n T sv S s) (hI : mo_Iv g B) (hB : B ≤ 700000000) (hsv : sv ≤ 4) (hIS : ∀ i, i < sv → mo_Iv (S i) B) : mo_Cv lf ρf yX4_undo cX4_undo 1 (some .int) 6 1 6 [.ref x] G M t (fun u G' M' t' => G' = G ∧ t' = t ∧ 0 < sv ∧ u = some (mo_iv ((sv : Int) - 1)) ∧ (∀ a, mo_oz x a → M' a = M a) ∧ mo_CI G' M' x (S (sv - 1)) n T (sv - 1) S s) (fun E G' M' t' => G' = G ∧ M' = M ∧ t ≤ t' ∧ E = mo_ISE ∧ sv = 0) := by
  refine mo_ofWX (ls0 := [some (.ref x)]) (by decide) rfl (Nat.le_of_ble_eq_true rfl) ?_
  intro κ X Y
  have X : mo_Cx κ lf ρf cX4_undo 1 RX4 (some .int) 6 := X
  obtain ⟨hx, hg, hS, h5, hSv, ht, hT⟩ := id hC
  refine mo_al0 (pc := 0) X dX4_undo_0 ?_
  refine mo_f_X4_37 (pc := 1) X dX4_undo_1 (mo_Ms_o hx) ?_
  rw [h5]
  refine mo_iconst (pc := 4) X dX4_undo_4 ?_
  refine mo_ic_lt (pc := 5) (tgt := 20) X dX4_undo_5 (by decide) ?_ ?_ (fun c_5 => ?_) (fun c_5 => ?_)
  · omega
  · omega
  · skip
    refine mo_thrSW (pc := 20) (names := mo_nm) (text := "there is no saved state") X Y hlf (by decide +kernel) mo_fitN mo_wq_X4_58 mo_wz_IllegalStateException (by decide) mo_hatT mo_vtT dX4_undo_20 dX4_undo_23 dX4_undo_24 dX4_undo_27 dX4_undo_30 (by decide) (Nat.le_of_ble_eq_true rfl) (by decide) (by decide) (fun t9 h9 => ?_)
    exact ⟨rfl, rfl, h9, rfl, by omega⟩
  · skip
    refine mo_al0 (pc := 8) X dX4_undo_8 ?_
    refine mo_f_X4_37 (pc := 9) X dX4_undo_9 (mo_Ms_o hx) ?_
    rw [h5]
    refine mo_al0 (pc := 12) X dX4_undo_12 ?_
    refine mo_f_X4_19 (pc := 13) X dX4_undo_13 (mo_Ms_o hx) (mo_Ms_p2 hx) ?_
    refine mo_alenQ (pc := 16) X dX4_undo_16 (mo_Ms_r2 hx) ?_
    refine mo_ic_le (pc := 17) (tgt := 31) X dX4_undo_17 (by decide) ?_ ?_ (fun c_17 => ?_) (fun c_17 => ?_)
    · omega
    · omega
    · skip
      refine mo_toN X Y (fun κ X Y => ?_)
      have hgi : G.2 (x + 39) ((sv : Int) - 1).toNat = some (x + 40 + 19 * ((sv - 1 + s) % 4)) := by rw [show ((sv : Int) - 1).toNat = sv - 1 by omega]; exact hg (sv - 1) (by omega)
      have hst : mo_St G (x + 40 + 19 * ((sv - 1 + s) % 4)) := mo_Ms_s hx (by omega)
      refine mo_al0 (pc := 31) X dX4_undo_31 ?_
      refine mo_dup (pc := 32) X dX4_undo_32 rfl ?_
      refine mo_f_X4_37 (pc := 33) X dX4_undo_33 (mo_Ms_o hx) ?_
      rw [h5]
      refine mo_iconst (pc := 36) X dX4_undo_36 ?_
      refine mo_isub (pc := 37) X dX4_undo_37 ?_
      refine mo_p_X4_37 (pc := 38) X dX4_undo_38 (mo_Ms_o hx) ?_
      refine mo_al0 (pc := 41) X dX4_undo_41 ?_
      refine mo_f_X4_12 (pc := 42) X dX4_undo_42 (mo_Ms_o hx) (mo_Ms_p0 hx) ?_
      refine mo_al0 (pc := 45) X dX4_undo_45 ?_
      refine mo_f_X4_19 (pc := 46) X dX4_undo_46 (mo_Ms_o hx) (mo_Ms_p2 hx) ?_
      refine mo_al0 (pc := 49) X dX4_undo_49 ?_
      refine mo_f_X4_37 (pc := 50) X dX4_undo_50 (mo_Ms_o hx) ?_
      rw [mo_ur_s, mo_up_s]
      refine mo_aald (pc := 53) X dX4_undo_53 (mo_Ms_r2 hx) (by decide) (by omega) (by omega) hgi ?_
      refine mo_cVV (pc := 54) (As := [_]) X mo_k_X4_269 mo_y_yX2_copyFrom rfl dX4_undo_54 (ct2_copyFrom (mo_Ms_r0 hx) hst (by omega) (mo_SR_fr (hSv (sv - 1) (by omega)) fun a a1 a2 => mo_ur_n (by omega)) (hIS (sv - 1) (by omega))) (mo_St_o (mo_Ms_r0 hx)) rfl (by decide) (by decide) (Nat.le_of_ble_eq_true rfl) ?_
      rintro M_54 ⟨s_54, f_54⟩
      refine mo_al0 (pc := 57) X dX4_undo_57 ?_
      refine mo_f_X4_37 (pc := 58) X dX4_undo_58 (mo_Ms_o hx) ?_
      rw [f_54 _ (by omega), mo_ur_s, mo_up_s]
      refine mo_wd (k2 := 1) (n2 := 6) (Nat.zero_le _) (Nat.zero_le _) ?_
      refine mo_iret (pc := 61) X Y rfl dX4_undo_61 ⟨rfl, rfl, by omega, rfl, fun a ha => by rw [f_54 a (by omega), mo_ur_n (by omega)], hx, hg, s_54, ?_, fun i hi => mo_SR_fr (hSv i (by omega)) fun a a1 a2 => by rw [f_54 a (by omega), mo_ur_n (by omega)], by rw [f_54 _ (by omega), mo_ur_n (by omega)]; exact ht, fun j hj => by rw [f_54 _ (by omega), mo_ur_n (by omega)]; exact hT j hj⟩
      rw [f_54 _ (by omega), mo_ur_s, mo_up_s]
      omega
    · exfalso
      omega
/-! doubles, and what draws -/
def mo_st (κ : mo_T) : State := κ.1.2.2.2.2
def mo_dr (κ : mo_T) (d : Drawn) : mo_T := ((κ.1.1, κ.1.2.1, κ.1.2.2.1, κ.1.2.2.2.1, κ.1.2.2.2.2.setDrawn d), κ.2.1, κ.2.2.1, κ.2.2.2)
def mo_CtD (l : Launch) (ρ : mo_E) (y : MethodName) (cc : ByteArray) (maxL : Nat) (ret : Option FieldType) (d kc ks : Nat) (av : List Value) (G : mo_G) (M : mo_M) (t : Nat) (post : Option Value → mo_G → mo_M → Nat → Prop) : Prop :=
  MetD lw_cs l y (mo_ws y cc maxL ret) (mo_rm d kc ks) (va_Pc av (mo_Bc ρ G M t)) (mo_Qc ρ post) kc ks (mo_fr ρ)
def mo_RtD (κ : mo_T) (post : Option Value → mo_G → mo_M → Nat → Prop) (kc ks : Nat) : Prop := match κ with
  | ((_, _, _, _, s), (_, args, below, _, _), Q, ρ) => Q = MQD lw_cs below (mo_Qc ρ post) args s kc ks (mo_fr ρ)
theorem mo_ofWD {l : Launch} {ρ : mo_E} {y : MethodName} {cc : ByteArray} {maxL d kc ks : Nat} {ret : Option FieldType} {av : List Value} {G : mo_G} {M : mo_M} {t : Nat} {post : Option Value → mo_G → mo_M → Nat → Prop} {ls0 : List (Option Value)}
    (hy : plainName y.cls = true) (hls : mo_en 0 ls0 = lv_args 0 av) (hlen : (lg_sl av).length ≤ maxL)
    (body : ∀ κ : mo_T, mo_Cx κ l ρ cc maxL y.cls ret d → mo_RtD κ post kc ks → (mo_st κ).drawn.sameBut (mo_st κ).drawn lw_cs → mo_V (mo_dr κ (mo_st κ).drawn) 0 0 0 ls0 [] G M t) : mo_CtD l ρ y cc maxL ret d kc ks av G M t post := by
  unfold mo_CtD
  refine MetD.ofW (cc := cc) (maxL := maxL) (ret := ret) hy rfl ?_
  intro p e s m args below meth c s₁ B hml hv hd0
  obtain ⟨rfl, hsz, hR, hK, hb0⟩ := hv
  have hl := lv_entry av (n := maxL) hlen
  rw [lg_entry_eq]
  have hts := atoms_spec (ws := mo_ws y cc maxL ret) B.pre
  refine body ((p, l, e, mo_rm d kc ks, s), (m, av.toArray, below, meth, c), MQD lw_cs below (mo_Qc ρ post) av.toArray s kc ks (mo_fr ρ), ρ) ⟨B.exec, B.bytes, hml, findClass_of_methodNamed B.named, fun w h => hts w (List.mem_cons_of_mem _ h), hK, B.notSynchronized, B.returns, by rw [hsz]; exact hb0, Nat.le_refl _, Nat.le_refl _, rfl, rfl⟩ rfl hd0 s.heap [] _ hsz hR va_S.rf ?_
  rw [hls]
  show lv_has _ c.maxLocals _
  rw [hml]
  exact hl
section MOD
variable {κ : mo_T} {lf : Launch} {ρf : mo_E} {cc : ByteArray} {nL : Nat} {own : String} {ret : Option FieldType} {d k n pc : Nat} {ls : List (Option Value)} {st : List Value} {G : mo_G} {M : mo_M} {t : Nat} {hh : List (Nat × Nat × Nat × Nat)}
theorem mo_Cx_dr (X : mo_Cx κ lf ρf cc nL own ret d) (dd : Drawn) : mo_Cx (mo_dr κ dd) lf ρf cc nL own ret d := by
  obtain ⟨⟨p, l, e, R, s⟩, ⟨m, args, below, meth, c⟩, Q, ρ⟩ := κ
  obtain ⟨hx, hb, hml, hown, hts, hK, hlk, hrt, hb0, hRf, hRl, hlf, hρ⟩ := X
  exact ⟨hx, hb, hml, hown, dr_words hts dd, va_K.moved (u := s) (U := s.setDrawn dd) (Vm.Alike.refl s.vm) hK, hlk, hrt, hb0, hRf, hRl, hlf, hρ⟩
theorem mo_Hx_dr (Z : mo_Hx κ hh) (dd : Drawn) : mo_Hx (mo_dr κ dd) hh := by
  obtain ⟨⟨p, l, e, R, s⟩, ⟨m, args, below, meth, c⟩, Q, ρ⟩ := κ
  obtain ⟨⟨h1, h2, h3⟩, hN, htab⟩ := Z
  exact ⟨⟨vx_Zq.moved (u := s) (U := s.setDrawn dd) (Vm.Alike.refl s.vm) h1, vx_Zq.moved (u := s) (U := s.setDrawn dd) (Vm.Alike.refl s.vm) h2, mo_Ks_sm (u := s) (U := s.setDrawn dd) rfl h3⟩, mo_Nx_mv (u := s) (U := s.setDrawn dd) (Vm.Alike.refl s.vm) hN, htab⟩
theorem mo_i2d (X : mo_Cx κ lf ρf cc nL own ret d) {x : Int} (hd : decode cc pc = .ok (.i2d, 1)) (kk : mo_V κ k n (pc + 1) ls (.double (FP.i2d (Int32.ofInt x)) :: st) G M t) : mo_V κ k n pc ls (mo_iv x :: st) G M t := by
  obtain ⟨⟨p, l, e, R, s⟩, ⟨m, args, below, meth, c⟩, Q, ρ⟩ := κ
  obtain ⟨hx, hb, hml, hown, hts, hK, hlk, hrt, hb0, hRf, hRl, hlf, hρ⟩ := X
  intro H locs lr ht hR hS hl
  exact lv_i2d hx hb hd (kk H locs lr ht hR hS hl)
theorem mo_dc1 (X : mo_Cx κ lf ρf cc nL own ret d) (hd : decode cc pc = .ok (.dconst 1, 1)) (kk : mo_V κ k n (pc + 1) ls (.double FP.dconst1 :: st) G M t) : mo_V κ k n pc ls st G M t := by
  obtain ⟨⟨p, l, e, R, s⟩, ⟨m, args, below, meth, c⟩, Q, ρ⟩ := κ
  obtain ⟨hx, hb, hml, hown, hts, hK, hlk, hrt, hb0, hRf, hRl, hlf, hρ⟩ := X
  intro H locs lr ht hR hS hl
  exact lv_dconst1 hx hb hd (kk H locs lr ht hR hS hl)
theorem mo_ddivA (X : mo_Cx κ lf ρf cc nL own ret d) {d0 : Drawn} (hd0 : (mo_st κ).drawn.sameBut d0 lw_cs) {x y : UInt64} (hd : decode cc pc = .ok (.ddiv, 1)) (kk : ∀ (r : UInt64) (d1 : Drawn), alike64 r (FP.ddiv x y) = true → (mo_st κ).drawn.sameBut d1 lw_cs → mo_V (mo_dr κ d1) k n (pc + 1) ls (.double r :: st) G M t) : mo_V (mo_dr κ d0) k n pc ls (.double y :: .double x :: st) G M t := by
  obtain ⟨⟨p, l, e, R, s⟩, ⟨m, args, below, meth, c⟩, Q, ρ⟩ := κ
  obtain ⟨hx, hb, hml, hown, hts, hK, hlk, hrt, hb0, hRf, hRl, hlf, hρ⟩ := X
  intro H locs lr ht hR hS hl
  exact lv_ddiv_any hd0 lw_bits hx hb hd (fun r d1 h1 h2 => kk r d1 h1 h2 H locs lr ht hR hS hl)
theorem mo_dretD (X : mo_Cx κ lf ρf cc nL own ret d) {post : Option Value → mo_G → mo_M → Nat → Prop} (Y : mo_RtD κ post k n) {d1 : Drawn} (hd1 : (mo_st κ).drawn.sameBut d1 lw_cs) {r : UInt64} (hr : ret = some .double) (hd : decode cc pc = .ok (.dreturn, 1)) (hp : post (some (.double r)) G M t) : mo_V (mo_dr κ d1) k n pc ls [.double r] G M t := by
  obtain ⟨⟨p, l, e, R, s⟩, ⟨m, args, below, meth, c⟩, Q, ρ⟩ := κ
  obtain ⟨hx, hb, hml, hown, hts, hK, hlk, hrt, hb0, hRf, hRl, hlf, hρ⟩ := X
  have hY : Q = MQD lw_cs below (mo_Qc ρ post) args s k n (mo_fr ρ) := Y
  subst hY
  intro H locs lr ht hR hS hl
  refine W.endD hd1 ?_
  exact W.dret (s := s.setDrawn d1) hx hb (hrt.trans hr) (fun u hu hW => ⟨⟨_, G, M, rfl, by rw [hu, ht]; exact hp, by rw [hu]; exact hR⟩, hS.F hu⟩) hS.2.2 hd hlk
theorem mo_callVD (X : mo_Cx κ lf ρf cc nL own ret d) {d0 : Drawn} (hd0 : (mo_st κ).drawn.sameBut d0 lw_cs) {y : MethodName} {bytes : ByteArray} {maxL d' kc ks b ci N index : Nat} {ret' : Option FieldType} {As rest : List Value} {C : String} {T : u_T} {post : Option Value → mo_G → mo_M → Nat → Prop} (hL : mo_LkV own index C y bytes maxL ret') (hy : mo_dV y C As.length) (hcl : vwCl[ci]? = some (C, T, N)) (hd : decode cc pc = .ok (.invokevirtual index, 3)) (hC : mo_CtD lf ρf y bytes maxL ret' d' kc ks (.ref b :: As) G M t post) (hG : G.1 b = some (.inl ci)) (hst : st = As.reverse ++ .ref b :: rest) (hdd : d' + 1 ≤ d) (hmx : maxL ≤ 11) (hsum : (rest.map fun v => v.category).sum ≤ 8) (hroom : mo_Rm κ (k + kc) (n + ks)) (kk : ∀ v G' M' t' d1, post v G' M' t' → (mo_st κ).drawn.sameBut d1 lw_cs → mo_V (mo_dr κ d1) (k + kc) (n + ks) (pc + 3) ls (v.toList ++ rest) G' M' t') : mo_V (mo_dr κ d0) k n pc ls st G M t := by
  obtain ⟨⟨p, l, e, R, s⟩, ⟨m, args, below, meth, c⟩, Q, ρ⟩ := κ
  obtain ⟨hx, hb, hml, hown, hts, hK, hlk, hrt, hb0, hRf, hRl, hlf, hρ⟩ := X
  subst hlf
  subst hρ
  intro H locs lr ht hR hS hl
  have hPc := mo_one (hR b _ hG).2
  have hK0 : mo_K ρ (s.setDrawn d0) := va_K.moved (u := s) (U := s.setDrawn d0) (Vm.Alike.refl s.vm) hK
  have hr := va_runV_D (cs := lw_cs) (As := As) (rest := rest) (g := F0 m pc lr st) (H := H) (locs := locs) (cells := k) (slots := n) (p := p) (l := l) (e := e) (R := R) (s := s.setDrawn d0) (below := below) (meth := meth) (c := c) (b := b) (C := C) ⟨hx, hb, hml, hown, dr_words hts d0⟩ hC (cwV As.length (dr_words hts d0) (mo_gwV hL) rfl rfl rfl hy ⟨Nat.le_trans hdd hRf, by show 8 + (maxL + 11) + 30 * d' ≤ R.locals; omega⟩) ⟨mo_fb _ _ _ _ _, va_recv hK0 hPc (ci := ci) (q0 := 0) hcl rfl, fun U hU hW => ⟨rfl, by rw [hU]; exact ht, by rw [hU]; exact hR, va_K.moved hW.alike hK0, by rw [← ht]; exact Nat.le_trans hb0 hS.1⟩⟩ rfl rfl (hl.1.trans hml) hst (lv_room hsum) hd hroom
  intro T1 hT XT
  obtain ⟨v, st₀, t1, T', L, d', hd', h0, X', hL1, e1, e2, ⟨⟨v', G', M', hv, hp, hR'⟩, hz, hk⟩, stp⟩ := hr T1 hT XT
  obtain rfl : v = v' := Outcome.returned.inj hv
  rw [h0] at hz hk
  have hS' : va_S (fun q => ρ.2.2 ≤ q) s.heap T'.heap (locs ++ L) := by
    refine ⟨Nat.le_trans hS.1 (by rw [e1]; exact hz), fun q h1 h2 => ?_, fun q hq => ?_⟩
    · rw [e1, hk q (Nat.lt_of_lt_of_le h1 hS.1) h2]
      exact hS.2.1 q h1 h2
    · rcases List.mem_append.mp hq with h | h
      · exact hS.2.2 q h
      · exact hL1 q h
  obtain ⟨t2, a1, b1⟩ := kk v G' M' t1.heap.size d' hp (hd0.trans hd') T'.heap (locs ++ L) lr (by rw [e1]) (by rw [e1]; exact hR') hS' hl T' rfl X'
  exact ⟨t2, stp t2 a1, b1⟩
end MOD
def mo_kDb (a b : Int) (r : UInt64) : Prop := (b = 0 ∧ r = FP.dconst1) ∨ (b ≠ 0 ∧ alike64 r (FP.ddiv (FP.i2d (Int32.ofInt a)) (FP.i2d (Int32.ofInt b))) = true)
set_option maxHeartbeats 4000000 in
set_option maxRecDepth 100000 in
theorem ct4_kept {lf : Launch} {ρf : mo_E} {G : mo_G} {M : mo_M} {t : Nat} {g : Nat → Int} {B : Int} {x : Nat} (hx : mo_Ms G x) (hS : mo_SR M (x + 1) g) (hI : mo_Iv g B) (hB : B ≤ 800000000) : mo_CtD lf ρf yX4_kept cX4_kept 3 (some .double) 1 0 0 [.ref x] G M t (fun v G' M' t' => G' = G ∧ t' = t ∧ M' = M ∧ ∃ r, v = some (.double r) ∧ mo_kDb (g 2) (g 2 + g 3) r) := by
  refine mo_ofWD (ls0 := [some (.ref x), none, none]) (by decide) rfl (Nat.le_of_ble_eq_true rfl) ?_
  intro κ0 X0 Y hd0
  have X : mo_Cx (mo_dr κ0 (mo_st κ0).drawn) lf ρf cX4_kept 3 RX4 (some .double) 1 := mo_Cx_dr X0 _
  obtain ⟨hI0, hI1, hI2, hI3, hI4, hI5, hI6, hI7, hIh, hIa, hIe, hIm, hIs, hIl, hIw, hIr, hIt, hIs2, hIs3, hIz⟩ := id hI
  obtain ⟨s0, s1, s2, s3, s4, s5, sH, sA, sE, sM, sS, sL, sW, sRo, sF⟩ := id hS
  have hsh : mo_sum (M (x + 7)) 8 = g 2 := by rw [← hIs2]; exact mo_sum_congr fun j hj => sE j hj
  have hsm : mo_sum (M (x + 9)) 8 = g 3 := by rw [← hIs3]; exact mo_sum_congr fun j hj => sM j hj
  refine mo_al0 (pc := 0) X dX4_kept_0 ?_
  refine mo_f_X4_12 (pc := 1) X dX4_kept_1 (mo_Ms_o hx) (mo_Ms_p0 hx) ?_
  refine mo_f_X4_213 (pc := 4) X dX4_kept_4 (mo_St_o (mo_Ms_r0 hx)) (mo_St_p8 (mo_Ms_r0 hx)) ?_
  refine mo_cVI (pc := 7) (As := []) X mo_k_X4_252 mo_y_yX1_sum rfl dX4_kept_7 (ct_sum (a := x + 7) (mo_St_r8 (mo_Ms_r0 hx)) rfl (by omega)) (mo_St_r8 (mo_Ms_r0 hx)).1 rfl (by decide) (by decide) (Nat.le_of_ble_eq_true rfl) ?_
  rintro r_7 _ ⟨h_7, rfl⟩
  obtain rfl := h_7.trans hsh
  refine mo_is1 (pc := 10) X dX4_kept_10 rfl (by decide) ?_
  refine mo_il1 (pc := 11) X dX4_kept_11 ?_
  refine mo_al0 (pc := 12) X dX4_kept_12 ?_
  refine mo_f_X4_12 (pc := 13) X dX4_kept_13 (mo_Ms_o hx) (mo_Ms_p0 hx) ?_
  refine mo_f_X4_216 (pc := 16) X dX4_kept_16 (mo_St_o (mo_Ms_r0 hx)) (mo_St_p9 (mo_Ms_r0 hx)) ?_
  refine mo_cVI (pc := 19) (As := []) X mo_k_X4_252 mo_y_yX1_sum rfl dX4_kept_19 (ct_sum (a := x + 9) (mo_St_r9 (mo_Ms_r0 hx)) rfl (by omega)) (mo_St_r9 (mo_Ms_r0 hx)).1 rfl (by decide) (by decide) (Nat.le_of_ble_eq_true rfl) ?_
  rintro r_19 _ ⟨h_19, rfl⟩
  obtain rfl := h_19.trans hsm
  refine mo_iadd (pc := 22) X dX4_kept_22 ?_
  refine mo_is2 (pc := 23) X dX4_kept_23 rfl (by decide) ?_
  refine mo_il2 (pc := 24) X dX4_kept_24 ?_
  refine mo_if_ne (pc := 25) (tgt := 30) X dX4_kept_25 (by decide) ?_ (fun c_25 => ?_) (fun c_25 => ?_)
  · omega
  · skip
    refine mo_il1 (pc := 30) X dX4_kept_30 ?_
    refine mo_i2d (pc := 31) X dX4_kept_31 ?_
    refine mo_il2 (pc := 32) X dX4_kept_32 ?_
    refine mo_i2d (pc := 33) X dX4_kept_33 ?_
    refine mo_ddivA (pc := 34) X0 hd0 dX4_kept_34 (fun r d1 h1 hd1 => ?_)
    exact mo_dretD (pc := 35) X0 Y hd1 rfl dX4_kept_35 ⟨rfl, rfl, rfl, _, rfl, Or.inr ⟨c_25, h1⟩⟩
  · skip
    refine mo_dc1 (pc := 28) X dX4_kept_28 ?_
    exact mo_dretD (pc := 29) X0 Y hd0 rfl dX4_kept_29 ⟨rfl, rfl, rfl, _, rfl, Or.inl ⟨by omega, rfl⟩⟩
set_option maxHeartbeats 4000000 in
set_option maxRecDepth 100000 in
theorem ct5_kept {lf : Launch} {ρf : mo_E} {G : mo_G} {M : mo_M} {t : Nat} {m : Nat} (hm : mo_Md G m) {B : Int} (hI : mo_Iv (M (m + 1)) B) (hB : B ≤ 800000000) : mo_CtD lf ρf yX5_kept cX5_kept 2 (some .double) 1 0 0 [.ref m] G M t (fun v G' M' t' => G' = G ∧ t' = t ∧ M' = mo_ur M m (va_up (M m) 4 0) ∧ ∃ r, v = some (.double r) ∧ mo_kDb (M (m + 1) 2) (M (m + 1) 2 + M (m + 1) 3) r) := by
  refine mo_ofWD (ls0 := [some (.ref m), none]) (by decide) rfl (Nat.le_of_ble_eq_true rfl) ?_
  intro κ0 X0 Y hd0
  have X : mo_Cx (mo_dr κ0 (mo_st κ0).drawn) lf ρf cX5_kept 2 RX5 (some .double) 1 := mo_Cx_dr X0 _
  obtain ⟨hI0, hI1, hI2, hI3, hI4, -⟩ := id hI
  refine mo_al0 (pc := 0) X dX5_kept_0 ?_
  refine mo_iconst (pc := 1) X dX5_kept_1 ?_
  refine mo_p_X5_37 (pc := 2) X dX5_kept_2 (mo_Md_o hm) ?_
  have e1 : mo_ur M m (va_up (M m) 4 0) (m + 1) = M (m + 1) := mo_ur_n (by omega)
  refine mo_al0 (pc := 5) X dX5_kept_5 ?_
  refine mo_f_X5_7 (pc := 6) X dX5_kept_6 (mo_Md_o hm) (mo_Md_p0 hm) ?_
  refine mo_iconst (pc := 9) X dX5_kept_9 ?_
  refine mo_iald (pc := 10) (j := 2) X dX5_kept_10 (mo_Md_r0 hm) (by omega) ?_ ?_ rfl ?_
  · omega
  · omega
  rw [e1]
  refine mo_al0 (pc := 11) X dX5_kept_11 ?_
  refine mo_f_X5_7 (pc := 12) X dX5_kept_12 (mo_Md_o hm) (mo_Md_p0 hm) ?_
  refine mo_iconst (pc := 15) X dX5_kept_15 ?_
  refine mo_iald (pc := 16) (j := 3) X dX5_kept_16 (mo_Md_r0 hm) (by omega) ?_ ?_ rfl ?_
  · omega
  · omega
  rw [e1]
  refine mo_iadd (pc := 17) X dX5_kept_17 ?_
  refine mo_is1 (pc := 18) X dX5_kept_18 rfl (by decide) ?_
  refine mo_il1 (pc := 19) X dX5_kept_19 ?_
  refine mo_if_ne (pc := 20) (tgt := 27) X dX5_kept_20 (by decide) ?_ (fun c_20 => ?_) (fun c_20 => ?_)
  · omega
  · skip
    refine mo_al0 (pc := 27) X dX5_kept_27 ?_
    refine mo_f_X5_7 (pc := 28) X dX5_kept_28 (mo_Md_o hm) (mo_Md_p0 hm) ?_
    refine mo_iconst (pc := 31) X dX5_kept_31 ?_
    refine mo_iald (pc := 32) (j := 2) X dX5_kept_32 (mo_Md_r0 hm) (by omega) ?_ ?_ rfl ?_
    · omega
    · omega
    rw [e1]
    refine mo_i2d (pc := 33) X dX5_kept_33 ?_
    refine mo_il1 (pc := 34) X dX5_kept_34 ?_
    refine mo_i2d (pc := 35) X dX5_kept_35 ?_
    refine mo_ddivA (pc := 36) X0 hd0 dX5_kept_36 (fun r d1 h1 hd1 => ?_)
    exact mo_dretD (pc := 37) X0 Y hd1 rfl dX5_kept_37 ⟨rfl, rfl, rfl, _, rfl, Or.inr ⟨c_20, h1⟩⟩
  · skip
    refine mo_dc1 (pc := 23) X dX5_kept_23 ?_
    refine mo_goto (pc := 24) (tgt := 37) X dX5_kept_24 (by decide) ?_
    exact mo_dretD (pc := 37) X0 Y hd0 rfl dX5_kept_37 ⟨rfl, rfl, rfl, _, rfl, Or.inl ⟨by omega, rfl⟩⟩
