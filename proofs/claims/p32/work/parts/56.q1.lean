/-! THE V LAYER, what the law wants: places 9 to 11 of the locals, wider frames, the script in a helper, posts made weaker -/
section MOQ
variable {κ : mo_T} {lf : Launch} {ρf : mo_E} {cc : ByteArray} {nL : Nat} {own : String} {ret : Option FieldType} {d k n pc : Nat} {ls : List (Option Value)} {st : List Value} {G : mo_G} {M : mo_M} {t : Nat}
theorem mo_il9 {a0 a1 a2 a3 a4 a5 a6 a7 a8 : Option Value} {r : List (Option Value)} {x : Int} (X : mo_Cx κ lf ρf cc nL own ret d) (hd : decode cc pc = .ok (.iload 9, 2)) (kk : mo_V κ k n (pc + 2) (a0 :: a1 :: a2 :: a3 :: a4 :: a5 :: a6 :: a7 :: a8 :: some (mo_iv x) :: r) (mo_iv x :: st) G M t) : mo_V κ k n pc (a0 :: a1 :: a2 :: a3 :: a4 :: a5 :: a6 :: a7 :: a8 :: some (mo_iv x) :: r) st G M t := mo_iload X hd rfl kk
theorem mo_is9 {a0 a1 a2 a3 a4 a5 a6 a7 a8 : Option Value} {o : Option Value} {r : List (Option Value)} {x : Int} (X : mo_Cx κ lf ρf cc nL own ret d) (hd : decode cc pc = .ok (.istore 9, 2)) (hc : mo_c1 a8 = true) (hi : 9 < nL) (kk : mo_V κ k n (pc + 2) (a0 :: a1 :: a2 :: a3 :: a4 :: a5 :: a6 :: a7 :: a8 :: some (mo_iv x) :: r) st G M t) : mo_V κ k n pc (a0 :: a1 :: a2 :: a3 :: a4 :: a5 :: a6 :: a7 :: a8 :: o :: r) (mo_iv x :: st) G M t := mo_istore X hd (Or.inr ⟨_, rfl, hc⟩) hi kk
theorem mo_ii9 {a0 a1 a2 a3 a4 a5 a6 a7 a8 : Option Value} {r : List (Option Value)} {v x : Int} (X : mo_Cx κ lf ρf cc nL own ret d) (hd : decode cc pc = .ok (.iinc 9 v, 3)) (hc : mo_c1 a8 = true) (hi : 9 < nL) (kk : mo_V κ k n (pc + 3) (a0 :: a1 :: a2 :: a3 :: a4 :: a5 :: a6 :: a7 :: a8 :: some (mo_iv (x + v)) :: r) st G M t) : mo_V κ k n pc (a0 :: a1 :: a2 :: a3 :: a4 :: a5 :: a6 :: a7 :: a8 :: some (mo_iv x) :: r) st G M t := mo_iinc X hd rfl (Or.inr ⟨_, rfl, hc⟩) hi kk
theorem mo_il10 {a0 a1 a2 a3 a4 a5 a6 a7 a8 a9 : Option Value} {r : List (Option Value)} {x : Int} (X : mo_Cx κ lf ρf cc nL own ret d) (hd : decode cc pc = .ok (.iload 10, 2)) (kk : mo_V κ k n (pc + 2) (a0 :: a1 :: a2 :: a3 :: a4 :: a5 :: a6 :: a7 :: a8 :: a9 :: some (mo_iv x) :: r) (mo_iv x :: st) G M t) : mo_V κ k n pc (a0 :: a1 :: a2 :: a3 :: a4 :: a5 :: a6 :: a7 :: a8 :: a9 :: some (mo_iv x) :: r) st G M t := mo_iload X hd rfl kk
theorem mo_is10 {a0 a1 a2 a3 a4 a5 a6 a7 a8 a9 : Option Value} {o : Option Value} {r : List (Option Value)} {x : Int} (X : mo_Cx κ lf ρf cc nL own ret d) (hd : decode cc pc = .ok (.istore 10, 2)) (hc : mo_c1 a9 = true) (hi : 10 < nL) (kk : mo_V κ k n (pc + 2) (a0 :: a1 :: a2 :: a3 :: a4 :: a5 :: a6 :: a7 :: a8 :: a9 :: some (mo_iv x) :: r) st G M t) : mo_V κ k n pc (a0 :: a1 :: a2 :: a3 :: a4 :: a5 :: a6 :: a7 :: a8 :: a9 :: o :: r) (mo_iv x :: st) G M t := mo_istore X hd (Or.inr ⟨_, rfl, hc⟩) hi kk
theorem mo_ii10 {a0 a1 a2 a3 a4 a5 a6 a7 a8 a9 : Option Value} {r : List (Option Value)} {v x : Int} (X : mo_Cx κ lf ρf cc nL own ret d) (hd : decode cc pc = .ok (.iinc 10 v, 3)) (hc : mo_c1 a9 = true) (hi : 10 < nL) (kk : mo_V κ k n (pc + 3) (a0 :: a1 :: a2 :: a3 :: a4 :: a5 :: a6 :: a7 :: a8 :: a9 :: some (mo_iv (x + v)) :: r) st G M t) : mo_V κ k n pc (a0 :: a1 :: a2 :: a3 :: a4 :: a5 :: a6 :: a7 :: a8 :: a9 :: some (mo_iv x) :: r) st G M t := mo_iinc X hd rfl (Or.inr ⟨_, rfl, hc⟩) hi kk
theorem mo_il11 {a0 a1 a2 a3 a4 a5 a6 a7 a8 a9 a10 : Option Value} {r : List (Option Value)} {x : Int} (X : mo_Cx κ lf ρf cc nL own ret d) (hd : decode cc pc = .ok (.iload 11, 2)) (kk : mo_V κ k n (pc + 2) (a0 :: a1 :: a2 :: a3 :: a4 :: a5 :: a6 :: a7 :: a8 :: a9 :: a10 :: some (mo_iv x) :: r) (mo_iv x :: st) G M t) : mo_V κ k n pc (a0 :: a1 :: a2 :: a3 :: a4 :: a5 :: a6 :: a7 :: a8 :: a9 :: a10 :: some (mo_iv x) :: r) st G M t := mo_iload X hd rfl kk
theorem mo_is11 {a0 a1 a2 a3 a4 a5 a6 a7 a8 a9 a10 : Option Value} {o : Option Value} {r : List (Option Value)} {x : Int} (X : mo_Cx κ lf ρf cc nL own ret d) (hd : decode cc pc = .ok (.istore 11, 2)) (hc : mo_c1 a10 = true) (hi : 11 < nL) (kk : mo_V κ k n (pc + 2) (a0 :: a1 :: a2 :: a3 :: a4 :: a5 :: a6 :: a7 :: a8 :: a9 :: a10 :: some (mo_iv x) :: r) st G M t) : mo_V κ k n pc (a0 :: a1 :: a2 :: a3 :: a4 :: a5 :: a6 :: a7 :: a8 :: a9 :: a10 :: o :: r) (mo_iv x :: st) G M t := mo_istore X hd (Or.inr ⟨_, rfl, hc⟩) hi kk
theorem mo_ii11 {a0 a1 a2 a3 a4 a5 a6 a7 a8 a9 a10 : Option Value} {r : List (Option Value)} {v x : Int} (X : mo_Cx κ lf ρf cc nL own ret d) (hd : decode cc pc = .ok (.iinc 11 v, 3)) (hc : mo_c1 a10 = true) (hi : 11 < nL) (kk : mo_V κ k n (pc + 3) (a0 :: a1 :: a2 :: a3 :: a4 :: a5 :: a6 :: a7 :: a8 :: a9 :: a10 :: some (mo_iv (x + v)) :: r) st G M t) : mo_V κ k n pc (a0 :: a1 :: a2 :: a3 :: a4 :: a5 :: a6 :: a7 :: a8 :: a9 :: a10 :: some (mo_iv x) :: r) st G M t := mo_iinc X hd rfl (Or.inr ⟨_, rfl, hc⟩) hi kk
/-- a static call of a method with many locals -/
theorem mo_callSB (X : mo_Cx κ lf ρf cc nL own ret d) {y : MethodName} {bytes : ByteArray} {maxL d' kc ks index : Nat} {ret' : Option FieldType} {As rest : List Value} {post : Option Value → mo_G → mo_M → Nat → Prop} (hL : mo_LkS own index y bytes maxL ret') (hy : y.cls ≠ "java/lang/invoke/MethodHandle" ∧ y.cls ≠ "java/lang/invoke/VarHandle" ∧ (parseMethodDescriptor y.desc).map (fun d => d.parameters.length) = some As.length) (hd : decode cc pc = .ok (.invokestatic index, 3)) (hC : mo_Ct lf ρf y bytes maxL ret' d' kc ks As G M t post) (hst : st = As.reverse ++ rest) (hdd : d' + 2 ≤ d) (hmx : maxL ≤ 41) (hsum : (rest.map fun v => v.category).sum ≤ 8) (hroom : mo_Rm κ (k + kc) (n + ks)) (kk : ∀ v G' M' t', post v G' M' t' → mo_V κ (k + kc) (n + ks) (pc + 3) ls (v.toList ++ rest) G' M' t') : mo_V κ k n pc ls st G M t := by
  obtain ⟨⟨p, l, e, R, s⟩, ⟨m, args, below, meth, c⟩, Q, ρ⟩ := κ
  obtain ⟨hx, hb, hml, hown, hts, hK, hlk, hrt, hb0, hRf, hRl, hlf, hρ⟩ := X
  subst hlf
  subst hρ
  intro H locs lr ht hR hS hl
  refine mo_back (va_runS (As := As) (rest := rest) ⟨hx, hb, hml, hown, hts⟩ hC (va_cwS As.length hts (mo_gwS hL) rfl rfl rfl hy ⟨Nat.le_trans (Nat.le_trans (Nat.le_succ _) hdd) hRf, by show 8 + (maxL + 11) + 30 * d' ≤ R.locals; omega⟩) ⟨mo_fb _ _ _ _ _, fun U hU hW => ⟨rfl, by rw [hU]; exact ht, by rw [hU]; exact hR, va_K.moved hW.alike hK, by rw [← ht]; exact Nat.le_trans hb0 hS.1⟩⟩ rfl rfl (hl.1.trans hml) hst (lv_room hsum) hd hroom) hS ?_
  intro v G' M' t' hp H' locs' hz hR' hS'
  exact kk v G' M' t' hp H' locs' lr hz hR' hS' hl
/-- the script, in a method's own state -/
def mo_Xs (κ : mo_T) (b L : Nat) (xs : Nat → Int32) : Prop := match κ with
  | ((_, _, _, _, s), _, _, ρ) => va_X b L xs s s.heap ∧ b < s.heap.size ∧ b < ρ.2.2
theorem mo_sld {b L : Nat} {xs : Nat → Int32} (X : mo_Cx κ lf ρf cc nL own ret d) (hXs : mo_Xs κ b L xs) (hL : L ≤ 3072) {i : Int} {j : Nat} (h0 : 0 ≤ i) (h1 : i < L) (hj : i.toNat = j) (hd : decode cc pc = .ok (.iaload, 1)) (kk : mo_V κ k n (pc + 1) ls (mo_iv (xs j).toInt :: st) G M t) : mo_V κ k n pc ls (mo_iv i :: .ref b :: st) G M t := by
  obtain ⟨⟨p, l, e, R, s⟩, ⟨m, args, below, meth, c⟩, Q, ρ⟩ := κ
  obtain ⟨hx, hb, hml, hown, hts, hK, hlk, hrt, hb0, hRf, hRl, hlf, hρ⟩ := X
  obtain ⟨hX, hbl, hbA⟩ := hXs
  intro H locs lr ht hR hS hl
  have h9 := kk H locs lr ht hR hS hl
  rw [← mo_of] at h9
  refine va_sld hx hb hX hbl (Nat.not_le.mpr hbA) hS (mo_vin (by omega) h0 h1) hd ?_
  rw [mo_cl (by omega) h0, hj]
  exact h9
theorem mo_slen {b L : Nat} {xs : Nat → Int32} (X : mo_Cx κ lf ρf cc nL own ret d) (hXs : mo_Xs κ b L xs) (hL : L ≤ 3072) (hd : decode cc pc = .ok (.arraylength, 1)) (kk : mo_V κ k n (pc + 1) ls (mo_iv (L : Int) :: st) G M t) : mo_V κ k n pc ls (.ref b :: st) G M t := by
  obtain ⟨⟨p, l, e, R, s⟩, ⟨m, args, below, meth, c⟩, Q, ρ⟩ := κ
  obtain ⟨hx, hb, hml, hown, hts, hK, hlk, hrt, hb0, hRf, hRl, hlf, hρ⟩ := X
  obtain ⟨hX, hbl, hbA⟩ := hXs
  intro H locs lr ht hR hS hl
  have h9 := kk H locs lr ht hR hS hl
  have e9 : Int32.ofInt (L : Int) = Int32.ofNat L := by
    apply Int32.toInt_inj.mp
    rw [mo_ti (by omega), Int32.toInt_ofNat_of_lt (by omega)]
  unfold mo_iv at h9
  rw [e9] at h9
  exact va_slen hx hb hX hbl (Nat.not_le.mpr hbA) hS hd h9
def mo_BS (ρ : mo_E) (G : mo_G) (M : mo_M) (t b L : Nat) (xs : Nat → Int32) : State → Prop := fun U => mo_Bc ρ G M t U ∧ va_X b L xs U U.heap ∧ b < U.heap.size ∧ b < ρ.2.2
theorem mo_fbS (av : List Value) (ρ : mo_E) (G : mo_G) (M : mo_M) (t b L : Nat) (xs : Nat → Int32) : FrameBlind (va_Pc av (mo_BS ρ G M t b L xs)) := fun a U g mk q => by
  obtain ⟨q0, ⟨q1, q2, q3, q4⟩, q5, q6, q7⟩ := q
  exact ⟨q0, ⟨q1, q2, va_K.moved (u := U) (U := U.calling g mk a) (Vm.Alike.refl U.vm) q3, q4⟩, va_X.moved (u := U) (U := U.calling g mk a) (Vm.Alike.refl U.vm) q5, q6, q7⟩
/-- a method that reads the script -/
def mo_CtS (l : Launch) (ρ : mo_E) (y : MethodName) (cc : ByteArray) (maxL : Nat) (ret : Option FieldType) (d : Nat) (av : List Value) (G : mo_G) (M : mo_M) (t b L : Nat) (xs : Nat → Int32) (post : Option Value → mo_G → mo_M → Nat → Prop) : Prop :=
  Met l y (mo_ws y cc maxL ret) (mo_rm d 0 0) (va_Pc av (mo_BS ρ G M t b L xs)) (mo_Qc ρ post) 0 0 (mo_fr ρ)
theorem mo_ofWS {l : Launch} {ρ : mo_E} {y : MethodName} {cc : ByteArray} {maxL d b L : Nat} {xs : Nat → Int32} {ret : Option FieldType} {av : List Value} {G : mo_G} {M : mo_M} {t : Nat} {post : Option Value → mo_G → mo_M → Nat → Prop} {ls0 : List (Option Value)}
    (hy : plainName y.cls = true) (hls : mo_en 0 ls0 = lv_args 0 av) (hlen : (lg_sl av).length ≤ maxL)
    (body : ∀ κ : mo_T, mo_Cx κ l ρ cc maxL y.cls ret d → mo_Rt κ post 0 0 → mo_Xs κ b L xs → mo_V κ 0 0 0 ls0 [] G M t) : mo_CtS l ρ y cc maxL ret d av G M t b L xs post := by
  refine Met.ofW (cc := cc) (maxL := maxL) (ret := ret) hy rfl ?_
  intro p e s m args below meth c s₁ B hml hv
  obtain ⟨rfl, ⟨hsz, hR, hK, hb0⟩, hXX⟩ := hv
  have hl := lv_entry av (n := maxL) hlen
  rw [lg_entry_eq]
  have hts := atoms_spec (ws := mo_ws y cc maxL ret) B.pre
  refine body ((p, l, e, mo_rm d 0 0, s), (m, av.toArray, below, meth, c), MQ below (mo_Qc ρ post) av.toArray s 0 0 (mo_fr ρ), ρ) ⟨B.exec, B.bytes, hml, findClass_of_methodNamed B.named, fun w h => hts w (List.mem_cons_of_mem _ h), hK, B.notSynchronized, B.returns, by rw [hsz]; exact hb0, Nat.le_refl _, Nat.le_refl _, rfl, rfl⟩ rfl hXX s.heap [] _ hsz hR va_S.rf ?_
  rw [hls, hml]
  exact hl
theorem mo_callSS {b L : Nat} {xs : Nat → Int32} (X : mo_Cx κ lf ρf cc nL own ret d) (hXs : mo_Xs κ b L xs) {y : MethodName} {bytes : ByteArray} {maxL d' index : Nat} {ret' : Option FieldType} {As rest : List Value} {post : Option Value → mo_G → mo_M → Nat → Prop} (hL : mo_LkS own index y bytes maxL ret') (hy : y.cls ≠ "java/lang/invoke/MethodHandle" ∧ y.cls ≠ "java/lang/invoke/VarHandle" ∧ (parseMethodDescriptor y.desc).map (fun d => d.parameters.length) = some As.length) (hd : decode cc pc = .ok (.invokestatic index, 3)) (hC : mo_CtS lf ρf y bytes maxL ret' d' As G M t b L xs post) (hst : st = As.reverse ++ rest) (hdd : d' + 1 ≤ d) (hmx : maxL ≤ 11) (hsum : (rest.map fun v => v.category).sum ≤ 8) (hroom : mo_Rm κ (k + 0) (n + 0)) (kk : ∀ v G' M' t', post v G' M' t' → mo_V κ k n (pc + 3) ls (v.toList ++ rest) G' M' t') : mo_V κ k n pc ls st G M t := by
  obtain ⟨⟨p, l, e, R, s⟩, ⟨m, args, below, meth, c⟩, Q, ρ⟩ := κ
  obtain ⟨hx, hb, hml, hown, hts, hK, hlk, hrt, hb0, hRf, hRl, hlf, hρ⟩ := X
  obtain ⟨hXv, hbl, hbA⟩ := hXs
  subst hlf
  subst hρ
  intro H locs lr ht hR hS hl
  refine mo_back (va_runS (As := As) (rest := rest) ⟨hx, hb, hml, hown, hts⟩ hC (va_cwS As.length hts (mo_gwS hL) rfl rfl rfl hy ⟨Nat.le_trans hdd hRf, by show 8 + (maxL + 11) + 30 * d' ≤ R.locals; omega⟩) ⟨mo_fbS _ _ _ _ _ _ _ _, fun U hU hW => ⟨rfl, ⟨by rw [hU]; exact ht, by rw [hU]; exact hR, va_K.moved hW.alike hK, by rw [← ht]; exact Nat.le_trans hb0 hS.1⟩, by rw [hU]; exact va_X.moved hW.alike (hXv.kept (hS.2.1 b hbl (Nat.not_le.mpr hbA))), by rw [hU]; exact Nat.lt_of_lt_of_le hbl hS.1, hbA⟩⟩ rfl rfl (hl.1.trans hml) hst (lv_room hsum) hd hroom) hS ?_
  intro v G' M' t' hp H' locs' hz hR' hS'
  exact kk v G' M' t' hp H' locs' lr hz hR' hS' hl
end MOQ
/-- a post made weaker -/
theorem mo_Ct_mono {l : Launch} {ρ : mo_E} {y : MethodName} {cc : ByteArray} {maxL d kc ks : Nat} {ret : Option FieldType} {av : List Value} {G : mo_G} {M : mo_M} {t : Nat} {post post2 : Option Value → mo_G → mo_M → Nat → Prop} (h : mo_Ct l ρ y cc maxL ret d kc ks av G M t post) (hp : ∀ v G' M' t', post v G' M' t' → post2 v G' M' t') : mo_Ct l ρ y cc maxL ret d kc ks av G M t post2 := by
  unfold mo_Ct Met at h ⊢
  refine MetFree.mono h (fun _ _ q => q) (fun _ _ _ _ _ q => q) (fun a s o s' _ q => ?_)
  obtain ⟨⟨⟨v, G', M', h1, h2, h3⟩, h4⟩, h5⟩ := q
  exact ⟨⟨⟨v, G', M', h1, hp _ _ _ _ h2, h3⟩, h4⟩, h5⟩
