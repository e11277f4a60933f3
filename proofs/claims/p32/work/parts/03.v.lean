/-! THE V LAYER: ints of the machine as whole numbers, memory as a function; each rule rests on one row of the kit -/
def mo_B : List Cond := lw_tbl.filter goodWord
abbrev mo_E : Type := va_G × (ClassId × ClassId × ClassId) × Nat
def mo_tys (ρ : mo_E) : List (ClassId × FieldType) := [(ρ.2.1.1, .int), (ρ.2.1.1, .int), (ρ.2.1.2.2, .object RX2)]
def mo_K (ρ : mo_E) (U : State) : Prop := va_K ρ.1 vwCl (mo_tys ρ) U
def mo_iv (x : Int) : Value := .int (Int32.ofInt x)
def mo_jv (x : Int) : Value := .long (Int64.ofInt x)
abbrev mo_In (x : Int) : Prop := -2147483648 ≤ x ∧ x < 2147483648
abbrev mo_Jn (x : Int) : Prop := -9223372036854775808 ≤ x ∧ x < 9223372036854775808
abbrev mo_Kd : Type := Nat ⊕ (Nat × Nat)
abbrev mo_G : Type := (Nat → Option mo_Kd) × (Nat → Nat → Option Nat)
abbrev mo_M : Type := Nat → Nat → Int
def mo_fk : Nat → Nat → Nat
  | 0, k => if k < 5 then 2 else 0
  | 1, _ => 2
  | 2, k => if k < 6 then 0 else 2
  | 3, k => if k < 5 then 2 else 0
  | 4, k => if k < 5 then 2 else 0
  | _, k => if k = 14 then 1 else if k = 2 ∨ k = 4 ∨ k = 10 ∨ k = 11 ∨ k = 12 then 0 else 2
def mo_fn : Nat → Nat
  | 0 => 8
  | 1 => 1
  | 2 => 15
  | 3 => 8
  | 4 => 6
  | _ => 15
def mo_fv (G : mo_G) (M : mo_M) (a ci k : Nat) : Value := match mo_fk ci k with
  | 0 => mo_iv (M a k)
  | 1 => mo_jv (M a k)
  | _ => va_rf (G.2 a k)
def mo_fs (G : mo_G) (M : mo_M) (a ci : Nat) : List Value := (List.range (mo_fn ci)).map (mo_fv G M a ci)
def mo_el (ρ : mo_E) (G : mo_G) (M : mo_M) (a : Nat) : mo_Kd → va_E
  | .inl ci => .inr (ci, mo_fs G M a ci)
  | .inr (0, n) => .inl (ρ.2.1.1, n, .inl (fun j => Int32.ofInt (M a j)))
  | .inr (1, n) => .inl (ρ.2.1.2.1, n, .inr (.inl (fun j => Int64.ofInt (M a j))))
  | .inr (_ + 2, n) => .inl (ρ.2.1.2.2, n, .inr (.inr (.inr (.inr (fun j => G.2 a j)))))
/-- the heap is as the memory says, cell by cell -/
def mo_R (ρ : mo_E) (G : mo_G) (M : mo_M) (H : Heap) : Prop := ∀ (a : Nat) (e : mo_Kd), G.1 a = some e → ρ.2.2 ≤ a ∧ va_at ρ.1 vwCl (a, mo_el ρ G M a e) H
def mo_ur (M : mo_M) (a : Nat) (f : Nat → Int) : mo_M := fun b => if b = a then f else M b
theorem mo_ur_s (M : mo_M) (a : Nat) (f : Nat → Int) : mo_ur M a f a = f := by simp [mo_ur]
theorem mo_ur_n {M : mo_M} {a b : Nat} {f : Nat → Int} (h : b ≠ a) : mo_ur M a f b = M b := by simp [mo_ur, h]
theorem mo_ur_ur (M : mo_M) (a : Nat) (f g : Nat → Int) : mo_ur (mo_ur M a f) a g = mo_ur M a g := by
  funext b
  by_cases h : b = a <;> simp [mo_ur, h]
theorem mo_ur_id (M : mo_M) (a : Nat) : mo_ur M a (M a) = M := by
  funext b
  by_cases h : b = a <;> simp [mo_ur, h]
theorem mo_up_s {α : Type} (f : Nat → α) (k : Nat) (v : α) : va_up f k v k = v := by simp [va_up]
theorem mo_up_n {α : Type} {f : Nat → α} {k j : Nat} {v : α} (h : j ≠ k) : va_up f k v j = f j := by simp [va_up, h]
/-! whole numbers and the machine's -/
theorem mo_bm {z : Int} (h : mo_In z) : z.bmod (2 ^ 32) = z := Int.bmod_eq_of_le (by omega) (by omega)
theorem mo_bl {z : Int} (h : mo_Jn z) : z.bmod (2 ^ 64) = z := Int.bmod_eq_of_le (by omega) (by omega)
theorem mo_ti {z : Int} (h : mo_In z) : (Int32.ofInt z).toInt = z := by rw [Int32.toInt_ofInt, mo_bm h]
theorem mo_tl {z : Int} (h : mo_Jn z) : (Int64.ofInt z).toInt = z := by rw [Int64.toInt_ofInt, mo_bl h]
theorem mo_ri (x : Int32) : mo_In x.toInt := by
  have h1 := Int32.le_toInt x
  have h2 := Int32.toInt_lt x
  omega
theorem mo_of (x : Int32) : Value.int x = mo_iv x.toInt := by rw [mo_iv, Int32.ofInt_toInt]
theorem mo_le {x y : Int} (hx : mo_In x) (hy : mo_In y) : Int32.ofInt x ≤ Int32.ofInt y ↔ x ≤ y := by rw [Int32.le_iff_toInt_le, mo_ti hx, mo_ti hy]
theorem mo_lt {x y : Int} (hx : mo_In x) (hy : mo_In y) : Int32.ofInt x < Int32.ofInt y ↔ x < y := by rw [Int32.lt_iff_toInt_lt, mo_ti hx, mo_ti hy]
theorem mo_eq {x y : Int} (hx : mo_In x) (hy : mo_In y) : Int32.ofInt x = Int32.ofInt y ↔ x = y := by rw [← Int32.toInt_inj, mo_ti hx, mo_ti hy]
theorem mo_0 : (0 : Int32) = Int32.ofInt 0 := by decide
theorem mo_cl {x : Int} (hx : mo_In x) (h0 : 0 ≤ x) : (Int32.ofInt x).toNatClampNeg = x.toNat := by
  rw [Int32.toNatClampNeg, mo_ti hx]
theorem mo_vin {x : Int} {n : Nat} (hx : mo_In x) (h0 : 0 ≤ x) (h1 : x < n) : vp_in (Int32.ofInt x) n := by
  intro h
  rcases h with h | h
  · rw [mo_0, mo_lt hx (by omega)] at h
    omega
  · rw [mo_cl hx h0] at h
    omega
/-! lists of locals by place -/
def mo_en : Nat → List (Option Value) → List (Nat × Value)
  | _, [] => []
  | i, none :: r => mo_en (i + 1) r
  | i, some v :: r => (i, v) :: mo_en (i + 1) r
theorem mo_en_in : ∀ (ls : List (Option Value)) (i n : Nat) (v : Value), ls[n]? = some (some v) → (i + n, v) ∈ mo_en i ls
  | [], _, _, _, h => by simp at h
  | none :: r, i, 0, v, h => by simp at h
  | none :: r, i, n + 1, v, h => by
    have h2 := mo_en_in r (i + 1) n v (by simpa using h)
    rw [show i + (n + 1) = i + 1 + n by omega]
    exact h2
  | some z :: r, i, 0, v, h => by
    simp at h
    subst h
    exact List.mem_cons_self
  | some z :: r, i, n + 1, v, h => by
    have h2 := mo_en_in r (i + 1) n v (by simpa using h)
    rw [show i + (n + 1) = i + 1 + n by omega]
    exact List.mem_cons_of_mem _ h2
theorem mo_en_of : ∀ (ls : List (Option Value)) (i : Nat) (q : Nat × Value), q ∈ mo_en i ls → ∃ n, q.1 = i + n ∧ ls[n]? = some (some q.2)
  | [], _, _, h => by simp [mo_en] at h
  | none :: r, i, q, h => by
    obtain ⟨n, h1, h2⟩ := mo_en_of r (i + 1) q h
    exact ⟨n + 1, by omega, by simpa using h2⟩
  | some z :: r, i, q, h => by
    rcases List.mem_cons.mp h with h | h
    · exact ⟨0, by rw [h]; rfl, by rw [h]; rfl⟩
    · obtain ⟨n, h1, h2⟩ := mo_en_of r (i + 1) q h
      exact ⟨n + 1, by omega, by simpa using h2⟩
theorem mo_ld {lr : Array Slot} {nL : Nat} {ls : List (Option Value)} (h : lv_has lr nL (mo_en 0 ls)) {n : Nat} {v : Value} (hn : ls[n]? = some (some v)) : lr[n]? = some (.val v) := by
  have h1 := h.2.2 _ (mo_en_in ls 0 n v hn)
  simpa using h1
theorem mo_lhs {lr : Array Slot} {nL : Nat} {l l' : List (Nat × Value)} (h : lv_has lr nL l) (hs : ∀ q ∈ l', q ∈ l) : lv_has lr nL l' := ⟨h.1, h.2.1, fun q hq => h.2.2 q (hs q hq)⟩
def mo_c1 : Option Value → Bool
  | none => true
  | some v => !(v.category == 2)
theorem mo_stq {ls : List (Option Value)} {n : Nat} {v : Value} (hc : n = 0 ∨ ∃ o, ls[n - 1]? = some o ∧ mo_c1 o = true) (q : Nat × Value) (hq : q ∈ mo_en 0 (ls.set n (some v))) : q ∈ (n, v) :: (mo_en 0 ls).filter (fun q => !(q.1 == n) && !(q.1 + 1 == n && q.2.category == 2)) := by
  obtain ⟨j, h1, h2⟩ := mo_en_of _ _ _ hq
  rw [Nat.zero_add] at h1
  by_cases hj : j = n
  · subst hj
    have h3 : j < (ls.set j (some v)).length := (List.getElem?_eq_some_iff.mp h2).1
    rw [List.length_set] at h3
    rw [List.getElem?_set_self h3] at h2
    have h4 : v = q.2 := by simpa using h2
    have h5 : q = (j, v) := by rw [h4, ← h1]
    rw [h5]
    exact List.mem_cons_self
  · rw [List.getElem?_set_ne (fun h => hj h.symm)] at h2
    refine List.mem_cons_of_mem _ (List.mem_filter.mpr ⟨?_, ?_⟩)
    · have h3 := mo_en_in ls 0 j q.2 h2
      rw [Nat.zero_add, ← h1] at h3
      exact h3
    · have a1 : (q.1 == n) = false := by simp; omega
      have a2 : (q.1 + 1 == n && q.2.category == 2) = false := by
        by_cases h6 : q.1 + 1 = n
        · rcases hc with hc | ⟨o, ho, hc⟩
          · omega
          · rw [show n - 1 = j by omega, h2] at ho
            cases ho
            simp only [mo_c1, Bool.not_eq_true'] at hc
            rw [hc, Bool.and_false]
        · have h7 : (q.1 + 1 == n) = false := by simpa using h6
          rw [h7, Bool.false_and]
      rw [a1, a2]
      rfl
theorem mo_stq2 {ls : List (Option Value)} {n : Nat} {v : Value} (hc : n = 0 ∨ ∃ o, ls[n - 1]? = some o ∧ mo_c1 o = true) (q : Nat × Value) (hq : q ∈ mo_en 0 ((ls.set n (some v)).set (n + 1) none)) : q ∈ (n, v) :: (mo_en 0 ls).filter (fun q => !(q.1 == n) && (!(q.1 == n + 1) && !(q.1 + 1 == n && q.2.category == 2))) := by
  obtain ⟨j, h1, h2⟩ := mo_en_of _ _ _ hq
  rw [Nat.zero_add] at h1
  by_cases hj1 : j = n + 1
  · subst hj1
    by_cases h3 : n + 1 < (ls.set n (some v)).length
    · rw [List.getElem?_set_self h3] at h2
      simp at h2
    · rw [List.getElem?_eq_none (by rw [List.length_set]; omega)] at h2
      cases h2
  · rw [List.getElem?_set_ne (fun h => hj1 h.symm)] at h2
    have h4 : q ∈ mo_en 0 (ls.set n (some v)) := by
      have h3 := mo_en_in _ 0 j q.2 h2
      rw [Nat.zero_add, ← h1] at h3
      exact h3
    rcases List.mem_cons.mp (mo_stq hc q h4) with h5 | h5
    · rw [h5]
      exact List.mem_cons_self
    · obtain ⟨h6, h7⟩ := List.mem_filter.mp h5
      refine List.mem_cons_of_mem _ (List.mem_filter.mpr ⟨h6, ?_⟩)
      simp only [Bool.and_eq_true] at h7 ⊢
      refine ⟨h7.1, ?_, h7.2⟩
      have h8 : q.1 ≠ n + 1 := by omega
      simpa using h8
/-! memory and cells -/
theorem mo_one {D : va_G} {cl : List vw_C} {q : Nat × va_E} {H : Heap} (h : va_at D cl q H) : va_P D cl [q] H := by
  intro k x hx
  have h1 : k < 1 := (List.getElem?_eq_some_iff.mp hx).1
  obtain rfl : k = 0 := by omega
  cases hx
  exact h
theorem mo_fs_at (G : mo_G) (M : mo_M) (a ci : Nat) {k : Nat} (hk : k < mo_fn ci) : (mo_fs G M a ci)[k]? = some (mo_fv G M a ci k) := by
  simp [mo_fs, hk]
theorem mo_fs_len (G : mo_G) (M : mo_M) (a ci : Nat) : (mo_fs G M a ci).length = mo_fn ci := by simp [mo_fs]
theorem mo_fs_set (G G' : mo_G) (M M' : mo_M) (a ci k : Nat) (v : Value) (h1 : mo_fv G' M' a ci k = v) (h2 : ∀ j, j ≠ k → mo_fv G' M' a ci j = mo_fv G M a ci j) : (mo_fs G M a ci).set k v = mo_fs G' M' a ci := by
  apply List.ext_getElem?
  intro j
  by_cases hj : j < mo_fn ci
  · rw [mo_fs_at G' M' a ci hj]
    by_cases hjk : j = k
    · subst hjk
      rw [List.getElem?_set_self (by rw [mo_fs_len]; exact hj), h1]
    · rw [List.getElem?_set_ne (fun h => hjk h.symm), mo_fs_at G M a ci hj, h2 j hjk]
  · rw [List.getElem?_eq_none (by rw [List.length_set, mo_fs_len]; omega), List.getElem?_eq_none (by rw [mo_fs_len]; omega)]
theorem mo_el_ne (ρ : mo_E) (G : mo_G) (M M' : mo_M) (a : Nat) (e : mo_Kd) (h : M' a = M a) : mo_el ρ G M' a e = mo_el ρ G M a e := by
  have hf : mo_fs G M' a = mo_fs G M a := by
    funext ci
    unfold mo_fs
    congr 1
    funext k
    unfold mo_fv
    rw [h]
  rcases e with ci | ⟨t, n⟩
  · show Sum.inr _ = Sum.inr _
    rw [hf]
  · match t with
    | 0 => show Sum.inl _ = Sum.inl _; rw [h]
    | 1 => show Sum.inl _ = Sum.inl _; rw [h]
    | t + 2 => rfl
/-- after a write at one cell: the others stay -/
theorem mo_R_set {ρ : mo_E} {G : mo_G} {M : mo_M} {H H1 : Heap} {a : Nat} {f : Nat → Int} {e : mo_Kd} (hR : mo_R ρ G M H) (he : G.1 a = some e) (h1 : va_at ρ.1 vwCl (a, mo_el ρ G (mo_ur M a f) a e) H1) (h2 : ∀ q, q ≠ a → H1[q]? = H[q]?) : mo_R ρ G (mo_ur M a f) H1 := by
  intro b e' hb
  by_cases hba : b = a
  · subst hba
    cases he.symm.trans hb
    exact ⟨(hR b e hb).1, h1⟩
  · refine ⟨(hR b e' hb).1, ?_⟩
    rw [mo_el_ne ρ G M _ b e' (mo_ur_n hba)]
    exact (hR b e' hb).2.kept (h2 b hba)
abbrev mo_T : Type := (Program × Launch × Env × Room × State) × (MethodId × Array Value × List Frame × Method × Code) × (State → Prop) × mo_E
def mo_V (κ : mo_T) (k n pc : Nat) (ls : List (Option Value)) (st : List Value) (G : mo_G) (M : mo_M) (t : Nat) : Prop := match κ with
  | ((p, l, e, R, s), (m, args, below, meth, c), Q, ρ) => ∀ (H : Heap) (locs : List Loc) (lr : Array Slot), H.size = t → mo_R ρ G M H → va_S (fun q => ρ.2.2 ≤ q) s.heap H locs → lv_has lr c.maxLocals (mo_en 0 ls) → W p l e R s m args below meth c H locs k n Q (F0 m pc lr st)
/-- what a walk stands on: machine, code, words, tables, room of depth d -/
def mo_Cx (κ : mo_T) (lf : Launch) (ρf : mo_E) (cc : ByteArray) (nL : Nat) (own : String) (ret : Option FieldType) (d : Nat) : Prop := match κ with
  | ((p, l, e, R, s), (m, args, below, meth, c), Q, ρ) => p.tables.exec = Jvm.exec ∧ c.code = cc ∧ c.maxLocals = nL ∧ s.vm.findClass own = some m.cls ∧ (∀ w ∈ mo_B, w.before args s = true) ∧ mo_K ρ s ∧ meth.locks = false ∧ meth.sig.returnType = ret ∧ ρ.2.2 ≤ s.heap.size ∧ d ≤ R.frames ∧ 30 * d ≤ R.locals ∧ l = lf ∧ ρ = ρf
def mo_fr (ρ : mo_E) : Addr → Prop := fun q => ρ.2.2 ≤ q
def mo_Qc (ρ : mo_E) (post : Option Value → mo_G → mo_M → Nat → Prop) : Array Value → State → Outcome → State → Prop := fun _ st oc u => (∃ (v : Option Value) (G : mo_G) (M : mo_M), oc = .returned v ∧ post v G M u.heap.size ∧ mo_R ρ G M u.heap) ∧ va_F (fun q => ρ.2.2 ≤ q) st u
def mo_Rt (κ : mo_T) (post : Option Value → mo_G → mo_M → Nat → Prop) (kc ks : Nat) : Prop := match κ with
  | ((_, _, _, _, s), (_, args, below, _, _), Q, ρ) => Q = MQ below (mo_Qc ρ post) args s kc ks (mo_fr ρ)
def mo_ws (y : MethodName) (cc : ByteArray) (maxL : Nat) (ret : Option FieldType) : List Cond := Cond.code y cc maxL ret :: mo_B
def mo_rm (d kc ks : Nat) : Room := { frames := d, cells := kc, slots := ks, locals := 30 * d }
def mo_Bc (ρ : mo_E) (G : mo_G) (M : mo_M) (t : Nat) : State → Prop := fun U => U.heap.size = t ∧ mo_R ρ G M U.heap ∧ mo_K ρ U ∧ ρ.2.2 ≤ t
def mo_Ct (l : Launch) (ρ : mo_E) (y : MethodName) (cc : ByteArray) (maxL : Nat) (ret : Option FieldType) (d kc ks : Nat) (av : List Value) (G : mo_G) (M : mo_M) (t : Nat) (post : Option Value → mo_G → mo_M → Nat → Prop) : Prop :=
  Met l y (mo_ws y cc maxL ret) (mo_rm d kc ks) (va_Pc av (mo_Bc ρ G M t)) (mo_Qc ρ post) kc ks (mo_fr ρ)
theorem mo_ofW {l : Launch} {ρ : mo_E} {y : MethodName} {cc : ByteArray} {maxL d kc ks : Nat} {ret : Option FieldType} {av : List Value} {G : mo_G} {M : mo_M} {t : Nat} {post : Option Value → mo_G → mo_M → Nat → Prop} {ls0 : List (Option Value)}
    (hy : plainName y.cls = true) (hls : mo_en 0 ls0 = lv_args 0 av) (hlen : (lg_sl av).length ≤ maxL)
    (body : ∀ κ : mo_T, mo_Cx κ l ρ cc maxL y.cls ret d → mo_Rt κ post kc ks → mo_V κ 0 0 0 ls0 [] G M t) : mo_Ct l ρ y cc maxL ret d kc ks av G M t post := by
  refine Met.ofW (cc := cc) (maxL := maxL) (ret := ret) hy rfl ?_
  intro p e s m args below meth c s₁ B hml hv
  obtain ⟨rfl, hsz, hR, hK, hb0⟩ := hv
  have hl := lv_entry av (n := maxL) hlen
  rw [lg_entry_eq]
  have hts := atoms_spec (ws := mo_ws y cc maxL ret) B.pre
  refine body ((p, l, e, mo_rm d kc ks, s), (m, av.toArray, below, meth, c), MQ below (mo_Qc ρ post) av.toArray s kc ks (mo_fr ρ), ρ) ⟨B.exec, B.bytes, hml, findClass_of_methodNamed B.named, fun w h => hts w (List.mem_cons_of_mem _ h), hK, B.notSynchronized, B.returns, by rw [hsz]; exact hb0, Nat.le_refl _, Nat.le_refl _, rfl, rfl⟩ rfl s.heap [] _ hsz hR va_S.rf ?_
  rw [hls, hml]
  exact hl
section MOR
variable {κ : mo_T} {lf : Launch} {ρf : mo_E} {cc : ByteArray} {nL : Nat} {own : String} {ret : Option FieldType} {d k n pc : Nat} {ls : List (Option Value)} {st : List Value} {G : mo_G} {M : mo_M} {t : Nat}
theorem mo_iconst (X : mo_Cx κ lf ρf cc nL own ret d) {v : Int} (hd : decode cc pc = .ok (.iconst v, 1)) (kk : mo_V κ k n (pc + 1) ls (mo_iv v :: st) G M t) : mo_V κ k n pc ls st G M t := by
  obtain ⟨⟨p, l, e, R, s⟩, ⟨m, args, below, meth, c⟩, Q, ρ⟩ := κ
  obtain ⟨hx, hb, hml, hown, hts, hK, hlk, hrt, hb0, hRf, hRl, hlf, hρ⟩ := X
  intro H locs lr ht hR hS hl
  exact lv_iconst hx hb hd rfl (kk H locs lr ht hR hS hl)
theorem mo_bipush (X : mo_Cx κ lf ρf cc nL own ret d) {v : Int} (hd : decode cc pc = .ok (.bipush v, 2)) (hv : (Int8.ofInt v).toInt32 = Int32.ofInt v) (kk : mo_V κ k n (pc + 2) ls (mo_iv v :: st) G M t) : mo_V κ k n pc ls st G M t := by
  obtain ⟨⟨p, l, e, R, s⟩, ⟨m, args, below, meth, c⟩, Q, ρ⟩ := κ
  obtain ⟨hx, hb, hml, hown, hts, hK, hlk, hrt, hb0, hRf, hRl, hlf, hρ⟩ := X
  intro H locs lr ht hR hS hl
  exact lv_bipush hx hb hd hv (kk H locs lr ht hR hS hl)
theorem mo_sipush (X : mo_Cx κ lf ρf cc nL own ret d) {v : Int} (hd : decode cc pc = .ok (.sipush v, 3)) (hv : (Int16.ofInt v).toInt32 = Int32.ofInt v) (kk : mo_V κ k n (pc + 3) ls (mo_iv v :: st) G M t) : mo_V κ k n pc ls st G M t := by
  obtain ⟨⟨p, l, e, R, s⟩, ⟨m, args, below, meth, c⟩, Q, ρ⟩ := κ
  obtain ⟨hx, hb, hml, hown, hts, hK, hlk, hrt, hb0, hRf, hRl, hlf, hρ⟩ := X
  intro H locs lr ht hR hS hl
  exact lv_sipush hx hb hd hv (kk H locs lr ht hR hS hl)
theorem mo_ldc (X : mo_Cx κ lf ρf cc nL own ret d) {i : Nat} {v : Int} (hd : decode cc pc = .ok (.ldc i, 2)) (hw : Cond.constant own i (Int32.ofInt v) ∈ mo_B) (kk : mo_V κ k n (pc + 2) ls (mo_iv v :: st) G M t) : mo_V κ k n pc ls st G M t := by
  obtain ⟨⟨p, l, e, R, s⟩, ⟨m, args, below, meth, c⟩, Q, ρ⟩ := κ
  obtain ⟨hx, hb, hml, hown, hts, hK, hlk, hrt, hb0, hRf, hRl, hlf, hρ⟩ := X
  intro H locs lr ht hR hS hl
  exact lv_ldc hx hb hown (hts _ hw) hd (kk H locs lr ht hR hS hl)
theorem mo_ldc2 (X : mo_Cx κ lf ρf cc nL own ret d) {i : Nat} {v : Int} (hd : decode cc pc = .ok (.ldc2_w i, 3)) (hw : Cond.constantLong own i (Int64.ofInt v) ∈ mo_B) (kk : mo_V κ k n (pc + 3) ls (mo_jv v :: st) G M t) : mo_V κ k n pc ls st G M t := by
  obtain ⟨⟨p, l, e, R, s⟩, ⟨m, args, below, meth, c⟩, Q, ρ⟩ := κ
  obtain ⟨hx, hb, hml, hown, hts, hK, hlk, hrt, hb0, hRf, hRl, hlf, hρ⟩ := X
  intro H locs lr ht hR hS hl
  exact lv_ldc2 hx hb hown (hts _ hw) hd (kk H locs lr ht hR hS hl)
theorem mo_lconst (X : mo_Cx κ lf ρf cc nL own ret d) {v : Fin 2} {z : Int} (hd : decode cc pc = .ok (.lconst v, 1)) (hz : Int64.ofNat (v : Nat) = Int64.ofInt z) (kk : mo_V κ k n (pc + 1) ls (mo_jv z :: st) G M t) : mo_V κ k n pc ls st G M t := by
  obtain ⟨⟨p, l, e, R, s⟩, ⟨m, args, below, meth, c⟩, Q, ρ⟩ := κ
  obtain ⟨hx, hb, hml, hown, hts, hK, hlk, hrt, hb0, hRf, hRl, hlf, hρ⟩ := X
  intro H locs lr ht hR hS hl
  exact lv_lconst hx hb hd hz (kk H locs lr ht hR hS hl)
theorem mo_iload_n (X : mo_Cx κ lf ρf cc nL own ret d) {i : Fin 4} {x : Int} (hd : decode cc pc = .ok (.iload_n i, 1)) (hn : ls[(i : Nat)]? = some (some (mo_iv x))) (kk : mo_V κ k n (pc + 1) ls (mo_iv x :: st) G M t) : mo_V κ k n pc ls st G M t := by
  obtain ⟨⟨p, l, e, R, s⟩, ⟨m, args, below, meth, c⟩, Q, ρ⟩ := κ
  obtain ⟨hx, hb, hml, hown, hts, hK, hlk, hrt, hb0, hRf, hRl, hlf, hρ⟩ := X
  intro H locs lr ht hR hS hl
  exact lv_iload_n hx hb hd rfl (mo_ld hl hn) (kk H locs lr ht hR hS hl)
theorem mo_iload (X : mo_Cx κ lf ρf cc nL own ret d) {i : Nat} {x : Int} (hd : decode cc pc = .ok (.iload i, 2)) (hn : ls[i]? = some (some (mo_iv x))) (kk : mo_V κ k n (pc + 2) ls (mo_iv x :: st) G M t) : mo_V κ k n pc ls st G M t := by
  obtain ⟨⟨p, l, e, R, s⟩, ⟨m, args, below, meth, c⟩, Q, ρ⟩ := κ
  obtain ⟨hx, hb, hml, hown, hts, hK, hlk, hrt, hb0, hRf, hRl, hlf, hρ⟩ := X
  intro H locs lr ht hR hS hl
  exact lv_iload hx hb hd (mo_ld hl hn) (kk H locs lr ht hR hS hl)
theorem mo_aload_n (X : mo_Cx κ lf ρf cc nL own ret d) {i : Fin 4} {x : Nat} (hd : decode cc pc = .ok (.aload_n i, 1)) (hn : ls[(i : Nat)]? = some (some (.ref x))) (kk : mo_V κ k n (pc + 1) ls (.ref x :: st) G M t) : mo_V κ k n pc ls st G M t := by
  obtain ⟨⟨p, l, e, R, s⟩, ⟨m, args, below, meth, c⟩, Q, ρ⟩ := κ
  obtain ⟨hx, hb, hml, hown, hts, hK, hlk, hrt, hb0, hRf, hRl, hlf, hρ⟩ := X
  intro H locs lr ht hR hS hl
  exact lv_aload_n hx hb hd rfl (mo_ld hl hn) (kk H locs lr ht hR hS hl)
theorem mo_aload (X : mo_Cx κ lf ρf cc nL own ret d) {i : Nat} {x : Nat} (hd : decode cc pc = .ok (.aload i, 2)) (hn : ls[i]? = some (some (.ref x))) (kk : mo_V κ k n (pc + 2) ls (.ref x :: st) G M t) : mo_V κ k n pc ls st G M t := by
  obtain ⟨⟨p, l, e, R, s⟩, ⟨m, args, below, meth, c⟩, Q, ρ⟩ := κ
  obtain ⟨hx, hb, hml, hown, hts, hK, hlk, hrt, hb0, hRf, hRl, hlf, hρ⟩ := X
  intro H locs lr ht hR hS hl
  exact lv_aload hx hb hd (mo_ld hl hn) (kk H locs lr ht hR hS hl)
theorem mo_lload_n (X : mo_Cx κ lf ρf cc nL own ret d) {i : Fin 4} {x : Int} (hd : decode cc pc = .ok (.lload_n i, 1)) (hn : ls[(i : Nat)]? = some (some (mo_jv x))) (kk : mo_V κ k n (pc + 1) ls (mo_jv x :: st) G M t) : mo_V κ k n pc ls st G M t := by
  obtain ⟨⟨p, l, e, R, s⟩, ⟨m, args, below, meth, c⟩, Q, ρ⟩ := κ
  obtain ⟨hx, hb, hml, hown, hts, hK, hlk, hrt, hb0, hRf, hRl, hlf, hρ⟩ := X
  intro H locs lr ht hR hS hl
  exact lv_lload_n hx hb hd rfl (mo_ld hl hn) (kk H locs lr ht hR hS hl)
theorem mo_lload (X : mo_Cx κ lf ρf cc nL own ret d) {i : Nat} {x : Int} (hd : decode cc pc = .ok (.lload i, 2)) (hn : ls[i]? = some (some (mo_jv x))) (kk : mo_V κ k n (pc + 2) ls (mo_jv x :: st) G M t) : mo_V κ k n pc ls st G M t := by
  obtain ⟨⟨p, l, e, R, s⟩, ⟨m, args, below, meth, c⟩, Q, ρ⟩ := κ
  obtain ⟨hx, hb, hml, hown, hts, hK, hlk, hrt, hb0, hRf, hRl, hlf, hρ⟩ := X
  intro H locs lr ht hR hS hl
  exact lv_lload hx hb hd (mo_ld hl hn) (kk H locs lr ht hR hS hl)
theorem mo_istore_n (X : mo_Cx κ lf ρf cc nL own ret d) {z : Fin 4} {i : Nat} {x : Int} (hd : decode cc pc = .ok (.istore_n z, 1)) (hz : (z : Nat) = i) (hc : i = 0 ∨ ∃ o, ls[i - 1]? = some o ∧ mo_c1 o = true) (hi : i < nL) (kk : mo_V κ k n (pc + 1) (ls.set i (some (mo_iv x))) st G M t) : mo_V κ k n pc ls (mo_iv x :: st) G M t := by
  obtain ⟨⟨p, l, e, R, s⟩, ⟨m, args, below, meth, c⟩, Q, ρ⟩ := κ
  obtain ⟨hx, hb, hml, hown, hts, hK, hlk, hrt, hb0, hRf, hRl, hlf, hρ⟩ := X
  intro H locs lr ht hR hS hl
  exact lv_istore_n hx hb hd hz hl (by rw [hml]; exact hi) rfl (fun lr1 hl1 => kk H locs lr1 ht hR hS (mo_lhs hl1 (mo_stq hc)))
theorem mo_istore (X : mo_Cx κ lf ρf cc nL own ret d) {i : Nat} {x : Int} (hd : decode cc pc = .ok (.istore i, 2)) (hc : i = 0 ∨ ∃ o, ls[i - 1]? = some o ∧ mo_c1 o = true) (hi : i < nL) (kk : mo_V κ k n (pc + 2) (ls.set i (some (mo_iv x))) st G M t) : mo_V κ k n pc ls (mo_iv x :: st) G M t := by
  obtain ⟨⟨p, l, e, R, s⟩, ⟨m, args, below, meth, c⟩, Q, ρ⟩ := κ
  obtain ⟨hx, hb, hml, hown, hts, hK, hlk, hrt, hb0, hRf, hRl, hlf, hρ⟩ := X
  intro H locs lr ht hR hS hl
  exact lv_istore hx hb hd hl (by rw [hml]; exact hi) rfl (fun lr1 hl1 => kk H locs lr1 ht hR hS (mo_lhs hl1 (mo_stq hc)))
theorem mo_astore_n (X : mo_Cx κ lf ρf cc nL own ret d) {z : Fin 4} {i x : Nat} (hd : decode cc pc = .ok (.astore_n z, 1)) (hz : (z : Nat) = i) (hc : i = 0 ∨ ∃ o, ls[i - 1]? = some o ∧ mo_c1 o = true) (hi : i < nL) (kk : mo_V κ k n (pc + 1) (ls.set i (some (.ref x))) st G M t) : mo_V κ k n pc ls (.ref x :: st) G M t := by
  obtain ⟨⟨p, l, e, R, s⟩, ⟨m, args, below, meth, c⟩, Q, ρ⟩ := κ
  obtain ⟨hx, hb, hml, hown, hts, hK, hlk, hrt, hb0, hRf, hRl, hlf, hρ⟩ := X
  intro H locs lr ht hR hS hl
  exact lv_astore_n hx hb hd hz hl (by rw [hml]; exact hi) rfl (fun lr1 hl1 => kk H locs lr1 ht hR hS (mo_lhs hl1 (mo_stq hc)))
theorem mo_astore (X : mo_Cx κ lf ρf cc nL own ret d) {i x : Nat} (hd : decode cc pc = .ok (.astore i, 2)) (hc : i = 0 ∨ ∃ o, ls[i - 1]? = some o ∧ mo_c1 o = true) (hi : i < nL) (kk : mo_V κ k n (pc + 2) (ls.set i (some (.ref x))) st G M t) : mo_V κ k n pc ls (.ref x :: st) G M t := by
  obtain ⟨⟨p, l, e, R, s⟩, ⟨m, args, below, meth, c⟩, Q, ρ⟩ := κ
  obtain ⟨hx, hb, hml, hown, hts, hK, hlk, hrt, hb0, hRf, hRl, hlf, hρ⟩ := X
  intro H locs lr ht hR hS hl
  exact lv_astore hx hb hd hl (by rw [hml]; exact hi) rfl (fun lr1 hl1 => kk H locs lr1 ht hR hS (mo_lhs hl1 (mo_stq hc)))
theorem mo_lstore_n (X : mo_Cx κ lf ρf cc nL own ret d) {z : Fin 4} {i : Nat} {x : Int} (hd : decode cc pc = .ok (.lstore_n z, 1)) (hz : (z : Nat) = i) (hc : i = 0 ∨ ∃ o, ls[i - 1]? = some o ∧ mo_c1 o = true) (hi : i + 1 < nL) (kk : mo_V κ k n (pc + 1) ((ls.set i (some (mo_jv x))).set (i + 1) none) st G M t) : mo_V κ k n pc ls (mo_jv x :: st) G M t := by
  obtain ⟨⟨p, l, e, R, s⟩, ⟨m, args, below, meth, c⟩, Q, ρ⟩ := κ
  obtain ⟨hx, hb, hml, hown, hts, hK, hlk, hrt, hb0, hRf, hRl, hlf, hρ⟩ := X
  intro H locs lr ht hR hS hl
  exact lv_lstore_n hx hb hd hz hl (by rw [hml]; exact hi) rfl (fun lr1 hl1 => kk H locs lr1 ht hR hS (mo_lhs hl1 (mo_stq2 hc)))
theorem mo_lstore (X : mo_Cx κ lf ρf cc nL own ret d) {i : Nat} {x : Int} (hd : decode cc pc = .ok (.lstore i, 2)) (hc : i = 0 ∨ ∃ o, ls[i - 1]? = some o ∧ mo_c1 o = true) (hi : i + 1 < nL) (kk : mo_V κ k n (pc + 2) ((ls.set i (some (mo_jv x))).set (i + 1) none) st G M t) : mo_V κ k n pc ls (mo_jv x :: st) G M t := by
  obtain ⟨⟨p, l, e, R, s⟩, ⟨m, args, below, meth, c⟩, Q, ρ⟩ := κ
  obtain ⟨hx, hb, hml, hown, hts, hK, hlk, hrt, hb0, hRf, hRl, hlf, hρ⟩ := X
  intro H locs lr ht hR hS hl
  exact lv_lstore hx hb hd hl (by rw [hml]; exact hi) rfl (fun lr1 hl1 => kk H locs lr1 ht hR hS (mo_lhs hl1 (mo_stq2 hc)))
theorem mo_iinc (X : mo_Cx κ lf ρf cc nL own ret d) {i : Nat} {v x : Int} (hd : decode cc pc = .ok (.iinc i v, 3)) (hn : ls[i]? = some (some (mo_iv x))) (hc : i = 0 ∨ ∃ o, ls[i - 1]? = some o ∧ mo_c1 o = true) (hi : i < nL) (kk : mo_V κ k n (pc + 3) (ls.set i (some (mo_iv (x + v)))) st G M t) : mo_V κ k n pc ls st G M t := by
  obtain ⟨⟨p, l, e, R, s⟩, ⟨m, args, below, meth, c⟩, Q, ρ⟩ := κ
  obtain ⟨hx, hb, hml, hown, hts, hK, hlk, hrt, hb0, hRf, hRl, hlf, hρ⟩ := X
  intro H locs lr ht hR hS hl
  obtain ⟨q, hq⟩ := List.getElem?_of_mem (mo_en_in ls 0 i _ hn)
  rw [Nat.zero_add] at hq
  exact lv_iinc (x := Int32.ofInt x) (v := Int32.ofInt (x + v)) hx hb hd hl hq (by rw [Int32.ofInt_add]) (by rw [hml]; exact hi) rfl (fun lr1 hl1 => kk H locs lr1 ht hR hS (mo_lhs hl1 (mo_stq hc)))
theorem mo_il0 {r : List (Option Value)} {x : Int} (X : mo_Cx κ lf ρf cc nL own ret d) (hd : decode cc pc = .ok (.iload_n 0, 1)) (kk : mo_V κ k n (pc + 1) (some (mo_iv x) :: r) (mo_iv x :: st) G M t) : mo_V κ k n pc (some (mo_iv x) :: r) st G M t := mo_iload_n X hd rfl kk
theorem mo_al0 {r : List (Option Value)} {x : Nat} (X : mo_Cx κ lf ρf cc nL own ret d) (hd : decode cc pc = .ok (.aload_n 0, 1)) (kk : mo_V κ k n (pc + 1) (some (.ref x) :: r) (.ref x :: st) G M t) : mo_V κ k n pc (some (.ref x) :: r) st G M t := mo_aload_n X hd rfl kk
theorem mo_ll0 {r : List (Option Value)} {x : Int} (X : mo_Cx κ lf ρf cc nL own ret d) (hd : decode cc pc = .ok (.lload_n 0, 1)) (kk : mo_V κ k n (pc + 1) (some (mo_jv x) :: r) (mo_jv x :: st) G M t) : mo_V κ k n pc (some (mo_jv x) :: r) st G M t := mo_lload_n X hd rfl kk
theorem mo_is0 {o : Option Value} {r : List (Option Value)} {x : Int} (X : mo_Cx κ lf ρf cc nL own ret d) (hd : decode cc pc = .ok (.istore_n 0, 1)) (hi : 0 < nL) (kk : mo_V κ k n (pc + 1) (some (mo_iv x) :: r) st G M t) : mo_V κ k n pc (o :: r) (mo_iv x :: st) G M t := mo_istore_n X hd rfl (Or.inl rfl) hi kk
theorem mo_as0 {o : Option Value} {r : List (Option Value)} {x : Nat} (X : mo_Cx κ lf ρf cc nL own ret d) (hd : decode cc pc = .ok (.astore_n 0, 1)) (hi : 0 < nL) (kk : mo_V κ k n (pc + 1) (some (.ref x) :: r) st G M t) : mo_V κ k n pc (o :: r) (.ref x :: st) G M t := mo_astore_n X hd rfl (Or.inl rfl) hi kk
theorem mo_ls0 {o o1 : Option Value} {r : List (Option Value)} {x : Int} (X : mo_Cx κ lf ρf cc nL own ret d) (hd : decode cc pc = .ok (.lstore_n 0, 1)) (hi : 0 + 1 < nL) (kk : mo_V κ k n (pc + 1) (some (mo_jv x) :: none :: r) st G M t) : mo_V κ k n pc (o :: o1 :: r) (mo_jv x :: st) G M t := mo_lstore_n X hd rfl (Or.inl rfl) hi kk
theorem mo_ii0 {r : List (Option Value)} {v x : Int} (X : mo_Cx κ lf ρf cc nL own ret d) (hd : decode cc pc = .ok (.iinc 0 v, 3)) (hi : 0 < nL) (kk : mo_V κ k n (pc + 3) (some (mo_iv (x + v)) :: r) st G M t) : mo_V κ k n pc (some (mo_iv x) :: r) st G M t := mo_iinc X hd rfl (Or.inl rfl) hi kk
theorem mo_il1 {a0 : Option Value} {r : List (Option Value)} {x : Int} (X : mo_Cx κ lf ρf cc nL own ret d) (hd : decode cc pc = .ok (.iload_n 1, 1)) (kk : mo_V κ k n (pc + 1) (a0 :: some (mo_iv x) :: r) (mo_iv x :: st) G M t) : mo_V κ k n pc (a0 :: some (mo_iv x) :: r) st G M t := mo_iload_n X hd rfl kk
theorem mo_al1 {a0 : Option Value} {r : List (Option Value)} {x : Nat} (X : mo_Cx κ lf ρf cc nL own ret d) (hd : decode cc pc = .ok (.aload_n 1, 1)) (kk : mo_V κ k n (pc + 1) (a0 :: some (.ref x) :: r) (.ref x :: st) G M t) : mo_V κ k n pc (a0 :: some (.ref x) :: r) st G M t := mo_aload_n X hd rfl kk
theorem mo_ll1 {a0 : Option Value} {r : List (Option Value)} {x : Int} (X : mo_Cx κ lf ρf cc nL own ret d) (hd : decode cc pc = .ok (.lload_n 1, 1)) (kk : mo_V κ k n (pc + 1) (a0 :: some (mo_jv x) :: r) (mo_jv x :: st) G M t) : mo_V κ k n pc (a0 :: some (mo_jv x) :: r) st G M t := mo_lload_n X hd rfl kk
theorem mo_is1 {a0 : Option Value} {o : Option Value} {r : List (Option Value)} {x : Int} (X : mo_Cx κ lf ρf cc nL own ret d) (hd : decode cc pc = .ok (.istore_n 1, 1)) (hc : mo_c1 a0 = true) (hi : 1 < nL) (kk : mo_V κ k n (pc + 1) (a0 :: some (mo_iv x) :: r) st G M t) : mo_V κ k n pc (a0 :: o :: r) (mo_iv x :: st) G M t := mo_istore_n X hd rfl (Or.inr ⟨_, rfl, hc⟩) hi kk
theorem mo_as1 {a0 : Option Value} {o : Option Value} {r : List (Option Value)} {x : Nat} (X : mo_Cx κ lf ρf cc nL own ret d) (hd : decode cc pc = .ok (.astore_n 1, 1)) (hc : mo_c1 a0 = true) (hi : 1 < nL) (kk : mo_V κ k n (pc + 1) (a0 :: some (.ref x) :: r) st G M t) : mo_V κ k n pc (a0 :: o :: r) (.ref x :: st) G M t := mo_astore_n X hd rfl (Or.inr ⟨_, rfl, hc⟩) hi kk
theorem mo_ls1 {a0 : Option Value} {o o1 : Option Value} {r : List (Option Value)} {x : Int} (X : mo_Cx κ lf ρf cc nL own ret d) (hd : decode cc pc = .ok (.lstore_n 1, 1)) (hc : mo_c1 a0 = true) (hi : 1 + 1 < nL) (kk : mo_V κ k n (pc + 1) (a0 :: some (mo_jv x) :: none :: r) st G M t) : mo_V κ k n pc (a0 :: o :: o1 :: r) (mo_jv x :: st) G M t := mo_lstore_n X hd rfl (Or.inr ⟨_, rfl, hc⟩) hi kk
theorem mo_ii1 {a0 : Option Value} {r : List (Option Value)} {v x : Int} (X : mo_Cx κ lf ρf cc nL own ret d) (hd : decode cc pc = .ok (.iinc 1 v, 3)) (hc : mo_c1 a0 = true) (hi : 1 < nL) (kk : mo_V κ k n (pc + 3) (a0 :: some (mo_iv (x + v)) :: r) st G M t) : mo_V κ k n pc (a0 :: some (mo_iv x) :: r) st G M t := mo_iinc X hd rfl (Or.inr ⟨_, rfl, hc⟩) hi kk
theorem mo_il2 {a0 a1 : Option Value} {r : List (Option Value)} {x : Int} (X : mo_Cx κ lf ρf cc nL own ret d) (hd : decode cc pc = .ok (.iload_n 2, 1)) (kk : mo_V κ k n (pc + 1) (a0 :: a1 :: some (mo_iv x) :: r) (mo_iv x :: st) G M t) : mo_V κ k n pc (a0 :: a1 :: some (mo_iv x) :: r) st G M t := mo_iload_n X hd rfl kk
theorem mo_al2 {a0 a1 : Option Value} {r : List (Option Value)} {x : Nat} (X : mo_Cx κ lf ρf cc nL own ret d) (hd : decode cc pc = .ok (.aload_n 2, 1)) (kk : mo_V κ k n (pc + 1) (a0 :: a1 :: some (.ref x) :: r) (.ref x :: st) G M t) : mo_V κ k n pc (a0 :: a1 :: some (.ref x) :: r) st G M t := mo_aload_n X hd rfl kk
theorem mo_ll2 {a0 a1 : Option Value} {r : List (Option Value)} {x : Int} (X : mo_Cx κ lf ρf cc nL own ret d) (hd : decode cc pc = .ok (.lload_n 2, 1)) (kk : mo_V κ k n (pc + 1) (a0 :: a1 :: some (mo_jv x) :: r) (mo_jv x :: st) G M t) : mo_V κ k n pc (a0 :: a1 :: some (mo_jv x) :: r) st G M t := mo_lload_n X hd rfl kk
theorem mo_is2 {a0 a1 : Option Value} {o : Option Value} {r : List (Option Value)} {x : Int} (X : mo_Cx κ lf ρf cc nL own ret d) (hd : decode cc pc = .ok (.istore_n 2, 1)) (hc : mo_c1 a1 = true) (hi : 2 < nL) (kk : mo_V κ k n (pc + 1) (a0 :: a1 :: some (mo_iv x) :: r) st G M t) : mo_V κ k n pc (a0 :: a1 :: o :: r) (mo_iv x :: st) G M t := mo_istore_n X hd rfl (Or.inr ⟨_, rfl, hc⟩) hi kk
theorem mo_as2 {a0 a1 : Option Value} {o : Option Value} {r : List (Option Value)} {x : Nat} (X : mo_Cx κ lf ρf cc nL own ret d) (hd : decode cc pc = .ok (.astore_n 2, 1)) (hc : mo_c1 a1 = true) (hi : 2 < nL) (kk : mo_V κ k n (pc + 1) (a0 :: a1 :: some (.ref x) :: r) st G M t) : mo_V κ k n pc (a0 :: a1 :: o :: r) (.ref x :: st) G M t := mo_astore_n X hd rfl (Or.inr ⟨_, rfl, hc⟩) hi kk
theorem mo_ls2 {a0 a1 : Option Value} {o o1 : Option Value} {r : List (Option Value)} {x : Int} (X : mo_Cx κ lf ρf cc nL own ret d) (hd : decode cc pc = .ok (.lstore_n 2, 1)) (hc : mo_c1 a1 = true) (hi : 2 + 1 < nL) (kk : mo_V κ k n (pc + 1) (a0 :: a1 :: some (mo_jv x) :: none :: r) st G M t) : mo_V κ k n pc (a0 :: a1 :: o :: o1 :: r) (mo_jv x :: st) G M t := mo_lstore_n X hd rfl (Or.inr ⟨_, rfl, hc⟩) hi kk
theorem mo_ii2 {a0 a1 : Option Value} {r : List (Option Value)} {v x : Int} (X : mo_Cx κ lf ρf cc nL own ret d) (hd : decode cc pc = .ok (.iinc 2 v, 3)) (hc : mo_c1 a1 = true) (hi : 2 < nL) (kk : mo_V κ k n (pc + 3) (a0 :: a1 :: some (mo_iv (x + v)) :: r) st G M t) : mo_V κ k n pc (a0 :: a1 :: some (mo_iv x) :: r) st G M t := mo_iinc X hd rfl (Or.inr ⟨_, rfl, hc⟩) hi kk
theorem mo_il3 {a0 a1 a2 : Option Value} {r : List (Option Value)} {x : Int} (X : mo_Cx κ lf ρf cc nL own ret d) (hd : decode cc pc = .ok (.iload_n 3, 1)) (kk : mo_V κ k n (pc + 1) (a0 :: a1 :: a2 :: some (mo_iv x) :: r) (mo_iv x :: st) G M t) : mo_V κ k n pc (a0 :: a1 :: a2 :: some (mo_iv x) :: r) st G M t := mo_iload_n X hd rfl kk
theorem mo_al3 {a0 a1 a2 : Option Value} {r : List (Option Value)} {x : Nat} (X : mo_Cx κ lf ρf cc nL own ret d) (hd : decode cc pc = .ok (.aload_n 3, 1)) (kk : mo_V κ k n (pc + 1) (a0 :: a1 :: a2 :: some (.ref x) :: r) (.ref x :: st) G M t) : mo_V κ k n pc (a0 :: a1 :: a2 :: some (.ref x) :: r) st G M t := mo_aload_n X hd rfl kk
theorem mo_ll3 {a0 a1 a2 : Option Value} {r : List (Option Value)} {x : Int} (X : mo_Cx κ lf ρf cc nL own ret d) (hd : decode cc pc = .ok (.lload_n 3, 1)) (kk : mo_V κ k n (pc + 1) (a0 :: a1 :: a2 :: some (mo_jv x) :: r) (mo_jv x :: st) G M t) : mo_V κ k n pc (a0 :: a1 :: a2 :: some (mo_jv x) :: r) st G M t := mo_lload_n X hd rfl kk
theorem mo_is3 {a0 a1 a2 : Option Value} {o : Option Value} {r : List (Option Value)} {x : Int} (X : mo_Cx κ lf ρf cc nL own ret d) (hd : decode cc pc = .ok (.istore_n 3, 1)) (hc : mo_c1 a2 = true) (hi : 3 < nL) (kk : mo_V κ k n (pc + 1) (a0 :: a1 :: a2 :: some (mo_iv x) :: r) st G M t) : mo_V κ k n pc (a0 :: a1 :: a2 :: o :: r) (mo_iv x :: st) G M t := mo_istore_n X hd rfl (Or.inr ⟨_, rfl, hc⟩) hi kk
theorem mo_as3 {a0 a1 a2 : Option Value} {o : Option Value} {r : List (Option Value)} {x : Nat} (X : mo_Cx κ lf ρf cc nL own ret d) (hd : decode cc pc = .ok (.astore_n 3, 1)) (hc : mo_c1 a2 = true) (hi : 3 < nL) (kk : mo_V κ k n (pc + 1) (a0 :: a1 :: a2 :: some (.ref x) :: r) st G M t) : mo_V κ k n pc (a0 :: a1 :: a2 :: o :: r) (.ref x :: st) G M t := mo_astore_n X hd rfl (Or.inr ⟨_, rfl, hc⟩) hi kk
theorem mo_ls3 {a0 a1 a2 : Option Value} {o o1 : Option Value} {r : List (Option Value)} {x : Int} (X : mo_Cx κ lf ρf cc nL own ret d) (hd : decode cc pc = .ok (.lstore_n 3, 1)) (hc : mo_c1 a2 = true) (hi : 3 + 1 < nL) (kk : mo_V κ k n (pc + 1) (a0 :: a1 :: a2 :: some (mo_jv x) :: none :: r) st G M t) : mo_V κ k n pc (a0 :: a1 :: a2 :: o :: o1 :: r) (mo_jv x :: st) G M t := mo_lstore_n X hd rfl (Or.inr ⟨_, rfl, hc⟩) hi kk
theorem mo_ii3 {a0 a1 a2 : Option Value} {r : List (Option Value)} {v x : Int} (X : mo_Cx κ lf ρf cc nL own ret d) (hd : decode cc pc = .ok (.iinc 3 v, 3)) (hc : mo_c1 a2 = true) (hi : 3 < nL) (kk : mo_V κ k n (pc + 3) (a0 :: a1 :: a2 :: some (mo_iv (x + v)) :: r) st G M t) : mo_V κ k n pc (a0 :: a1 :: a2 :: some (mo_iv x) :: r) st G M t := mo_iinc X hd rfl (Or.inr ⟨_, rfl, hc⟩) hi kk
theorem mo_il4 {a0 a1 a2 a3 : Option Value} {r : List (Option Value)} {x : Int} (X : mo_Cx κ lf ρf cc nL own ret d) (hd : decode cc pc = .ok (.iload 4, 2)) (kk : mo_V κ k n (pc + 2) (a0 :: a1 :: a2 :: a3 :: some (mo_iv x) :: r) (mo_iv x :: st) G M t) : mo_V κ k n pc (a0 :: a1 :: a2 :: a3 :: some (mo_iv x) :: r) st G M t := mo_iload X hd rfl kk
theorem mo_al4 {a0 a1 a2 a3 : Option Value} {r : List (Option Value)} {x : Nat} (X : mo_Cx κ lf ρf cc nL own ret d) (hd : decode cc pc = .ok (.aload 4, 2)) (kk : mo_V κ k n (pc + 2) (a0 :: a1 :: a2 :: a3 :: some (.ref x) :: r) (.ref x :: st) G M t) : mo_V κ k n pc (a0 :: a1 :: a2 :: a3 :: some (.ref x) :: r) st G M t := mo_aload X hd rfl kk
theorem mo_ll4 {a0 a1 a2 a3 : Option Value} {r : List (Option Value)} {x : Int} (X : mo_Cx κ lf ρf cc nL own ret d) (hd : decode cc pc = .ok (.lload 4, 2)) (kk : mo_V κ k n (pc + 2) (a0 :: a1 :: a2 :: a3 :: some (mo_jv x) :: r) (mo_jv x :: st) G M t) : mo_V κ k n pc (a0 :: a1 :: a2 :: a3 :: some (mo_jv x) :: r) st G M t := mo_lload X hd rfl kk
theorem mo_is4 {a0 a1 a2 a3 : Option Value} {o : Option Value} {r : List (Option Value)} {x : Int} (X : mo_Cx κ lf ρf cc nL own ret d) (hd : decode cc pc = .ok (.istore 4, 2)) (hc : mo_c1 a3 = true) (hi : 4 < nL) (kk : mo_V κ k n (pc + 2) (a0 :: a1 :: a2 :: a3 :: some (mo_iv x) :: r) st G M t) : mo_V κ k n pc (a0 :: a1 :: a2 :: a3 :: o :: r) (mo_iv x :: st) G M t := mo_istore X hd (Or.inr ⟨_, rfl, hc⟩) hi kk
theorem mo_as4 {a0 a1 a2 a3 : Option Value} {o : Option Value} {r : List (Option Value)} {x : Nat} (X : mo_Cx κ lf ρf cc nL own ret d) (hd : decode cc pc = .ok (.astore 4, 2)) (hc : mo_c1 a3 = true) (hi : 4 < nL) (kk : mo_V κ k n (pc + 2) (a0 :: a1 :: a2 :: a3 :: some (.ref x) :: r) st G M t) : mo_V κ k n pc (a0 :: a1 :: a2 :: a3 :: o :: r) (.ref x :: st) G M t := mo_astore X hd (Or.inr ⟨_, rfl, hc⟩) hi kk
theorem mo_ls4 {a0 a1 a2 a3 : Option Value} {o o1 : Option Value} {r : List (Option Value)} {x : Int} (X : mo_Cx κ lf ρf cc nL own ret d) (hd : decode cc pc = .ok (.lstore 4, 2)) (hc : mo_c1 a3 = true) (hi : 4 + 1 < nL) (kk : mo_V κ k n (pc + 2) (a0 :: a1 :: a2 :: a3 :: some (mo_jv x) :: none :: r) st G M t) : mo_V κ k n pc (a0 :: a1 :: a2 :: a3 :: o :: o1 :: r) (mo_jv x :: st) G M t := mo_lstore X hd (Or.inr ⟨_, rfl, hc⟩) hi kk
theorem mo_ii4 {a0 a1 a2 a3 : Option Value} {r : List (Option Value)} {v x : Int} (X : mo_Cx κ lf ρf cc nL own ret d) (hd : decode cc pc = .ok (.iinc 4 v, 3)) (hc : mo_c1 a3 = true) (hi : 4 < nL) (kk : mo_V κ k n (pc + 3) (a0 :: a1 :: a2 :: a3 :: some (mo_iv (x + v)) :: r) st G M t) : mo_V κ k n pc (a0 :: a1 :: a2 :: a3 :: some (mo_iv x) :: r) st G M t := mo_iinc X hd rfl (Or.inr ⟨_, rfl, hc⟩) hi kk
theorem mo_il5 {a0 a1 a2 a3 a4 : Option Value} {r : List (Option Value)} {x : Int} (X : mo_Cx κ lf ρf cc nL own ret d) (hd : decode cc pc = .ok (.iload 5, 2)) (kk : mo_V κ k n (pc + 2) (a0 :: a1 :: a2 :: a3 :: a4 :: some (mo_iv x) :: r) (mo_iv x :: st) G M t) : mo_V κ k n pc (a0 :: a1 :: a2 :: a3 :: a4 :: some (mo_iv x) :: r) st G M t := mo_iload X hd rfl kk
theorem mo_al5 {a0 a1 a2 a3 a4 : Option Value} {r : List (Option Value)} {x : Nat} (X : mo_Cx κ lf ρf cc nL own ret d) (hd : decode cc pc = .ok (.aload 5, 2)) (kk : mo_V κ k n (pc + 2) (a0 :: a1 :: a2 :: a3 :: a4 :: some (.ref x) :: r) (.ref x :: st) G M t) : mo_V κ k n pc (a0 :: a1 :: a2 :: a3 :: a4 :: some (.ref x) :: r) st G M t := mo_aload X hd rfl kk
theorem mo_ll5 {a0 a1 a2 a3 a4 : Option Value} {r : List (Option Value)} {x : Int} (X : mo_Cx κ lf ρf cc nL own ret d) (hd : decode cc pc = .ok (.lload 5, 2)) (kk : mo_V κ k n (pc + 2) (a0 :: a1 :: a2 :: a3 :: a4 :: some (mo_jv x) :: r) (mo_jv x :: st) G M t) : mo_V κ k n pc (a0 :: a1 :: a2 :: a3 :: a4 :: some (mo_jv x) :: r) st G M t := mo_lload X hd rfl kk
theorem mo_is5 {a0 a1 a2 a3 a4 : Option Value} {o : Option Value} {r : List (Option Value)} {x : Int} (X : mo_Cx κ lf ρf cc nL own ret d) (hd : decode cc pc = .ok (.istore 5, 2)) (hc : mo_c1 a4 = true) (hi : 5 < nL) (kk : mo_V κ k n (pc + 2) (a0 :: a1 :: a2 :: a3 :: a4 :: some (mo_iv x) :: r) st G M t) : mo_V κ k n pc (a0 :: a1 :: a2 :: a3 :: a4 :: o :: r) (mo_iv x :: st) G M t := mo_istore X hd (Or.inr ⟨_, rfl, hc⟩) hi kk
theorem mo_as5 {a0 a1 a2 a3 a4 : Option Value} {o : Option Value} {r : List (Option Value)} {x : Nat} (X : mo_Cx κ lf ρf cc nL own ret d) (hd : decode cc pc = .ok (.astore 5, 2)) (hc : mo_c1 a4 = true) (hi : 5 < nL) (kk : mo_V κ k n (pc + 2) (a0 :: a1 :: a2 :: a3 :: a4 :: some (.ref x) :: r) st G M t) : mo_V κ k n pc (a0 :: a1 :: a2 :: a3 :: a4 :: o :: r) (.ref x :: st) G M t := mo_astore X hd (Or.inr ⟨_, rfl, hc⟩) hi kk
theorem mo_ls5 {a0 a1 a2 a3 a4 : Option Value} {o o1 : Option Value} {r : List (Option Value)} {x : Int} (X : mo_Cx κ lf ρf cc nL own ret d) (hd : decode cc pc = .ok (.lstore 5, 2)) (hc : mo_c1 a4 = true) (hi : 5 + 1 < nL) (kk : mo_V κ k n (pc + 2) (a0 :: a1 :: a2 :: a3 :: a4 :: some (mo_jv x) :: none :: r) st G M t) : mo_V κ k n pc (a0 :: a1 :: a2 :: a3 :: a4 :: o :: o1 :: r) (mo_jv x :: st) G M t := mo_lstore X hd (Or.inr ⟨_, rfl, hc⟩) hi kk
theorem mo_ii5 {a0 a1 a2 a3 a4 : Option Value} {r : List (Option Value)} {v x : Int} (X : mo_Cx κ lf ρf cc nL own ret d) (hd : decode cc pc = .ok (.iinc 5 v, 3)) (hc : mo_c1 a4 = true) (hi : 5 < nL) (kk : mo_V κ k n (pc + 3) (a0 :: a1 :: a2 :: a3 :: a4 :: some (mo_iv (x + v)) :: r) st G M t) : mo_V κ k n pc (a0 :: a1 :: a2 :: a3 :: a4 :: some (mo_iv x) :: r) st G M t := mo_iinc X hd rfl (Or.inr ⟨_, rfl, hc⟩) hi kk
theorem mo_il6 {a0 a1 a2 a3 a4 a5 : Option Value} {r : List (Option Value)} {x : Int} (X : mo_Cx κ lf ρf cc nL own ret d) (hd : decode cc pc = .ok (.iload 6, 2)) (kk : mo_V κ k n (pc + 2) (a0 :: a1 :: a2 :: a3 :: a4 :: a5 :: some (mo_iv x) :: r) (mo_iv x :: st) G M t) : mo_V κ k n pc (a0 :: a1 :: a2 :: a3 :: a4 :: a5 :: some (mo_iv x) :: r) st G M t := mo_iload X hd rfl kk
theorem mo_al6 {a0 a1 a2 a3 a4 a5 : Option Value} {r : List (Option Value)} {x : Nat} (X : mo_Cx κ lf ρf cc nL own ret d) (hd : decode cc pc = .ok (.aload 6, 2)) (kk : mo_V κ k n (pc + 2) (a0 :: a1 :: a2 :: a3 :: a4 :: a5 :: some (.ref x) :: r) (.ref x :: st) G M t) : mo_V κ k n pc (a0 :: a1 :: a2 :: a3 :: a4 :: a5 :: some (.ref x) :: r) st G M t := mo_aload X hd rfl kk
theorem mo_ll6 {a0 a1 a2 a3 a4 a5 : Option Value} {r : List (Option Value)} {x : Int} (X : mo_Cx κ lf ρf cc nL own ret d) (hd : decode cc pc = .ok (.lload 6, 2)) (kk : mo_V κ k n (pc + 2) (a0 :: a1 :: a2 :: a3 :: a4 :: a5 :: some (mo_jv x) :: r) (mo_jv x :: st) G M t) : mo_V κ k n pc (a0 :: a1 :: a2 :: a3 :: a4 :: a5 :: some (mo_jv x) :: r) st G M t := mo_lload X hd rfl kk
theorem mo_is6 {a0 a1 a2 a3 a4 a5 : Option Value} {o : Option Value} {r : List (Option Value)} {x : Int} (X : mo_Cx κ lf ρf cc nL own ret d) (hd : decode cc pc = .ok (.istore 6, 2)) (hc : mo_c1 a5 = true) (hi : 6 < nL) (kk : mo_V κ k n (pc + 2) (a0 :: a1 :: a2 :: a3 :: a4 :: a5 :: some (mo_iv x) :: r) st G M t) : mo_V κ k n pc (a0 :: a1 :: a2 :: a3 :: a4 :: a5 :: o :: r) (mo_iv x :: st) G M t := mo_istore X hd (Or.inr ⟨_, rfl, hc⟩) hi kk
theorem mo_as6 {a0 a1 a2 a3 a4 a5 : Option Value} {o : Option Value} {r : List (Option Value)} {x : Nat} (X : mo_Cx κ lf ρf cc nL own ret d) (hd : decode cc pc = .ok (.astore 6, 2)) (hc : mo_c1 a5 = true) (hi : 6 < nL) (kk : mo_V κ k n (pc + 2) (a0 :: a1 :: a2 :: a3 :: a4 :: a5 :: some (.ref x) :: r) st G M t) : mo_V κ k n pc (a0 :: a1 :: a2 :: a3 :: a4 :: a5 :: o :: r) (.ref x :: st) G M t := mo_astore X hd (Or.inr ⟨_, rfl, hc⟩) hi kk
theorem mo_ls6 {a0 a1 a2 a3 a4 a5 : Option Value} {o o1 : Option Value} {r : List (Option Value)} {x : Int} (X : mo_Cx κ lf ρf cc nL own ret d) (hd : decode cc pc = .ok (.lstore 6, 2)) (hc : mo_c1 a5 = true) (hi : 6 + 1 < nL) (kk : mo_V κ k n (pc + 2) (a0 :: a1 :: a2 :: a3 :: a4 :: a5 :: some (mo_jv x) :: none :: r) st G M t) : mo_V κ k n pc (a0 :: a1 :: a2 :: a3 :: a4 :: a5 :: o :: o1 :: r) (mo_jv x :: st) G M t := mo_lstore X hd (Or.inr ⟨_, rfl, hc⟩) hi kk
theorem mo_ii6 {a0 a1 a2 a3 a4 a5 : Option Value} {r : List (Option Value)} {v x : Int} (X : mo_Cx κ lf ρf cc nL own ret d) (hd : decode cc pc = .ok (.iinc 6 v, 3)) (hc : mo_c1 a5 = true) (hi : 6 < nL) (kk : mo_V κ k n (pc + 3) (a0 :: a1 :: a2 :: a3 :: a4 :: a5 :: some (mo_iv (x + v)) :: r) st G M t) : mo_V κ k n pc (a0 :: a1 :: a2 :: a3 :: a4 :: a5 :: some (mo_iv x) :: r) st G M t := mo_iinc X hd rfl (Or.inr ⟨_, rfl, hc⟩) hi kk
theorem mo_il7 {a0 a1 a2 a3 a4 a5 a6 : Option Value} {r : List (Option Value)} {x : Int} (X : mo_Cx κ lf ρf cc nL own ret d) (hd : decode cc pc = .ok (.iload 7, 2)) (kk : mo_V κ k n (pc + 2) (a0 :: a1 :: a2 :: a3 :: a4 :: a5 :: a6 :: some (mo_iv x) :: r) (mo_iv x :: st) G M t) : mo_V κ k n pc (a0 :: a1 :: a2 :: a3 :: a4 :: a5 :: a6 :: some (mo_iv x) :: r) st G M t := mo_iload X hd rfl kk
theorem mo_al7 {a0 a1 a2 a3 a4 a5 a6 : Option Value} {r : List (Option Value)} {x : Nat} (X : mo_Cx κ lf ρf cc nL own ret d) (hd : decode cc pc = .ok (.aload 7, 2)) (kk : mo_V κ k n (pc + 2) (a0 :: a1 :: a2 :: a3 :: a4 :: a5 :: a6 :: some (.ref x) :: r) (.ref x :: st) G M t) : mo_V κ k n pc (a0 :: a1 :: a2 :: a3 :: a4 :: a5 :: a6 :: some (.ref x) :: r) st G M t := mo_aload X hd rfl kk
theorem mo_ll7 {a0 a1 a2 a3 a4 a5 a6 : Option Value} {r : List (Option Value)} {x : Int} (X : mo_Cx κ lf ρf cc nL own ret d) (hd : decode cc pc = .ok (.lload 7, 2)) (kk : mo_V κ k n (pc + 2) (a0 :: a1 :: a2 :: a3 :: a4 :: a5 :: a6 :: some (mo_jv x) :: r) (mo_jv x :: st) G M t) : mo_V κ k n pc (a0 :: a1 :: a2 :: a3 :: a4 :: a5 :: a6 :: some (mo_jv x) :: r) st G M t := mo_lload X hd rfl kk
theorem mo_is7 {a0 a1 a2 a3 a4 a5 a6 : Option Value} {o : Option Value} {r : List (Option Value)} {x : Int} (X : mo_Cx κ lf ρf cc nL own ret d) (hd : decode cc pc = .ok (.istore 7, 2)) (hc : mo_c1 a6 = true) (hi : 7 < nL) (kk : mo_V κ k n (pc + 2) (a0 :: a1 :: a2 :: a3 :: a4 :: a5 :: a6 :: some (mo_iv x) :: r) st G M t) : mo_V κ k n pc (a0 :: a1 :: a2 :: a3 :: a4 :: a5 :: a6 :: o :: r) (mo_iv x :: st) G M t := mo_istore X hd (Or.inr ⟨_, rfl, hc⟩) hi kk
theorem mo_as7 {a0 a1 a2 a3 a4 a5 a6 : Option Value} {o : Option Value} {r : List (Option Value)} {x : Nat} (X : mo_Cx κ lf ρf cc nL own ret d) (hd : decode cc pc = .ok (.astore 7, 2)) (hc : mo_c1 a6 = true) (hi : 7 < nL) (kk : mo_V κ k n (pc + 2) (a0 :: a1 :: a2 :: a3 :: a4 :: a5 :: a6 :: some (.ref x) :: r) st G M t) : mo_V κ k n pc (a0 :: a1 :: a2 :: a3 :: a4 :: a5 :: a6 :: o :: r) (.ref x :: st) G M t := mo_astore X hd (Or.inr ⟨_, rfl, hc⟩) hi kk
theorem mo_ls7 {a0 a1 a2 a3 a4 a5 a6 : Option Value} {o o1 : Option Value} {r : List (Option Value)} {x : Int} (X : mo_Cx κ lf ρf cc nL own ret d) (hd : decode cc pc = .ok (.lstore 7, 2)) (hc : mo_c1 a6 = true) (hi : 7 + 1 < nL) (kk : mo_V κ k n (pc + 2) (a0 :: a1 :: a2 :: a3 :: a4 :: a5 :: a6 :: some (mo_jv x) :: none :: r) st G M t) : mo_V κ k n pc (a0 :: a1 :: a2 :: a3 :: a4 :: a5 :: a6 :: o :: o1 :: r) (mo_jv x :: st) G M t := mo_lstore X hd (Or.inr ⟨_, rfl, hc⟩) hi kk
theorem mo_ii7 {a0 a1 a2 a3 a4 a5 a6 : Option Value} {r : List (Option Value)} {v x : Int} (X : mo_Cx κ lf ρf cc nL own ret d) (hd : decode cc pc = .ok (.iinc 7 v, 3)) (hc : mo_c1 a6 = true) (hi : 7 < nL) (kk : mo_V κ k n (pc + 3) (a0 :: a1 :: a2 :: a3 :: a4 :: a5 :: a6 :: some (mo_iv (x + v)) :: r) st G M t) : mo_V κ k n pc (a0 :: a1 :: a2 :: a3 :: a4 :: a5 :: a6 :: some (mo_iv x) :: r) st G M t := mo_iinc X hd rfl (Or.inr ⟨_, rfl, hc⟩) hi kk
theorem mo_il8 {a0 a1 a2 a3 a4 a5 a6 a7 : Option Value} {r : List (Option Value)} {x : Int} (X : mo_Cx κ lf ρf cc nL own ret d) (hd : decode cc pc = .ok (.iload 8, 2)) (kk : mo_V κ k n (pc + 2) (a0 :: a1 :: a2 :: a3 :: a4 :: a5 :: a6 :: a7 :: some (mo_iv x) :: r) (mo_iv x :: st) G M t) : mo_V κ k n pc (a0 :: a1 :: a2 :: a3 :: a4 :: a5 :: a6 :: a7 :: some (mo_iv x) :: r) st G M t := mo_iload X hd rfl kk
theorem mo_al8 {a0 a1 a2 a3 a4 a5 a6 a7 : Option Value} {r : List (Option Value)} {x : Nat} (X : mo_Cx κ lf ρf cc nL own ret d) (hd : decode cc pc = .ok (.aload 8, 2)) (kk : mo_V κ k n (pc + 2) (a0 :: a1 :: a2 :: a3 :: a4 :: a5 :: a6 :: a7 :: some (.ref x) :: r) (.ref x :: st) G M t) : mo_V κ k n pc (a0 :: a1 :: a2 :: a3 :: a4 :: a5 :: a6 :: a7 :: some (.ref x) :: r) st G M t := mo_aload X hd rfl kk
theorem mo_ll8 {a0 a1 a2 a3 a4 a5 a6 a7 : Option Value} {r : List (Option Value)} {x : Int} (X : mo_Cx κ lf ρf cc nL own ret d) (hd : decode cc pc = .ok (.lload 8, 2)) (kk : mo_V κ k n (pc + 2) (a0 :: a1 :: a2 :: a3 :: a4 :: a5 :: a6 :: a7 :: some (mo_jv x) :: r) (mo_jv x :: st) G M t) : mo_V κ k n pc (a0 :: a1 :: a2 :: a3 :: a4 :: a5 :: a6 :: a7 :: some (mo_jv x) :: r) st G M t := mo_lload X hd rfl kk
theorem mo_is8 {a0 a1 a2 a3 a4 a5 a6 a7 : Option Value} {o : Option Value} {r : List (Option Value)} {x : Int} (X : mo_Cx κ lf ρf cc nL own ret d) (hd : decode cc pc = .ok (.istore 8, 2)) (hc : mo_c1 a7 = true) (hi : 8 < nL) (kk : mo_V κ k n (pc + 2) (a0 :: a1 :: a2 :: a3 :: a4 :: a5 :: a6 :: a7 :: some (mo_iv x) :: r) st G M t) : mo_V κ k n pc (a0 :: a1 :: a2 :: a3 :: a4 :: a5 :: a6 :: a7 :: o :: r) (mo_iv x :: st) G M t := mo_istore X hd (Or.inr ⟨_, rfl, hc⟩) hi kk
theorem mo_as8 {a0 a1 a2 a3 a4 a5 a6 a7 : Option Value} {o : Option Value} {r : List (Option Value)} {x : Nat} (X : mo_Cx κ lf ρf cc nL own ret d) (hd : decode cc pc = .ok (.astore 8, 2)) (hc : mo_c1 a7 = true) (hi : 8 < nL) (kk : mo_V κ k n (pc + 2) (a0 :: a1 :: a2 :: a3 :: a4 :: a5 :: a6 :: a7 :: some (.ref x) :: r) st G M t) : mo_V κ k n pc (a0 :: a1 :: a2 :: a3 :: a4 :: a5 :: a6 :: a7 :: o :: r) (.ref x :: st) G M t := mo_astore X hd (Or.inr ⟨_, rfl, hc⟩) hi kk
theorem mo_ls8 {a0 a1 a2 a3 a4 a5 a6 a7 : Option Value} {o o1 : Option Value} {r : List (Option Value)} {x : Int} (X : mo_Cx κ lf ρf cc nL own ret d) (hd : decode cc pc = .ok (.lstore 8, 2)) (hc : mo_c1 a7 = true) (hi : 8 + 1 < nL) (kk : mo_V κ k n (pc + 2) (a0 :: a1 :: a2 :: a3 :: a4 :: a5 :: a6 :: a7 :: some (mo_jv x) :: none :: r) st G M t) : mo_V κ k n pc (a0 :: a1 :: a2 :: a3 :: a4 :: a5 :: a6 :: a7 :: o :: o1 :: r) (mo_jv x :: st) G M t := mo_lstore X hd (Or.inr ⟨_, rfl, hc⟩) hi kk
theorem mo_ii8 {a0 a1 a2 a3 a4 a5 a6 a7 : Option Value} {r : List (Option Value)} {v x : Int} (X : mo_Cx κ lf ρf cc nL own ret d) (hd : decode cc pc = .ok (.iinc 8 v, 3)) (hc : mo_c1 a7 = true) (hi : 8 < nL) (kk : mo_V κ k n (pc + 3) (a0 :: a1 :: a2 :: a3 :: a4 :: a5 :: a6 :: a7 :: some (mo_iv (x + v)) :: r) st G M t) : mo_V κ k n pc (a0 :: a1 :: a2 :: a3 :: a4 :: a5 :: a6 :: a7 :: some (mo_iv x) :: r) st G M t := mo_iinc X hd rfl (Or.inr ⟨_, rfl, hc⟩) hi kk
theorem mo_iadd (X : mo_Cx κ lf ρf cc nL own ret d) {x y : Int} (hd : decode cc pc = .ok (.iadd, 1)) (kk : mo_V κ k n (pc + 1) ls (mo_iv (x + y) :: st) G M t) : mo_V κ k n pc ls (mo_iv y :: mo_iv x :: st) G M t := by
  obtain ⟨⟨p, l, e, R, s⟩, ⟨m, args, below, meth, c⟩, Q, ρ⟩ := κ
  obtain ⟨hx, hb, hml, hown, hts, hK, hlk, hrt, hb0, hRf, hRl, hlf, hρ⟩ := X
  intro H locs lr ht hR hS hl
  exact lv_iadd hx hb hd (by rw [← Int32.ofInt_add]; exact kk H locs lr ht hR hS hl)
theorem mo_isub (X : mo_Cx κ lf ρf cc nL own ret d) {x y : Int} (hd : decode cc pc = .ok (.isub, 1)) (kk : mo_V κ k n (pc + 1) ls (mo_iv (x - y) :: st) G M t) : mo_V κ k n pc ls (mo_iv y :: mo_iv x :: st) G M t := by
  obtain ⟨⟨p, l, e, R, s⟩, ⟨m, args, below, meth, c⟩, Q, ρ⟩ := κ
  obtain ⟨hx, hb, hml, hown, hts, hK, hlk, hrt, hb0, hRf, hRl, hlf, hρ⟩ := X
  intro H locs lr ht hR hS hl
  exact lv_isub hx hb hd (by rw [← Int32.ofInt_sub]; exact kk H locs lr ht hR hS hl)
theorem mo_imul (X : mo_Cx κ lf ρf cc nL own ret d) {x y : Int} (hd : decode cc pc = .ok (.imul, 1)) (kk : mo_V κ k n (pc + 1) ls (mo_iv (x * y) :: st) G M t) : mo_V κ k n pc ls (mo_iv y :: mo_iv x :: st) G M t := by
  obtain ⟨⟨p, l, e, R, s⟩, ⟨m, args, below, meth, c⟩, Q, ρ⟩ := κ
  obtain ⟨hx, hb, hml, hown, hts, hK, hlk, hrt, hb0, hRf, hRl, hlf, hρ⟩ := X
  intro H locs lr ht hR hS hl
  exact lv_imul hx hb hd (by rw [← Int32.ofInt_mul]; exact kk H locs lr ht hR hS hl)
theorem mo_ineg (X : mo_Cx κ lf ρf cc nL own ret d) {x : Int} (hd : decode cc pc = .ok (.ineg, 1)) (kk : mo_V κ k n (pc + 1) ls (mo_iv (-x) :: st) G M t) : mo_V κ k n pc ls (mo_iv x :: st) G M t := by
  obtain ⟨⟨p, l, e, R, s⟩, ⟨m, args, below, meth, c⟩, Q, ρ⟩ := κ
  obtain ⟨hx, hb, hml, hown, hts, hK, hlk, hrt, hb0, hRf, hRl, hlf, hρ⟩ := X
  intro H locs lr ht hR hS hl
  exact lv_ineg hx hb hd (by rw [← Int32.ofInt_neg]; exact kk H locs lr ht hR hS hl)
theorem mo_divI {x y : Int} (hx : 0 ≤ x ∧ x < 2147483648) (hy : 0 < y ∧ y < 2147483648) : Int32.ofInt x / Int32.ofInt y = Int32.ofInt (x / y) := by
  obtain ⟨a, rfl⟩ := Int.eq_ofNat_of_zero_le hx.1
  obtain ⟨b, rfl⟩ := Int.eq_ofNat_of_zero_le (Int.le_of_lt hy.1)
  exact pk_div (a := a) (d := b) (by omega) (by omega) (by omega)
theorem mo_remI {x y : Int} (hx : 0 ≤ x ∧ x < 2147483648) (hy : 0 < y ∧ y < 2147483648) : Int32.ofInt x - Int32.ofInt x / Int32.ofInt y * Int32.ofInt y = Int32.ofInt (x % y) := by
  obtain ⟨a, rfl⟩ := Int.eq_ofNat_of_zero_le hx.1
  obtain ⟨b, rfl⟩ := Int.eq_ofNat_of_zero_le (Int.le_of_lt hy.1)
  exact pk_rem (a := a) (d := b) (by omega) (by omega) (by omega)
theorem mo_nz {y : Int} (hy : 0 < y ∧ y < 2147483648) : ¬ Int32.ofInt y = 0 := by
  rw [mo_0, mo_eq (by omega) (by omega)]
  omega
theorem mo_idiv (X : mo_Cx κ lf ρf cc nL own ret d) {x y : Int} (hd : decode cc pc = .ok (.idiv, 1)) (h1 : 0 ≤ x ∧ x < 2147483648) (h2 : 0 < y ∧ y < 2147483648) (kk : mo_V κ k n (pc + 1) ls (mo_iv (x / y) :: st) G M t) : mo_V κ k n pc ls (mo_iv y :: mo_iv x :: st) G M t := by
  obtain ⟨⟨p, l, e, R, s⟩, ⟨m, args, below, meth, c⟩, Q, ρ⟩ := κ
  obtain ⟨hx, hb, hml, hown, hts, hK, hlk, hrt, hb0, hRf, hRl, hlf, hρ⟩ := X
  intro H locs lr ht hR hS hl
  exact lv_idiv hx hb hd (mo_nz h2) (by rw [mo_divI h1 h2]; exact kk H locs lr ht hR hS hl)
theorem mo_irem (X : mo_Cx κ lf ρf cc nL own ret d) {x y : Int} (hd : decode cc pc = .ok (.irem, 1)) (h1 : 0 ≤ x ∧ x < 2147483648) (h2 : 0 < y ∧ y < 2147483648) (kk : mo_V κ k n (pc + 1) ls (mo_iv (x % y) :: st) G M t) : mo_V κ k n pc ls (mo_iv y :: mo_iv x :: st) G M t := by
  obtain ⟨⟨p, l, e, R, s⟩, ⟨m, args, below, meth, c⟩, Q, ρ⟩ := κ
  obtain ⟨hx, hb, hml, hown, hts, hK, hlk, hrt, hb0, hRf, hRl, hlf, hρ⟩ := X
  intro H locs lr ht hR hS hl
  exact lv_irem hx hb hd (mo_nz h2) (by rw [mo_remI h1 h2]; exact kk H locs lr ht hR hS hl)
def mo_and (x y : Int) : Int := (Int32.ofInt x &&& Int32.ofInt y).toInt
def mo_or (x y : Int) : Int := (Int32.ofInt x ||| Int32.ofInt y).toInt
def mo_xor (x y : Int) : Int := (Int32.ofInt x ^^^ Int32.ofInt y).toInt
def mo_shl (x y : Int) : Int := (Int32.ofInt x <<< (Int32.ofInt y &&& 31)).toInt
def mo_shr (x y : Int) : Int := (Int32.ofInt x >>> (Int32.ofInt y &&& 31)).toInt
def mo_lshl (x y : Int) : Int := (Int64.ofInt x <<< ((Int32.ofInt y).toInt64 &&& 63)).toInt
theorem mo_iand (X : mo_Cx κ lf ρf cc nL own ret d) {x y : Int} (hd : decode cc pc = .ok (.iand, 1)) (kk : mo_V κ k n (pc + 1) ls (mo_iv (mo_and x y) :: st) G M t) : mo_V κ k n pc ls (mo_iv y :: mo_iv x :: st) G M t := by
  obtain ⟨⟨p, l, e, R, s⟩, ⟨m, args, below, meth, c⟩, Q, ρ⟩ := κ
  obtain ⟨hx, hb, hml, hown, hts, hK, hlk, hrt, hb0, hRf, hRl, hlf, hρ⟩ := X
  intro H locs lr ht hR hS hl
  exact lv_iand hx hb hd (by have h := kk H locs lr ht hR hS hl; rw [mo_iv, mo_and, Int32.ofInt_toInt] at h; exact h)
theorem mo_ior (X : mo_Cx κ lf ρf cc nL own ret d) {x y : Int} (hd : decode cc pc = .ok (.ior, 1)) (kk : mo_V κ k n (pc + 1) ls (mo_iv (mo_or x y) :: st) G M t) : mo_V κ k n pc ls (mo_iv y :: mo_iv x :: st) G M t := by
  obtain ⟨⟨p, l, e, R, s⟩, ⟨m, args, below, meth, c⟩, Q, ρ⟩ := κ
  obtain ⟨hx, hb, hml, hown, hts, hK, hlk, hrt, hb0, hRf, hRl, hlf, hρ⟩ := X
  intro H locs lr ht hR hS hl
  exact lv_ior hx hb hd (by have h := kk H locs lr ht hR hS hl; rw [mo_iv, mo_or, Int32.ofInt_toInt] at h; exact h)
theorem mo_ixor (X : mo_Cx κ lf ρf cc nL own ret d) {x y : Int} (hd : decode cc pc = .ok (.ixor, 1)) (kk : mo_V κ k n (pc + 1) ls (mo_iv (mo_xor x y) :: st) G M t) : mo_V κ k n pc ls (mo_iv y :: mo_iv x :: st) G M t := by
  obtain ⟨⟨p, l, e, R, s⟩, ⟨m, args, below, meth, c⟩, Q, ρ⟩ := κ
  obtain ⟨hx, hb, hml, hown, hts, hK, hlk, hrt, hb0, hRf, hRl, hlf, hρ⟩ := X
  intro H locs lr ht hR hS hl
  exact lv_ixor hx hb hd (by have h := kk H locs lr ht hR hS hl; rw [mo_iv, mo_xor, Int32.ofInt_toInt] at h; exact h)
theorem mo_ishl (X : mo_Cx κ lf ρf cc nL own ret d) {x y : Int} (hd : decode cc pc = .ok (.ishl, 1)) (kk : mo_V κ k n (pc + 1) ls (mo_iv (mo_shl x y) :: st) G M t) : mo_V κ k n pc ls (mo_iv y :: mo_iv x :: st) G M t := by
  obtain ⟨⟨p, l, e, R, s⟩, ⟨m, args, below, meth, c⟩, Q, ρ⟩ := κ
  obtain ⟨hx, hb, hml, hown, hts, hK, hlk, hrt, hb0, hRf, hRl, hlf, hρ⟩ := X
  intro H locs lr ht hR hS hl
  exact lv_ishl hx hb hd (by have h := kk H locs lr ht hR hS hl; rw [mo_iv, mo_shl, Int32.ofInt_toInt] at h; exact h)
theorem mo_ishr (X : mo_Cx κ lf ρf cc nL own ret d) {x y : Int} (hd : decode cc pc = .ok (.ishr, 1)) (kk : mo_V κ k n (pc + 1) ls (mo_iv (mo_shr x y) :: st) G M t) : mo_V κ k n pc ls (mo_iv y :: mo_iv x :: st) G M t := by
  obtain ⟨⟨p, l, e, R, s⟩, ⟨m, args, below, meth, c⟩, Q, ρ⟩ := κ
  obtain ⟨hx, hb, hml, hown, hts, hK, hlk, hrt, hb0, hRf, hRl, hlf, hρ⟩ := X
  intro H locs lr ht hR hS hl
  exact lv_ishr hx hb hd (by have h := kk H locs lr ht hR hS hl; rw [mo_iv, mo_shr, Int32.ofInt_toInt] at h; exact h)
theorem mo_i2l (X : mo_Cx κ lf ρf cc nL own ret d) {x : Int} (hd : decode cc pc = .ok (.i2l, 1)) (h1 : mo_In x) (kk : mo_V κ k n (pc + 1) ls (mo_jv x :: st) G M t) : mo_V κ k n pc ls (mo_iv x :: st) G M t := by
  obtain ⟨⟨p, l, e, R, s⟩, ⟨m, args, below, meth, c⟩, Q, ρ⟩ := κ
  obtain ⟨hx, hb, hml, hown, hts, hK, hlk, hrt, hb0, hRf, hRl, hlf, hρ⟩ := X
  intro H locs lr ht hR hS hl
  exact lv_i2l hx hb hd (by rw [← Int64.toInt_inj, Int32.toInt_toInt64, mo_ti h1, mo_tl (by omega)]) (kk H locs lr ht hR hS hl)
theorem mo_ladd (X : mo_Cx κ lf ρf cc nL own ret d) {x y : Int} (hd : decode cc pc = .ok (.ladd, 1)) (kk : mo_V κ k n (pc + 1) ls (mo_jv (x + y) :: st) G M t) : mo_V κ k n pc ls (mo_jv y :: mo_jv x :: st) G M t := by
  obtain ⟨⟨p, l, e, R, s⟩, ⟨m, args, below, meth, c⟩, Q, ρ⟩ := κ
  obtain ⟨hx, hb, hml, hown, hts, hK, hlk, hrt, hb0, hRf, hRl, hlf, hρ⟩ := X
  intro H locs lr ht hR hS hl
  exact lv_ladd hx hb hd (by rw [← Int64.ofInt_add]; exact kk H locs lr ht hR hS hl)
theorem mo_lsub (X : mo_Cx κ lf ρf cc nL own ret d) {x y : Int} (hd : decode cc pc = .ok (.lsub, 1)) (kk : mo_V κ k n (pc + 1) ls (mo_jv (x - y) :: st) G M t) : mo_V κ k n pc ls (mo_jv y :: mo_jv x :: st) G M t := by
  obtain ⟨⟨p, l, e, R, s⟩, ⟨m, args, below, meth, c⟩, Q, ρ⟩ := κ
  obtain ⟨hx, hb, hml, hown, hts, hK, hlk, hrt, hb0, hRf, hRl, hlf, hρ⟩ := X
  intro H locs lr ht hR hS hl
  exact lv_lsub hx hb hd (by rw [← Int64.ofInt_sub]; exact kk H locs lr ht hR hS hl)
theorem mo_lmul (X : mo_Cx κ lf ρf cc nL own ret d) {x y : Int} (hd : decode cc pc = .ok (.lmul, 1)) (kk : mo_V κ k n (pc + 1) ls (mo_jv (x * y) :: st) G M t) : mo_V κ k n pc ls (mo_jv y :: mo_jv x :: st) G M t := by
  obtain ⟨⟨p, l, e, R, s⟩, ⟨m, args, below, meth, c⟩, Q, ρ⟩ := κ
  obtain ⟨hx, hb, hml, hown, hts, hK, hlk, hrt, hb0, hRf, hRl, hlf, hρ⟩ := X
  intro H locs lr ht hR hS hl
  exact lv_lmul hx hb hd (by rw [← Int64.ofInt_mul]; exact kk H locs lr ht hR hS hl)
theorem mo_lsh (X : mo_Cx κ lf ρf cc nL own ret d) {x y : Int} (hd : decode cc pc = .ok (.lshl, 1)) (kk : mo_V κ k n (pc + 1) ls (mo_jv (mo_lshl x y) :: st) G M t) : mo_V κ k n pc ls (mo_iv y :: mo_jv x :: st) G M t := by
  obtain ⟨⟨p, l, e, R, s⟩, ⟨m, args, below, meth, c⟩, Q, ρ⟩ := κ
  obtain ⟨hx, hb, hml, hown, hts, hK, hlk, hrt, hb0, hRf, hRl, hlf, hρ⟩ := X
  intro H locs lr ht hR hS hl
  exact lv_lshl hx hb hd (by rw [mo_lshl, Int64.ofInt_toInt]) (kk H locs lr ht hR hS hl)
def mo_cmp (x y : Int) : Int := if y < x then 1 else if x = y then 0 else -1
theorem mo_cmpL {x y : Int} (h1 : mo_Jn x) (h2 : mo_Jn y) : lg_cmp (Int64.ofInt x) (Int64.ofInt y) = Int32.ofInt (mo_cmp x y) := by
  unfold lg_cmp mo_cmp
  have e1 : (Int64.ofInt x > Int64.ofInt y) ↔ y < x := by
    show Int64.ofInt y < Int64.ofInt x ↔ _
    rw [Int64.lt_iff_toInt_lt, mo_tl h1, mo_tl h2]
  have e2 : (Int64.ofInt x = Int64.ofInt y) ↔ x = y := by rw [← Int64.toInt_inj, mo_tl h1, mo_tl h2]
  by_cases c1 : y < x
  · rw [if_pos (e1.mpr c1), if_pos c1]; decide
  · rw [if_neg (fun h => c1 (e1.mp h)), if_neg c1]
    by_cases c2 : x = y
    · rw [if_pos (e2.mpr c2), if_pos c2]; decide
    · rw [if_neg (fun h => c2 (e2.mp h)), if_neg c2]; decide
theorem mo_cmpS (x : Int) : lg_cmp (Int64.ofInt x) (Int64.ofInt x) = Int32.ofInt 0 := by
  unfold lg_cmp
  rw [if_neg (show ¬ Int64.ofInt x > Int64.ofInt x from Int64.lt_irrefl), if_pos rfl]; decide
theorem mo_lcmp (X : mo_Cx κ lf ρf cc nL own ret d) {x y : Int} (hd : decode cc pc = .ok (.lcmp, 1)) (h1 : mo_Jn x) (h2 : mo_Jn y) (kk : mo_V κ k n (pc + 1) ls (mo_iv (mo_cmp x y) :: st) G M t) : mo_V κ k n pc ls (mo_jv y :: mo_jv x :: st) G M t := by
  obtain ⟨⟨p, l, e, R, s⟩, ⟨m, args, below, meth, c⟩, Q, ρ⟩ := κ
  obtain ⟨hx, hb, hml, hown, hts, hK, hlk, hrt, hb0, hRf, hRl, hlf, hρ⟩ := X
  intro H locs lr ht hR hS hl
  exact W.lcmp hx hb hd (by rw [mo_cmpL h1 h2]; exact kk H locs lr ht hR hS hl)
theorem mo_lcmpS (X : mo_Cx κ lf ρf cc nL own ret d) {x : Int} (hd : decode cc pc = .ok (.lcmp, 1)) (kk : mo_V κ k n (pc + 1) ls (mo_iv 0 :: st) G M t) : mo_V κ k n pc ls (mo_jv x :: mo_jv x :: st) G M t := by
  obtain ⟨⟨p, l, e, R, s⟩, ⟨m, args, below, meth, c⟩, Q, ρ⟩ := κ
  obtain ⟨hx, hb, hml, hown, hts, hK, hlk, hrt, hb0, hRf, hRl, hlf, hρ⟩ := X
  intro H locs lr ht hR hS hl
  exact W.lcmp hx hb hd (by rw [mo_cmpS]; exact kk H locs lr ht hR hS hl)
theorem mo_if_eq (X : mo_Cx κ lf ρf cc nL own ret d) {x : Int} {off : Int} {tgt : Nat} (hd : decode cc pc = .ok (.ifCond .eq off, 3)) (ht : (pc : Int) + off = (tgt : Int)) (hx0 : mo_In x) (kt : x = 0 → mo_V κ k n tgt ls st G M t) (kf : x ≠ 0 → mo_V κ k n (pc + 3) ls st G M t) : mo_V κ k n pc ls (mo_iv x :: st) G M t := by
  obtain ⟨⟨p, l, e, R, s⟩, ⟨m, args, below, meth, c⟩, Q, ρ⟩ := κ
  obtain ⟨hx, hb, hml, hown, hts, hK, hlk, hrt, hb0, hRf, hRl, hlf, hρ⟩ := X
  intro H locs lr hsz hR hS hl
  exact lv_if_eq hx hb hd ht (fun h => kt (by rw [mo_0, mo_eq hx0 (by omega : mo_In 0)] at h; exact h) H locs lr hsz hR hS hl) (fun h => kf (by rw [mo_0, mo_eq hx0 (by omega : mo_In 0)] at h; exact h) H locs lr hsz hR hS hl)
theorem mo_if_ne (X : mo_Cx κ lf ρf cc nL own ret d) {x : Int} {off : Int} {tgt : Nat} (hd : decode cc pc = .ok (.ifCond .ne off, 3)) (ht : (pc : Int) + off = (tgt : Int)) (hx0 : mo_In x) (kt : x ≠ 0 → mo_V κ k n tgt ls st G M t) (kf : x = 0 → mo_V κ k n (pc + 3) ls st G M t) : mo_V κ k n pc ls (mo_iv x :: st) G M t := by
  obtain ⟨⟨p, l, e, R, s⟩, ⟨m, args, below, meth, c⟩, Q, ρ⟩ := κ
  obtain ⟨hx, hb, hml, hown, hts, hK, hlk, hrt, hb0, hRf, hRl, hlf, hρ⟩ := X
  intro H locs lr hsz hR hS hl
  exact lv_if_ne hx hb hd ht (fun h => kt (by rw [mo_0, mo_eq hx0 (by omega : mo_In 0)] at h; exact h) H locs lr hsz hR hS hl) (fun h => kf (by rw [mo_0, mo_eq hx0 (by omega : mo_In 0)] at h; omega) H locs lr hsz hR hS hl)
theorem mo_if_lt (X : mo_Cx κ lf ρf cc nL own ret d) {x : Int} {off : Int} {tgt : Nat} (hd : decode cc pc = .ok (.ifCond .lt off, 3)) (ht : (pc : Int) + off = (tgt : Int)) (hx0 : mo_In x) (kt : x < 0 → mo_V κ k n tgt ls st G M t) (kf : 0 ≤ x → mo_V κ k n (pc + 3) ls st G M t) : mo_V κ k n pc ls (mo_iv x :: st) G M t := by
  obtain ⟨⟨p, l, e, R, s⟩, ⟨m, args, below, meth, c⟩, Q, ρ⟩ := κ
  obtain ⟨hx, hb, hml, hown, hts, hK, hlk, hrt, hb0, hRf, hRl, hlf, hρ⟩ := X
  intro H locs lr hsz hR hS hl
  exact lv_if_lt hx hb hd ht (fun h => kt (by rw [mo_0, mo_lt hx0 (by omega : mo_In 0)] at h; exact h) H locs lr hsz hR hS hl) (fun h => kf (by rw [mo_0, mo_lt hx0 (by omega : mo_In 0)] at h; omega) H locs lr hsz hR hS hl)
theorem mo_if_ge (X : mo_Cx κ lf ρf cc nL own ret d) {x : Int} {off : Int} {tgt : Nat} (hd : decode cc pc = .ok (.ifCond .ge off, 3)) (ht : (pc : Int) + off = (tgt : Int)) (hx0 : mo_In x) (kt : 0 ≤ x → mo_V κ k n tgt ls st G M t) (kf : x < 0 → mo_V κ k n (pc + 3) ls st G M t) : mo_V κ k n pc ls (mo_iv x :: st) G M t := by
  obtain ⟨⟨p, l, e, R, s⟩, ⟨m, args, below, meth, c⟩, Q, ρ⟩ := κ
  obtain ⟨hx, hb, hml, hown, hts, hK, hlk, hrt, hb0, hRf, hRl, hlf, hρ⟩ := X
  intro H locs lr hsz hR hS hl
  exact lv_if_ge hx hb hd ht (fun h => kt (by rw [mo_0, mo_le (by omega : mo_In 0) hx0] at h; exact h) H locs lr hsz hR hS hl) (fun h => kf (by rw [mo_0, mo_le (by omega : mo_In 0) hx0] at h; omega) H locs lr hsz hR hS hl)
theorem mo_if_gt (X : mo_Cx κ lf ρf cc nL own ret d) {x : Int} {off : Int} {tgt : Nat} (hd : decode cc pc = .ok (.ifCond .gt off, 3)) (ht : (pc : Int) + off = (tgt : Int)) (hx0 : mo_In x) (kt : 0 < x → mo_V κ k n tgt ls st G M t) (kf : x ≤ 0 → mo_V κ k n (pc + 3) ls st G M t) : mo_V κ k n pc ls (mo_iv x :: st) G M t := by
  obtain ⟨⟨p, l, e, R, s⟩, ⟨m, args, below, meth, c⟩, Q, ρ⟩ := κ
  obtain ⟨hx, hb, hml, hown, hts, hK, hlk, hrt, hb0, hRf, hRl, hlf, hρ⟩ := X
  intro H locs lr hsz hR hS hl
  exact lv_if_gt hx hb hd ht (fun h => kt (by rw [mo_0, mo_lt (by omega : mo_In 0) hx0] at h; exact h) H locs lr hsz hR hS hl) (fun h => kf (by rw [mo_0, mo_lt (by omega : mo_In 0) hx0] at h; omega) H locs lr hsz hR hS hl)
theorem mo_if_le (X : mo_Cx κ lf ρf cc nL own ret d) {x : Int} {off : Int} {tgt : Nat} (hd : decode cc pc = .ok (.ifCond .le off, 3)) (ht : (pc : Int) + off = (tgt : Int)) (hx0 : mo_In x) (kt : x ≤ 0 → mo_V κ k n tgt ls st G M t) (kf : 0 < x → mo_V κ k n (pc + 3) ls st G M t) : mo_V κ k n pc ls (mo_iv x :: st) G M t := by
  obtain ⟨⟨p, l, e, R, s⟩, ⟨m, args, below, meth, c⟩, Q, ρ⟩ := κ
  obtain ⟨hx, hb, hml, hown, hts, hK, hlk, hrt, hb0, hRf, hRl, hlf, hρ⟩ := X
  intro H locs lr hsz hR hS hl
  exact lv_if_le hx hb hd ht (fun h => kt (by rw [mo_0, mo_le hx0 (by omega : mo_In 0)] at h; exact h) H locs lr hsz hR hS hl) (fun h => kf (by rw [mo_0, mo_le hx0 (by omega : mo_In 0)] at h; omega) H locs lr hsz hR hS hl)
theorem mo_ic_eq (X : mo_Cx κ lf ρf cc nL own ret d) {x y : Int} {off : Int} {tgt : Nat} (hd : decode cc pc = .ok (.if_icmp .eq off, 3)) (ht : (pc : Int) + off = (tgt : Int)) (hx0 : mo_In x) (hy0 : mo_In y) (kt : x = y → mo_V κ k n tgt ls st G M t) (kf : x ≠ y → mo_V κ k n (pc + 3) ls st G M t) : mo_V κ k n pc ls (mo_iv y :: mo_iv x :: st) G M t := by
  obtain ⟨⟨p, l, e, R, s⟩, ⟨m, args, below, meth, c⟩, Q, ρ⟩ := κ
  obtain ⟨hx, hb, hml, hown, hts, hK, hlk, hrt, hb0, hRf, hRl, hlf, hρ⟩ := X
  intro H locs lr hsz hR hS hl
  exact lv_icmp_eq hx hb hd ht (fun h => kt (by rw [mo_eq hx0 hy0] at h; exact h) H locs lr hsz hR hS hl) (fun h => kf (by rw [mo_eq hx0 hy0] at h; exact h) H locs lr hsz hR hS hl)
theorem mo_ic_ne (X : mo_Cx κ lf ρf cc nL own ret d) {x y : Int} {off : Int} {tgt : Nat} (hd : decode cc pc = .ok (.if_icmp .ne off, 3)) (ht : (pc : Int) + off = (tgt : Int)) (hx0 : mo_In x) (hy0 : mo_In y) (kt : x ≠ y → mo_V κ k n tgt ls st G M t) (kf : x = y → mo_V κ k n (pc + 3) ls st G M t) : mo_V κ k n pc ls (mo_iv y :: mo_iv x :: st) G M t := by
  obtain ⟨⟨p, l, e, R, s⟩, ⟨m, args, below, meth, c⟩, Q, ρ⟩ := κ
  obtain ⟨hx, hb, hml, hown, hts, hK, hlk, hrt, hb0, hRf, hRl, hlf, hρ⟩ := X
  intro H locs lr hsz hR hS hl
  exact lv_icmp_ne hx hb hd ht (fun h => kt (by rw [mo_eq hx0 hy0] at h; exact h) H locs lr hsz hR hS hl) (fun h => kf (by rw [mo_eq hx0 hy0] at h; omega) H locs lr hsz hR hS hl)
theorem mo_ic_lt (X : mo_Cx κ lf ρf cc nL own ret d) {x y : Int} {off : Int} {tgt : Nat} (hd : decode cc pc = .ok (.if_icmp .lt off, 3)) (ht : (pc : Int) + off = (tgt : Int)) (hx0 : mo_In x) (hy0 : mo_In y) (kt : x < y → mo_V κ k n tgt ls st G M t) (kf : y ≤ x → mo_V κ k n (pc + 3) ls st G M t) : mo_V κ k n pc ls (mo_iv y :: mo_iv x :: st) G M t := by
  obtain ⟨⟨p, l, e, R, s⟩, ⟨m, args, below, meth, c⟩, Q, ρ⟩ := κ
  obtain ⟨hx, hb, hml, hown, hts, hK, hlk, hrt, hb0, hRf, hRl, hlf, hρ⟩ := X
  intro H locs lr hsz hR hS hl
  exact lv_icmp_lt hx hb hd ht (fun h => kt (by rw [mo_lt hx0 hy0] at h; exact h) H locs lr hsz hR hS hl) (fun h => kf (by rw [mo_lt hx0 hy0] at h; omega) H locs lr hsz hR hS hl)
theorem mo_ic_ge (X : mo_Cx κ lf ρf cc nL own ret d) {x y : Int} {off : Int} {tgt : Nat} (hd : decode cc pc = .ok (.if_icmp .ge off, 3)) (ht : (pc : Int) + off = (tgt : Int)) (hx0 : mo_In x) (hy0 : mo_In y) (kt : y ≤ x → mo_V κ k n tgt ls st G M t) (kf : x < y → mo_V κ k n (pc + 3) ls st G M t) : mo_V κ k n pc ls (mo_iv y :: mo_iv x :: st) G M t := by
  obtain ⟨⟨p, l, e, R, s⟩, ⟨m, args, below, meth, c⟩, Q, ρ⟩ := κ
  obtain ⟨hx, hb, hml, hown, hts, hK, hlk, hrt, hb0, hRf, hRl, hlf, hρ⟩ := X
  intro H locs lr hsz hR hS hl
  exact lv_icmp_ge hx hb hd ht (fun h => kt (by rw [mo_le hy0 hx0] at h; exact h) H locs lr hsz hR hS hl) (fun h => kf (by rw [mo_le hy0 hx0] at h; omega) H locs lr hsz hR hS hl)
theorem mo_ic_gt (X : mo_Cx κ lf ρf cc nL own ret d) {x y : Int} {off : Int} {tgt : Nat} (hd : decode cc pc = .ok (.if_icmp .gt off, 3)) (ht : (pc : Int) + off = (tgt : Int)) (hx0 : mo_In x) (hy0 : mo_In y) (kt : y < x → mo_V κ k n tgt ls st G M t) (kf : x ≤ y → mo_V κ k n (pc + 3) ls st G M t) : mo_V κ k n pc ls (mo_iv y :: mo_iv x :: st) G M t := by
  obtain ⟨⟨p, l, e, R, s⟩, ⟨m, args, below, meth, c⟩, Q, ρ⟩ := κ
  obtain ⟨hx, hb, hml, hown, hts, hK, hlk, hrt, hb0, hRf, hRl, hlf, hρ⟩ := X
  intro H locs lr hsz hR hS hl
  exact lv_icmp_gt hx hb hd ht (fun h => kt (by rw [mo_lt hy0 hx0] at h; exact h) H locs lr hsz hR hS hl) (fun h => kf (by rw [mo_lt hy0 hx0] at h; omega) H locs lr hsz hR hS hl)
theorem mo_ic_le (X : mo_Cx κ lf ρf cc nL own ret d) {x y : Int} {off : Int} {tgt : Nat} (hd : decode cc pc = .ok (.if_icmp .le off, 3)) (ht : (pc : Int) + off = (tgt : Int)) (hx0 : mo_In x) (hy0 : mo_In y) (kt : x ≤ y → mo_V κ k n tgt ls st G M t) (kf : y < x → mo_V κ k n (pc + 3) ls st G M t) : mo_V κ k n pc ls (mo_iv y :: mo_iv x :: st) G M t := by
  obtain ⟨⟨p, l, e, R, s⟩, ⟨m, args, below, meth, c⟩, Q, ρ⟩ := κ
  obtain ⟨hx, hb, hml, hown, hts, hK, hlk, hrt, hb0, hRf, hRl, hlf, hρ⟩ := X
  intro H locs lr hsz hR hS hl
  exact lv_icmp_le hx hb hd ht (fun h => kt (by rw [mo_le hx0 hy0] at h; exact h) H locs lr hsz hR hS hl) (fun h => kf (by rw [mo_le hx0 hy0] at h; omega) H locs lr hsz hR hS hl)
theorem mo_goto (X : mo_Cx κ lf ρf cc nL own ret d) {off : Int} {tgt : Nat} (hd : decode cc pc = .ok (.goto off, 3)) (htg : (pc : Int) + off = (tgt : Int)) (kk : mo_V κ k n tgt ls st G M t) : mo_V κ k n pc ls st G M t := by
  obtain ⟨⟨p, l, e, R, s⟩, ⟨m, args, below, meth, c⟩, Q, ρ⟩ := κ
  obtain ⟨hx, hb, hml, hown, hts, hK, hlk, hrt, hb0, hRf, hRl, hlf, hρ⟩ := X
  intro H locs lr ht hR hS hl
  exact lv_goto hx hb hd htg (kk H locs lr ht hR hS hl)
theorem mo_ifnull (X : mo_Cx κ lf ρf cc nL own ret d) {x : Nat} {off : Int} (hd : decode cc pc = .ok (.ifnull off, 3)) (kk : mo_V κ k n (pc + 3) ls st G M t) : mo_V κ k n pc ls (.ref x :: st) G M t := by
  obtain ⟨⟨p, l, e, R, s⟩, ⟨m, args, below, meth, c⟩, Q, ρ⟩ := κ
  obtain ⟨hx, hb, hml, hown, hts, hK, hlk, hrt, hb0, hRf, hRl, hlf, hρ⟩ := X
  intro H locs lr ht hR hS hl
  exact lv_ifnull hx hb hd (kk H locs lr ht hR hS hl)
theorem mo_ifnonnull (X : mo_Cx κ lf ρf cc nL own ret d) {x : Nat} {off : Int} {tgt : Nat} (hd : decode cc pc = .ok (.ifnonnull off, 3)) (htg : (pc : Int) + off = (tgt : Int)) (kk : mo_V κ k n tgt ls st G M t) : mo_V κ k n pc ls (.ref x :: st) G M t := by
  obtain ⟨⟨p, l, e, R, s⟩, ⟨m, args, below, meth, c⟩, Q, ρ⟩ := κ
  obtain ⟨hx, hb, hml, hown, hts, hK, hlk, hrt, hb0, hRf, hRl, hlf, hρ⟩ := X
  intro H locs lr ht hR hS hl
  exact lv_ifnonnull hx hb hd htg (kk H locs lr ht hR hS hl)
theorem mo_dup (X : mo_Cx κ lf ρf cc nL own ret d) {v : Value} (hd : decode cc pc = .ok (.dup, 1)) (hv : v.category = 1) (kk : mo_V κ k n (pc + 1) ls (v :: v :: st) G M t) : mo_V κ k n pc ls (v :: st) G M t := by
  obtain ⟨⟨p, l, e, R, s⟩, ⟨m, args, below, meth, c⟩, Q, ρ⟩ := κ
  obtain ⟨hx, hb, hml, hown, hts, hK, hlk, hrt, hb0, hRf, hRl, hlf, hρ⟩ := X
  intro H locs lr ht hR hS hl
  exact lv_dup hx hb hd hv (kk H locs lr ht hR hS hl)
theorem mo_pop (X : mo_Cx κ lf ρf cc nL own ret d) {v : Value} (hd : decode cc pc = .ok (.pop, 1)) (hv : v.category = 1) (kk : mo_V κ k n (pc + 1) ls st G M t) : mo_V κ k n pc ls (v :: st) G M t := by
  obtain ⟨⟨p, l, e, R, s⟩, ⟨m, args, below, meth, c⟩, Q, ρ⟩ := κ
  obtain ⟨hx, hb, hml, hown, hts, hK, hlk, hrt, hb0, hRf, hRl, hlf, hρ⟩ := X
  intro H locs lr ht hR hS hl
  exact lv_pop hx hb hd hv (kk H locs lr ht hR hS hl)
theorem mo_dup2 (X : mo_Cx κ lf ρf cc nL own ret d) {v z : Value} (hd : decode cc pc = .ok (.dup2, 1)) (hv : v.category = 1) (hz : z.category = 1) (kk : mo_V κ k n (pc + 1) ls (v :: z :: v :: z :: st) G M t) : mo_V κ k n pc ls (v :: z :: st) G M t := by
  obtain ⟨⟨p, l, e, R, s⟩, ⟨m, args, below, meth, c⟩, Q, ρ⟩ := κ
  obtain ⟨hx, hb, hml, hown, hts, hK, hlk, hrt, hb0, hRf, hRl, hlf, hρ⟩ := X
  intro H locs lr ht hR hS hl
  exact lv_dup2_11 hx hb hd hv hz (kk H locs lr ht hR hS hl)
end MOR
