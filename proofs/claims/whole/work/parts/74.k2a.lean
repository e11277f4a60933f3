theorem mo_yy_addOrder : yL_addOrder.cls ≠ "java/lang/invoke/MethodHandle" ∧ yL_addOrder.cls ≠ "java/lang/invoke/VarHandle" ∧ (parseMethodDescriptor yL_addOrder.desc).map (fun d => d.parameters.length) = some 4 := by decide +kernel
theorem mo_yy_change : yL_change.cls ≠ "java/lang/invoke/MethodHandle" ∧ yL_change.cls ≠ "java/lang/invoke/VarHandle" ∧ (parseMethodDescriptor yL_change.desc).map (fun d => d.parameters.length) = some 5 := by decide +kernel
theorem mo_yy_allow : yL_allow.cls ≠ "java/lang/invoke/MethodHandle" ∧ yL_allow.cls ≠ "java/lang/invoke/VarHandle" ∧ (parseMethodDescriptor yL_allow.desc).map (fun d => d.parameters.length) = some 4 := by decide +kernel
theorem mo_yy_addEscort : yL_addEscort.cls ≠ "java/lang/invoke/MethodHandle" ∧ yL_addEscort.cls ≠ "java/lang/invoke/VarHandle" ∧ (parseMethodDescriptor yL_addEscort.desc).map (fun d => d.parameters.length) = some 4 := by decide +kernel
theorem mo_yy_setSlots : yL_setSlots.cls ≠ "java/lang/invoke/MethodHandle" ∧ yL_setSlots.cls ≠ "java/lang/invoke/VarHandle" ∧ (parseMethodDescriptor yL_setSlots.desc).map (fun d => d.parameters.length) = some 4 := by decide +kernel
theorem mo_yy_addVenue : yL_addVenue.cls ≠ "java/lang/invoke/MethodHandle" ∧ yL_addVenue.cls ≠ "java/lang/invoke/VarHandle" ∧ (parseMethodDescriptor yL_addVenue.desc).map (fun d => d.parameters.length) = some 3 := by decide +kernel
theorem mo_yy_plan : yL_plan.cls ≠ "java/lang/invoke/MethodHandle" ∧ yL_plan.cls ≠ "java/lang/invoke/VarHandle" ∧ (parseMethodDescriptor yL_plan.desc).map (fun d => d.parameters.length) = some 7 := by decide +kernel
theorem mo_yy_planWeek : yL_planWeek.cls ≠ "java/lang/invoke/MethodHandle" ∧ yL_planWeek.cls ≠ "java/lang/invoke/VarHandle" ∧ (parseMethodDescriptor yL_planWeek.desc).map (fun d => d.parameters.length) = some 3 := by decide +kernel
theorem mo_yy_cancel : yL_cancel.cls ≠ "java/lang/invoke/MethodHandle" ∧ yL_cancel.cls ≠ "java/lang/invoke/VarHandle" ∧ (parseMethodDescriptor yL_cancel.desc).map (fun d => d.parameters.length) = some 3 := by decide +kernel
theorem mo_yy_tell : yL_tell.cls ≠ "java/lang/invoke/MethodHandle" ∧ yL_tell.cls ≠ "java/lang/invoke/VarHandle" ∧ (parseMethodDescriptor yL_tell.desc).map (fun d => d.parameters.length) = some 4 := by decide +kernel
theorem mo_yy_endWeek : yL_endWeek.cls ≠ "java/lang/invoke/MethodHandle" ∧ yL_endWeek.cls ≠ "java/lang/invoke/VarHandle" ∧ (parseMethodDescriptor yL_endWeek.desc).map (fun d => d.parameters.length) = some 2 := by decide +kernel
theorem mo_yy_order : yL_order.cls ≠ "java/lang/invoke/MethodHandle" ∧ yL_order.cls ≠ "java/lang/invoke/VarHandle" ∧ (parseMethodDescriptor yL_order.desc).map (fun d => d.parameters.length) = some 4 := by decide +kernel
theorem mo_yy_hours : yL_hours.cls ≠ "java/lang/invoke/MethodHandle" ∧ yL_hours.cls ≠ "java/lang/invoke/VarHandle" ∧ (parseMethodDescriptor yL_hours.desc).map (fun d => d.parameters.length) = some 4 := by decide +kernel
theorem mo_yy_owed : yL_owed.cls ≠ "java/lang/invoke/MethodHandle" ∧ yL_owed.cls ≠ "java/lang/invoke/VarHandle" ∧ (parseMethodDescriptor yL_owed.desc).map (fun d => d.parameters.length) = some 4 := by decide +kernel
theorem mo_yy_meeting : yL_meeting.cls ≠ "java/lang/invoke/MethodHandle" ∧ yL_meeting.cls ≠ "java/lang/invoke/VarHandle" ∧ (parseMethodDescriptor yL_meeting.desc).map (fun d => d.parameters.length) = some 4 := by decide +kernel
theorem mo_yy_escort : yL_escort.cls ≠ "java/lang/invoke/MethodHandle" ∧ yL_escort.cls ≠ "java/lang/invoke/VarHandle" ∧ (parseMethodDescriptor yL_escort.desc).map (fun d => d.parameters.length) = some 4 := by decide +kernel
theorem mo_yy_freeRooms : yL_freeRooms.cls ≠ "java/lang/invoke/MethodHandle" ∧ yL_freeRooms.cls ≠ "java/lang/invoke/VarHandle" ∧ (parseMethodDescriptor yL_freeRooms.desc).map (fun d => d.parameters.length) = some 5 := by decide +kernel
theorem mo_yy_value : yL_value.cls ≠ "java/lang/invoke/MethodHandle" ∧ yL_value.cls ≠ "java/lang/invoke/VarHandle" ∧ (parseMethodDescriptor yL_value.desc).map (fun d => d.parameters.length) = some 3 := by decide +kernel
theorem mo_yy_why : yL_why.cls ≠ "java/lang/invoke/MethodHandle" ∧ yL_why.cls ≠ "java/lang/invoke/VarHandle" ∧ (parseMethodDescriptor yL_why.desc).map (fun d => d.parameters.length) = some 7 := by decide +kernel
theorem mo_yy_firstSlot : yL_firstSlot.cls ≠ "java/lang/invoke/MethodHandle" ∧ yL_firstSlot.cls ≠ "java/lang/invoke/VarHandle" ∧ (parseMethodDescriptor yL_firstSlot.desc).map (fun d => d.parameters.length) = some 4 := by decide +kernel
theorem mo_yy_owedBehind : yL_owedBehind.cls ≠ "java/lang/invoke/MethodHandle" ∧ yL_owedBehind.cls ≠ "java/lang/invoke/VarHandle" ∧ (parseMethodDescriptor yL_owedBehind.desc).map (fun d => d.parameters.length) = some 3 := by decide +kernel
theorem mo_yy_gainBy : yL_gainBy.cls ≠ "java/lang/invoke/MethodHandle" ∧ yL_gainBy.cls ≠ "java/lang/invoke/VarHandle" ∧ (parseMethodDescriptor yL_gainBy.desc).map (fun d => d.parameters.length) = some 4 := by decide +kernel
theorem mo_yy_append : yL_append.cls ≠ "java/lang/invoke/MethodHandle" ∧ yL_append.cls ≠ "java/lang/invoke/VarHandle" ∧ (parseMethodDescriptor yL_append.desc).map (fun d => d.parameters.length) = some 3 := by decide +kernel
theorem mo_yy_undo : yL_undo.cls ≠ "java/lang/invoke/MethodHandle" ∧ yL_undo.cls ≠ "java/lang/invoke/VarHandle" ∧ (parseMethodDescriptor yL_undo.desc).map (fun d => d.parameters.length) = some 2 := by decide +kernel
set_option maxHeartbeats 4000000 in
set_option maxRecDepth 100000 in
theorem lc_addOrder {κ : mo_T} {lf : Launch} {ρf : mo_E} {ret : Option FieldType} (hlf : lf.stackTraces = false) {b Ls : Nat} {xs : Nat → Int32} {i x m ou n sv s t k0 n0 : Nat} {B : Int} {G : mo_G} {M : mo_M} {dd : Drawn} {hh : List (Nat × Nat × Nat × Nat)} (X0 : mo_Cx κ lf ρf cL_law 9 RL ret 11) (Z0 : mo_Hx κ hh) (hX0 : mo_Xs κ b Ls xs) (hLs : Ls ≤ 3072) (hi : i + 6 ≤ Ls) (hrm : mo_Rm κ (k0 + 1) (n0 + 6)) (L : mo_LI G M x m ou n sv s B) (hB : B ≤ 3000000) (hd0 : (mo_st κ).drawn.sameBut dd lw_cs) (next : mo_Nxt κ b x m ou i B k0 n0) : mo_V (mo_dr κ dd) k0 n0 172 [some (.ref b), some (.ref x), some (.ref m), some (.ref ou), some (mo_iv (i : Int)), none, none, none, none] [] G M t := by
  have X := mo_Cx_dr X0 dd
  have Z := mo_Hx_dr Z0 dd
  have hXs := mo_Xs_dr hX0 dd
  have hrm : mo_Rm (mo_dr κ dd) (k0 + 1) (n0 + 6) := hrm
  obtain ⟨L1, L2, L3, L4, L5, L6, L7, L8, L9, L10, L11, L12⟩ := id L
  have hx := L3.1
  refine mo_al1 (pc := 172) X dL_law_172 ?_
  refine mo_al0 (pc := 173) X dL_law_173 ?_
  refine mo_il4 (pc := 174) X dL_law_174 ?_
  refine mo_iconst (pc := 176) X dL_law_176 ?_
  refine mo_iadd (pc := 177) X dL_law_177 ?_
  refine mo_sld (pc := 178) (j := i + 1) X hXs hLs (by omega) (by omega) (by omega) dL_law_178 ?_
  refine mo_al0 (pc := 179) X dL_law_179 ?_
  refine mo_il4 (pc := 180) X dL_law_180 ?_
  refine mo_iconst (pc := 182) X dL_law_182 ?_
  refine mo_iadd (pc := 183) X dL_law_183 ?_
  refine mo_sld (pc := 184) (j := i + 2) X hXs hLs (by omega) (by omega) (by omega) dL_law_184 ?_
  refine mo_al3 (pc := 185) X dL_law_185 ?_
  have hC := ctL_addOrder (lf := lf) (ρf := ρf) (t := t) (x := x) (out := ou) (val := (M (m + 1)) 4) (mo_Ms_o hx) (ct4_addOrder hlf L3 L8 (by omega) L7 (mo_ri (xs (i + 1))) (mo_ri (xs (i + 2)))) (fun v G' M' t' h => by
        obtain ⟨⟨h1, -⟩, -, -, -, hu, -⟩ := h
        exact ⟨hu, by rw [h1]; exact L2⟩) (fun E G' M' t' h => by
        obtain ⟨-, -, -, hd⟩ := h
        rcases hd with ⟨e, -⟩ | ⟨e, -⟩
        · exact Or.inl e
        · exact Or.inr e)
  refine mo_callSH (pc := 186) (As := [_, _, _, _]) X Z mo_wm_L_97 mo_wi_yL_addOrder mo_wz_L mo_wh_yL_addOrder mo_yy_addOrder dL_law_186 hC rfl (by decide) (by decide) (Nat.le_of_ble_eq_true rfl) hrm ?_
  rintro v1 G1 M1 t1 ⟨k, rfl, hk⟩
  show mo_V (mo_dr κ dd) (k0 + 1) (n0 + 6) 189 _ [mo_iv k] _ _ _
  obtain ⟨hL1, hfin⟩ := lj_addOrder (t := t) (A0 := (xs (i + 1)).toInt) (A1 := (xs (i + 2)).toInt) L rfl rfl rfl hk
  refine mo_is5 (pc := 189) X dL_law_189 rfl (by decide) ?_
  have e0 : M1 m = M m := hL1.2 m (by omega) (by omega)
  have e1 : M1 (m + 1) = M (m + 1) := hL1.2 (m + 1) (by omega) (by omega)
  have hm1 : mo_Md G1 m := mo_Md_f3 hL1.1.1 (hL1.1.2 m (by omega)) L1
  have hI1 : mo_Iv (M1 (m + 1)) B := by rw [e1]; exact L8
  have hs1 : M1 m 2 = sv := by rw [e0]; exact L4
  have ho1 : G1.1 ou = some (.inr (1, 1)) := by rw [hL1.1.1]; exact L2
  refine mo_al2 (pc := 191) X dL_law_191 ?_
  refine mo_al0 (pc := 192) X dL_law_192 ?_
  refine mo_il4 (pc := 193) X dL_law_193 ?_
  refine mo_iconst (pc := 195) X dL_law_195 ?_
  refine mo_iadd (pc := 196) X dL_law_196 ?_
  refine mo_sld (pc := 197) (j := i + 1) X hXs hLs (by omega) (by omega) (by omega) dL_law_197 ?_
  refine mo_al0 (pc := 198) X dL_law_198 ?_
  refine mo_il4 (pc := 199) X dL_law_199 ?_
  refine mo_iconst (pc := 201) X dL_law_201 ?_
  refine mo_iadd (pc := 202) X dL_law_202 ?_
  refine mo_sld (pc := 203) (j := i + 2) X hXs hLs (by omega) (by omega) (by omega) dL_law_203 ?_
  refine mo_callVr (pc := 204) (As := [_, _]) X mo_k_L_102 mo_y_yX5_addOrder rfl dL_law_204 (ct5_addOrder (m := m) hm1 hI1 (by omega) hs1 L7 (mo_ri (xs (i + 1))) (mo_ri (xs (i + 2)))) (mo_Md_o hm1) rfl (by decide) (by decide) (Nat.le_of_ble_eq_true rfl) hrm ?_
  rintro v2 G2 M2 t2 ⟨rfl, rfl, b2, rfl, hb⟩
  show mo_V (mo_dr κ dd) (k0 + 1) (n0 + 6) 207 _ [mo_iv b2] _ _ _
  obtain ⟨⟨n2, sv2, s2, LI2⟩, hk4, hkr, hkv⟩ := hfin b2 M2 hb
  refine mo_is6 (pc := 207) X dL_law_207 rfl (by decide) ?_
  refine mo_al2 (pc := 209) X dL_law_209 ?_
  refine mo_callVr (pc := 210) (As := []) X mo_k_L_103 mo_y_yX5_thrown rfl dL_law_210 (ct5_thrown hm1) (mo_Md_o hm1) rfl (by decide) (by decide) (Nat.le_of_ble_eq_true rfl) hrm ?_
  rintro v3 G3 M3 t3 ⟨rfl, rfl, x3, rfl, h3, h4⟩
  subst h4
  obtain rfl : x3 = k := h3.trans hk4
  show mo_V (mo_dr κ dd) (k0 + 1) (n0 + 6) 213 _ [mo_iv x3] _ _ _
  refine mo_il5 (pc := 213) X dL_law_213 ?_
  refine mo_ic_eqS (pc := 215) (tgt := 220) X dL_law_215 (by decide) ?_
  refine mo_il5 (pc := 220) X dL_law_220 ?_
  refine mo_if_ne (pc := 222) (tgt := 237) X dL_law_222 (by decide) (by omega) (fun c_a => ?_) (fun c_a => ?_)
  · refine mo_goto (pc := 237) (tgt := 1890) X dL_law_237 (by decide) ?_
    refine mo_fg4 ?_
    exact next dd hd0 _ _ _ _ _ _ LI2
  refine mo_al3 (pc := 225) X dL_law_225 ?_
  refine mo_iconst (pc := 226) X dL_law_226 ?_
  refine mo_lald (pc := 227) (j := 0) X dL_law_227 ho1 (by decide) (by decide) (by decide) rfl ?_
  rw [hkv c_a]
  refine mo_il6 (pc := 228) X dL_law_228 ?_
  refine mo_i2lB (pc := 230) X dL_law_230 ?_
  refine mo_lcmpS (pc := 231) X dL_law_231 ?_
  refine mo_if_eq (pc := 232) (tgt := 237) X dL_law_232 (by decide) (by decide) (fun c_b => ?_) (fun c_b => absurd rfl c_b)
  refine mo_goto (pc := 237) (tgt := 1890) X dL_law_237 (by decide) ?_
  refine mo_fg4 ?_
  exact next dd hd0 _ _ _ _ _ _ LI2
set_option maxHeartbeats 4000000 in
set_option maxRecDepth 100000 in
theorem lc_change {κ : mo_T} {lf : Launch} {ρf : mo_E} {ret : Option FieldType} (hlf : lf.stackTraces = false) {b Ls : Nat} {xs : Nat → Int32} {i x m ou n sv s t k0 n0 : Nat} {B : Int} {G : mo_G} {M : mo_M} {dd : Drawn} {hh : List (Nat × Nat × Nat × Nat)} (X0 : mo_Cx κ lf ρf cL_law 9 RL ret 11) (Z0 : mo_Hx κ hh) (hX0 : mo_Xs κ b Ls xs) (hLs : Ls ≤ 3072) (hi : i + 6 ≤ Ls) (hrm : mo_Rm κ (k0 + 1) (n0 + 6)) (L : mo_LI G M x m ou n sv s B) (hB : B ≤ 3000000) (hd0 : (mo_st κ).drawn.sameBut dd lw_cs) (next : mo_Nxt κ b x m ou i B k0 n0) : mo_V (mo_dr κ dd) k0 n0 240 [some (.ref b), some (.ref x), some (.ref m), some (.ref ou), some (mo_iv (i : Int)), none, none, none, none] [] G M t := by
  have X := mo_Cx_dr X0 dd
  have Z := mo_Hx_dr Z0 dd
  have hXs := mo_Xs_dr hX0 dd
  have hrm : mo_Rm (mo_dr κ dd) (k0 + 1) (n0 + 6) := hrm
  obtain ⟨L1, L2, L3, L4, L5, L6, L7, L8, L9, L10, L11, L12⟩ := id L
  have hx := L3.1
  refine mo_al1 (pc := 240) X dL_law_240 ?_
  refine mo_al0 (pc := 241) X dL_law_241 ?_
  refine mo_il4 (pc := 242) X dL_law_242 ?_
  refine mo_iconst (pc := 244) X dL_law_244 ?_
  refine mo_iadd (pc := 245) X dL_law_245 ?_
  refine mo_sld (pc := 246) (j := i + 1) X hXs hLs (by omega) (by omega) (by omega) dL_law_246 ?_
  refine mo_al0 (pc := 247) X dL_law_247 ?_
  refine mo_il4 (pc := 248) X dL_law_248 ?_
  refine mo_iconst (pc := 250) X dL_law_250 ?_
  refine mo_iadd (pc := 251) X dL_law_251 ?_
  refine mo_sld (pc := 252) (j := i + 2) X hXs hLs (by omega) (by omega) (by omega) dL_law_252 ?_
  refine mo_al0 (pc := 253) X dL_law_253 ?_
  refine mo_il4 (pc := 254) X dL_law_254 ?_
  refine mo_iconst (pc := 256) X dL_law_256 ?_
  refine mo_iadd (pc := 257) X dL_law_257 ?_
  refine mo_sld (pc := 258) (j := i + 3) X hXs hLs (by omega) (by omega) (by omega) dL_law_258 ?_
  refine mo_al3 (pc := 259) X dL_law_259 ?_
  have hC := ctL_change (lf := lf) (ρf := ρf) (t := t) (x := x) (out := ou) (val := (M (m + 1)) (8 + 20 * ((xs (i + 1)).toInt).toNat + ((xs (i + 2)).toInt).toNat)) (mo_Ms_o hx) (ct4_change hlf L3 L8 (by omega) L7 (mo_ri (xs (i + 1))) (mo_ri (xs (i + 2))) (mo_ri (xs (i + 3)))) (fun v G' M' t' h => by
        obtain ⟨⟨h1, -⟩, -, -, -, hu, -⟩ := h
        exact ⟨hu, by rw [h1]; exact L2⟩) (fun E G' M' t' h => by
        obtain ⟨-, -, -, hd⟩ := h
        rcases hd with ⟨e, -⟩ | ⟨e, -⟩
        · exact Or.inl e
        · exact Or.inr e)
  refine mo_callSH (pc := 260) (As := [_, _, _, _, _]) X Z mo_wm_L_106 mo_wi_yL_change mo_wz_L mo_wh_yL_change mo_yy_change dL_law_260 hC rfl (by decide) (by decide) (Nat.le_of_ble_eq_true rfl) hrm ?_
  rintro v1 G1 M1 t1 ⟨k, rfl, hk⟩
  show mo_V (mo_dr κ dd) (k0 + 1) (n0 + 6) 263 _ [mo_iv k] _ _ _
  obtain ⟨hL1, hfin⟩ := lj_change (t := t) (A0 := (xs (i + 1)).toInt) (A1 := (xs (i + 2)).toInt) (A2 := (xs (i + 3)).toInt) L rfl rfl rfl hk
  refine mo_is5 (pc := 263) X dL_law_263 rfl (by decide) ?_
  have e0 : M1 m = M m := hL1.2 m (by omega) (by omega)
  have e1 : M1 (m + 1) = M (m + 1) := hL1.2 (m + 1) (by omega) (by omega)
  have hm1 : mo_Md G1 m := mo_Md_f3 hL1.1.1 (hL1.1.2 m (by omega)) L1
  have hI1 : mo_Iv (M1 (m + 1)) B := by rw [e1]; exact L8
  have hs1 : M1 m 2 = sv := by rw [e0]; exact L4
  have ho1 : G1.1 ou = some (.inr (1, 1)) := by rw [hL1.1.1]; exact L2
  refine mo_al2 (pc := 265) X dL_law_265 ?_
  refine mo_al0 (pc := 266) X dL_law_266 ?_
  refine mo_il4 (pc := 267) X dL_law_267 ?_
  refine mo_iconst (pc := 269) X dL_law_269 ?_
  refine mo_iadd (pc := 270) X dL_law_270 ?_
  refine mo_sld (pc := 271) (j := i + 1) X hXs hLs (by omega) (by omega) (by omega) dL_law_271 ?_
  refine mo_al0 (pc := 272) X dL_law_272 ?_
  refine mo_il4 (pc := 273) X dL_law_273 ?_
  refine mo_iconst (pc := 275) X dL_law_275 ?_
  refine mo_iadd (pc := 276) X dL_law_276 ?_
  refine mo_sld (pc := 277) (j := i + 2) X hXs hLs (by omega) (by omega) (by omega) dL_law_277 ?_
  refine mo_al0 (pc := 278) X dL_law_278 ?_
  refine mo_il4 (pc := 279) X dL_law_279 ?_
  refine mo_iconst (pc := 281) X dL_law_281 ?_
  refine mo_iadd (pc := 282) X dL_law_282 ?_
  refine mo_sld (pc := 283) (j := i + 3) X hXs hLs (by omega) (by omega) (by omega) dL_law_283 ?_
  refine mo_callVr (pc := 284) (As := [_, _, _]) X mo_k_L_109 mo_y_yX5_change rfl dL_law_284 (ct5_change (m := m) hm1 hI1 (by omega) hs1 L7 (mo_ri (xs (i + 1))) (mo_ri (xs (i + 2))) (mo_ri (xs (i + 3)))) (mo_Md_o hm1) rfl (by decide) (by decide) (Nat.le_of_ble_eq_true rfl) hrm ?_
  rintro v2 G2 M2 t2 ⟨rfl, rfl, b2, rfl, hb⟩
  show mo_V (mo_dr κ dd) (k0 + 1) (n0 + 6) 287 _ [mo_iv b2] _ _ _
  obtain ⟨⟨n2, sv2, s2, LI2⟩, hk4, hkr, hkv⟩ := hfin b2 M2 hb
  refine mo_is6 (pc := 287) X dL_law_287 rfl (by decide) ?_
  refine mo_al2 (pc := 289) X dL_law_289 ?_
  refine mo_callVr (pc := 290) (As := []) X mo_k_L_103 mo_y_yX5_thrown rfl dL_law_290 (ct5_thrown hm1) (mo_Md_o hm1) rfl (by decide) (by decide) (Nat.le_of_ble_eq_true rfl) hrm ?_
  rintro v3 G3 M3 t3 ⟨rfl, rfl, x3, rfl, h3, h4⟩
  subst h4
  obtain rfl : x3 = k := h3.trans hk4
  show mo_V (mo_dr κ dd) (k0 + 1) (n0 + 6) 293 _ [mo_iv x3] _ _ _
  refine mo_il5 (pc := 293) X dL_law_293 ?_
  refine mo_ic_eqS (pc := 295) (tgt := 300) X dL_law_295 (by decide) ?_
  refine mo_il5 (pc := 300) X dL_law_300 ?_
  refine mo_if_ne (pc := 302) (tgt := 317) X dL_law_302 (by decide) (by omega) (fun c_a => ?_) (fun c_a => ?_)
  · refine mo_goto (pc := 317) (tgt := 1890) X dL_law_317 (by decide) ?_
    refine mo_fg4 ?_
    exact next dd hd0 _ _ _ _ _ _ LI2
  refine mo_al3 (pc := 305) X dL_law_305 ?_
  refine mo_iconst (pc := 306) X dL_law_306 ?_
  refine mo_lald (pc := 307) (j := 0) X dL_law_307 ho1 (by decide) (by decide) (by decide) rfl ?_
  rw [hkv c_a]
  refine mo_il6 (pc := 308) X dL_law_308 ?_
  refine mo_i2lB (pc := 310) X dL_law_310 ?_
  refine mo_lcmpS (pc := 311) X dL_law_311 ?_
  refine mo_if_eq (pc := 312) (tgt := 317) X dL_law_312 (by decide) (by decide) (fun c_b => ?_) (fun c_b => absurd rfl c_b)
  refine mo_goto (pc := 317) (tgt := 1890) X dL_law_317 (by decide) ?_
  refine mo_fg4 ?_
  exact next dd hd0 _ _ _ _ _ _ LI2
set_option maxHeartbeats 4000000 in
set_option maxRecDepth 100000 in
theorem lc_allow {κ : mo_T} {lf : Launch} {ρf : mo_E} {ret : Option FieldType} (hlf : lf.stackTraces = false) {b Ls : Nat} {xs : Nat → Int32} {i x m ou n sv s t k0 n0 : Nat} {B : Int} {G : mo_G} {M : mo_M} {dd : Drawn} {hh : List (Nat × Nat × Nat × Nat)} (X0 : mo_Cx κ lf ρf cL_law 9 RL ret 11) (Z0 : mo_Hx κ hh) (hX0 : mo_Xs κ b Ls xs) (hLs : Ls ≤ 3072) (hi : i + 6 ≤ Ls) (hrm : mo_Rm κ (k0 + 1) (n0 + 6)) (L : mo_LI G M x m ou n sv s B) (hB : B ≤ 3000000) (hd0 : (mo_st κ).drawn.sameBut dd lw_cs) (next : mo_Nxt κ b x m ou i B k0 n0) : mo_V (mo_dr κ dd) k0 n0 320 [some (.ref b), some (.ref x), some (.ref m), some (.ref ou), some (mo_iv (i : Int)), none, none, none, none] [] G M t := by
  have X := mo_Cx_dr X0 dd
  have Z := mo_Hx_dr Z0 dd
  have hXs := mo_Xs_dr hX0 dd
  have hrm : mo_Rm (mo_dr κ dd) (k0 + 1) (n0 + 6) := hrm
  obtain ⟨L1, L2, L3, L4, L5, L6, L7, L8, L9, L10, L11, L12⟩ := id L
  have hx := L3.1
  refine mo_al1 (pc := 320) X dL_law_320 ?_
  refine mo_al0 (pc := 321) X dL_law_321 ?_
  refine mo_il4 (pc := 322) X dL_law_322 ?_
  refine mo_iconst (pc := 324) X dL_law_324 ?_
  refine mo_iadd (pc := 325) X dL_law_325 ?_
  refine mo_sld (pc := 326) (j := i + 1) X hXs hLs (by omega) (by omega) (by omega) dL_law_326 ?_
  refine mo_al0 (pc := 327) X dL_law_327 ?_
  refine mo_il4 (pc := 328) X dL_law_328 ?_
  refine mo_iconst (pc := 330) X dL_law_330 ?_
  refine mo_iadd (pc := 331) X dL_law_331 ?_
  refine mo_sld (pc := 332) (j := i + 2) X hXs hLs (by omega) (by omega) (by omega) dL_law_332 ?_
  refine mo_al3 (pc := 333) X dL_law_333 ?_
  have hC := ctL_allow (lf := lf) (ρf := ρf) (t := t) (x := x) (out := ou) (val := (M (m + 1)) (168 + ((xs (i + 1)).toInt).toNat)) (mo_Ms_o hx) (ct4_allow hlf L3 L8 (by omega) L7 (mo_ri (xs (i + 1))) (mo_ri (xs (i + 2)))) (fun v G' M' t' h => by
        obtain ⟨⟨h1, -⟩, -, -, -, hu, -⟩ := h
        exact ⟨hu, by rw [h1]; exact L2⟩) (fun E G' M' t' h => by
        obtain ⟨-, -, -, hd⟩ := h
        rcases hd with ⟨e, -⟩ | ⟨e, -⟩
        · exact Or.inl e
        · exact Or.inr e)
  refine mo_callSH (pc := 334) (As := [_, _, _, _]) X Z mo_wm_L_110 mo_wi_yL_allow mo_wz_L mo_wh_yL_allow mo_yy_allow dL_law_334 hC rfl (by decide) (by decide) (Nat.le_of_ble_eq_true rfl) hrm ?_
  rintro v1 G1 M1 t1 ⟨k, rfl, hk⟩
  show mo_V (mo_dr κ dd) (k0 + 1) (n0 + 6) 337 _ [mo_iv k] _ _ _
  obtain ⟨hL1, hfin⟩ := lj_allow (t := t) (A0 := (xs (i + 1)).toInt) (A1 := (xs (i + 2)).toInt) L rfl rfl rfl hk
  refine mo_is5 (pc := 337) X dL_law_337 rfl (by decide) ?_
  have e0 : M1 m = M m := hL1.2 m (by omega) (by omega)
  have e1 : M1 (m + 1) = M (m + 1) := hL1.2 (m + 1) (by omega) (by omega)
  have hm1 : mo_Md G1 m := mo_Md_f3 hL1.1.1 (hL1.1.2 m (by omega)) L1
  have hI1 : mo_Iv (M1 (m + 1)) B := by rw [e1]; exact L8
  have hs1 : M1 m 2 = sv := by rw [e0]; exact L4
  have ho1 : G1.1 ou = some (.inr (1, 1)) := by rw [hL1.1.1]; exact L2
  refine mo_al2 (pc := 339) X dL_law_339 ?_
  refine mo_al0 (pc := 340) X dL_law_340 ?_
  refine mo_il4 (pc := 341) X dL_law_341 ?_
  refine mo_iconst (pc := 343) X dL_law_343 ?_
  refine mo_iadd (pc := 344) X dL_law_344 ?_
  refine mo_sld (pc := 345) (j := i + 1) X hXs hLs (by omega) (by omega) (by omega) dL_law_345 ?_
  refine mo_al0 (pc := 346) X dL_law_346 ?_
  refine mo_il4 (pc := 347) X dL_law_347 ?_
  refine mo_iconst (pc := 349) X dL_law_349 ?_
  refine mo_iadd (pc := 350) X dL_law_350 ?_
  refine mo_sld (pc := 351) (j := i + 2) X hXs hLs (by omega) (by omega) (by omega) dL_law_351 ?_
  refine mo_callVr (pc := 352) (As := [_, _]) X mo_k_L_112 mo_y_yX5_allow rfl dL_law_352 (ct5_allow (m := m) hm1 hI1 (by omega) hs1 L7 (mo_ri (xs (i + 1))) (mo_ri (xs (i + 2)))) (mo_Md_o hm1) rfl (by decide) (by decide) (Nat.le_of_ble_eq_true rfl) hrm ?_
  rintro v2 G2 M2 t2 ⟨rfl, rfl, b2, rfl, hb⟩
  show mo_V (mo_dr κ dd) (k0 + 1) (n0 + 6) 355 _ [mo_iv b2] _ _ _
  obtain ⟨⟨n2, sv2, s2, LI2⟩, hk4, hkr, hkv⟩ := hfin b2 M2 hb
  refine mo_is6 (pc := 355) X dL_law_355 rfl (by decide) ?_
  refine mo_al2 (pc := 357) X dL_law_357 ?_
  refine mo_callVr (pc := 358) (As := []) X mo_k_L_103 mo_y_yX5_thrown rfl dL_law_358 (ct5_thrown hm1) (mo_Md_o hm1) rfl (by decide) (by decide) (Nat.le_of_ble_eq_true rfl) hrm ?_
  rintro v3 G3 M3 t3 ⟨rfl, rfl, x3, rfl, h3, h4⟩
  subst h4
  obtain rfl : x3 = k := h3.trans hk4
  show mo_V (mo_dr κ dd) (k0 + 1) (n0 + 6) 361 _ [mo_iv x3] _ _ _
  refine mo_il5 (pc := 361) X dL_law_361 ?_
  refine mo_ic_eqS (pc := 363) (tgt := 368) X dL_law_363 (by decide) ?_
  refine mo_il5 (pc := 368) X dL_law_368 ?_
  refine mo_if_ne (pc := 370) (tgt := 385) X dL_law_370 (by decide) (by omega) (fun c_a => ?_) (fun c_a => ?_)
  · refine mo_goto (pc := 385) (tgt := 1890) X dL_law_385 (by decide) ?_
    refine mo_fg4 ?_
    exact next dd hd0 _ _ _ _ _ _ LI2
  refine mo_al3 (pc := 373) X dL_law_373 ?_
  refine mo_iconst (pc := 374) X dL_law_374 ?_
  refine mo_lald (pc := 375) (j := 0) X dL_law_375 ho1 (by decide) (by decide) (by decide) rfl ?_
  rw [hkv c_a]
  refine mo_il6 (pc := 376) X dL_law_376 ?_
  refine mo_i2lB (pc := 378) X dL_law_378 ?_
  refine mo_lcmpS (pc := 379) X dL_law_379 ?_
  refine mo_if_eq (pc := 380) (tgt := 385) X dL_law_380 (by decide) (by decide) (fun c_b => ?_) (fun c_b => absurd rfl c_b)
  refine mo_goto (pc := 385) (tgt := 1890) X dL_law_385 (by decide) ?_
  refine mo_fg4 ?_
  exact next dd hd0 _ _ _ _ _ _ LI2
set_option maxHeartbeats 4000000 in
set_option maxRecDepth 100000 in
theorem lc_addEscort {κ : mo_T} {lf : Launch} {ρf : mo_E} {ret : Option FieldType} (hlf : lf.stackTraces = false) {b Ls : Nat} {xs : Nat → Int32} {i x m ou n sv s t k0 n0 : Nat} {B : Int} {G : mo_G} {M : mo_M} {dd : Drawn} {hh : List (Nat × Nat × Nat × Nat)} (X0 : mo_Cx κ lf ρf cL_law 9 RL ret 11) (Z0 : mo_Hx κ hh) (hX0 : mo_Xs κ b Ls xs) (hLs : Ls ≤ 3072) (hi : i + 6 ≤ Ls) (hrm : mo_Rm κ (k0 + 1) (n0 + 6)) (L : mo_LI G M x m ou n sv s B) (hB : B ≤ 3000000) (hd0 : (mo_st κ).drawn.sameBut dd lw_cs) (next : mo_Nxt κ b x m ou i B k0 n0) : mo_V (mo_dr κ dd) k0 n0 388 [some (.ref b), some (.ref x), some (.ref m), some (.ref ou), some (mo_iv (i : Int)), none, none, none, none] [] G M t := by
  have X := mo_Cx_dr X0 dd
  have Z := mo_Hx_dr Z0 dd
  have hXs := mo_Xs_dr hX0 dd
  have hrm : mo_Rm (mo_dr κ dd) (k0 + 1) (n0 + 6) := hrm
  obtain ⟨L1, L2, L3, L4, L5, L6, L7, L8, L9, L10, L11, L12⟩ := id L
  have hx := L3.1
  refine mo_al1 (pc := 388) X dL_law_388 ?_
  refine mo_al0 (pc := 389) X dL_law_389 ?_
  refine mo_il4 (pc := 390) X dL_law_390 ?_
  refine mo_iconst (pc := 392) X dL_law_392 ?_
  refine mo_iadd (pc := 393) X dL_law_393 ?_
  refine mo_sld (pc := 394) (j := i + 1) X hXs hLs (by omega) (by omega) (by omega) dL_law_394 ?_
  refine mo_al0 (pc := 395) X dL_law_395 ?_
  refine mo_il4 (pc := 396) X dL_law_396 ?_
  refine mo_iconst (pc := 398) X dL_law_398 ?_
  refine mo_iadd (pc := 399) X dL_law_399 ?_
  refine mo_sld (pc := 400) (j := i + 2) X hXs hLs (by omega) (by omega) (by omega) dL_law_400 ?_
  refine mo_al3 (pc := 401) X dL_law_401 ?_
  have hC := ctL_addEscort (lf := lf) (ρf := ρf) (t := t) (x := x) (out := ou) (val := (M (m + 1)) 5) (mo_Ms_o hx) (ct4_addEscort hlf L3 L8 (by omega) L7 (mo_ri (xs (i + 1))) (mo_ri (xs (i + 2)))) (fun v G' M' t' h => by
        obtain ⟨⟨h1, -⟩, -, -, -, hu, -⟩ := h
        exact ⟨hu, by rw [h1]; exact L2⟩) (fun E G' M' t' h => by
        obtain ⟨-, -, -, hd⟩ := h
        rcases hd with ⟨e, -⟩ | ⟨e, -⟩
        · exact Or.inl e
        · exact Or.inr e)
  refine mo_callSH (pc := 402) (As := [_, _, _, _]) X Z mo_wm_L_113 mo_wi_yL_addEscort mo_wz_L mo_wh_yL_addEscort mo_yy_addEscort dL_law_402 hC rfl (by decide) (by decide) (Nat.le_of_ble_eq_true rfl) hrm ?_
  rintro v1 G1 M1 t1 ⟨k, rfl, hk⟩
  show mo_V (mo_dr κ dd) (k0 + 1) (n0 + 6) 405 _ [mo_iv k] _ _ _
  obtain ⟨hL1, hfin⟩ := lj_addEscort (t := t) (A0 := (xs (i + 1)).toInt) (A1 := (xs (i + 2)).toInt) L rfl rfl rfl hk
  refine mo_is5 (pc := 405) X dL_law_405 rfl (by decide) ?_
  have e0 : M1 m = M m := hL1.2 m (by omega) (by omega)
  have e1 : M1 (m + 1) = M (m + 1) := hL1.2 (m + 1) (by omega) (by omega)
  have hm1 : mo_Md G1 m := mo_Md_f3 hL1.1.1 (hL1.1.2 m (by omega)) L1
  have hI1 : mo_Iv (M1 (m + 1)) B := by rw [e1]; exact L8
  have hs1 : M1 m 2 = sv := by rw [e0]; exact L4
  have ho1 : G1.1 ou = some (.inr (1, 1)) := by rw [hL1.1.1]; exact L2
  refine mo_al2 (pc := 407) X dL_law_407 ?_
  refine mo_al0 (pc := 408) X dL_law_408 ?_
  refine mo_il4 (pc := 409) X dL_law_409 ?_
  refine mo_iconst (pc := 411) X dL_law_411 ?_
  refine mo_iadd (pc := 412) X dL_law_412 ?_
  refine mo_sld (pc := 413) (j := i + 1) X hXs hLs (by omega) (by omega) (by omega) dL_law_413 ?_
  refine mo_al0 (pc := 414) X dL_law_414 ?_
  refine mo_il4 (pc := 415) X dL_law_415 ?_
  refine mo_iconst (pc := 417) X dL_law_417 ?_
  refine mo_iadd (pc := 418) X dL_law_418 ?_
  refine mo_sld (pc := 419) (j := i + 2) X hXs hLs (by omega) (by omega) (by omega) dL_law_419 ?_
  refine mo_callVr (pc := 420) (As := [_, _]) X mo_k_L_115 mo_y_yX5_addEscort rfl dL_law_420 (ct5_addEscort (m := m) hm1 hI1 (by omega) hs1 L7 (mo_ri (xs (i + 1))) (mo_ri (xs (i + 2)))) (mo_Md_o hm1) rfl (by decide) (by decide) (Nat.le_of_ble_eq_true rfl) hrm ?_
  rintro v2 G2 M2 t2 ⟨rfl, rfl, b2, rfl, hb⟩
  show mo_V (mo_dr κ dd) (k0 + 1) (n0 + 6) 423 _ [mo_iv b2] _ _ _
  obtain ⟨⟨n2, sv2, s2, LI2⟩, hk4, hkr, hkv⟩ := hfin b2 M2 hb
  refine mo_is6 (pc := 423) X dL_law_423 rfl (by decide) ?_
  refine mo_al2 (pc := 425) X dL_law_425 ?_
  refine mo_callVr (pc := 426) (As := []) X mo_k_L_103 mo_y_yX5_thrown rfl dL_law_426 (ct5_thrown hm1) (mo_Md_o hm1) rfl (by decide) (by decide) (Nat.le_of_ble_eq_true rfl) hrm ?_
  rintro v3 G3 M3 t3 ⟨rfl, rfl, x3, rfl, h3, h4⟩
  subst h4
  obtain rfl : x3 = k := h3.trans hk4
  show mo_V (mo_dr κ dd) (k0 + 1) (n0 + 6) 429 _ [mo_iv x3] _ _ _
  refine mo_il5 (pc := 429) X dL_law_429 ?_
  refine mo_ic_eqS (pc := 431) (tgt := 436) X dL_law_431 (by decide) ?_
  refine mo_il5 (pc := 436) X dL_law_436 ?_
  refine mo_if_ne (pc := 438) (tgt := 453) X dL_law_438 (by decide) (by omega) (fun c_a => ?_) (fun c_a => ?_)
  · refine mo_goto (pc := 453) (tgt := 1890) X dL_law_453 (by decide) ?_
    refine mo_fg4 ?_
    exact next dd hd0 _ _ _ _ _ _ LI2
  refine mo_al3 (pc := 441) X dL_law_441 ?_
  refine mo_iconst (pc := 442) X dL_law_442 ?_
  refine mo_lald (pc := 443) (j := 0) X dL_law_443 ho1 (by decide) (by decide) (by decide) rfl ?_
  rw [hkv c_a]
  refine mo_il6 (pc := 444) X dL_law_444 ?_
  refine mo_i2lB (pc := 446) X dL_law_446 ?_
  refine mo_lcmpS (pc := 447) X dL_law_447 ?_
  refine mo_if_eq (pc := 448) (tgt := 453) X dL_law_448 (by decide) (by decide) (fun c_b => ?_) (fun c_b => absurd rfl c_b)
  refine mo_goto (pc := 453) (tgt := 1890) X dL_law_453 (by decide) ?_
  refine mo_fg4 ?_
  exact next dd hd0 _ _ _ _ _ _ LI2
set_option maxHeartbeats 4000000 in
set_option maxRecDepth 100000 in
theorem lc_setSlots {κ : mo_T} {lf : Launch} {ρf : mo_E} {ret : Option FieldType} (hlf : lf.stackTraces = false) {b Ls : Nat} {xs : Nat → Int32} {i x m ou n sv s t k0 n0 : Nat} {B : Int} {G : mo_G} {M : mo_M} {dd : Drawn} {hh : List (Nat × Nat × Nat × Nat)} (X0 : mo_Cx κ lf ρf cL_law 9 RL ret 11) (Z0 : mo_Hx κ hh) (hX0 : mo_Xs κ b Ls xs) (hLs : Ls ≤ 3072) (hi : i + 6 ≤ Ls) (hrm : mo_Rm κ (k0 + 1) (n0 + 6)) (L : mo_LI G M x m ou n sv s B) (hB : B ≤ 3000000) (hd0 : (mo_st κ).drawn.sameBut dd lw_cs) (next : mo_Nxt κ b x m ou i B k0 n0) : mo_V (mo_dr κ dd) k0 n0 456 [some (.ref b), some (.ref x), some (.ref m), some (.ref ou), some (mo_iv (i : Int)), none, none, none, none] [] G M t := by
  have X := mo_Cx_dr X0 dd
  have Z := mo_Hx_dr Z0 dd
  have hXs := mo_Xs_dr hX0 dd
  have hrm : mo_Rm (mo_dr κ dd) (k0 + 1) (n0 + 6) := hrm
  obtain ⟨L1, L2, L3, L4, L5, L6, L7, L8, L9, L10, L11, L12⟩ := id L
  have hx := L3.1
  refine mo_al1 (pc := 456) X dL_law_456 ?_
  refine mo_al0 (pc := 457) X dL_law_457 ?_
  refine mo_il4 (pc := 458) X dL_law_458 ?_
  refine mo_iconst (pc := 460) X dL_law_460 ?_
  refine mo_iadd (pc := 461) X dL_law_461 ?_
  refine mo_sld (pc := 462) (j := i + 1) X hXs hLs (by omega) (by omega) (by omega) dL_law_462 ?_
  refine mo_al0 (pc := 463) X dL_law_463 ?_
  refine mo_il4 (pc := 464) X dL_law_464 ?_
  refine mo_iconst (pc := 466) X dL_law_466 ?_
  refine mo_iadd (pc := 467) X dL_law_467 ?_
  refine mo_sld (pc := 468) (j := i + 2) X hXs hLs (by omega) (by omega) (by omega) dL_law_468 ?_
  refine mo_al3 (pc := 469) X dL_law_469 ?_
  have hC := ctL_setSlots (lf := lf) (ρf := ρf) (t := t) (x := x) (out := ou) (val := (M (m + 1)) (192 + ((xs (i + 1)).toInt).toNat)) (mo_Ms_o hx) (ct4_setSlots hlf L3 L8 (by omega) L7 (mo_ri (xs (i + 1))) (mo_ri (xs (i + 2)))) (fun v G' M' t' h => by
        obtain ⟨⟨h1, -⟩, -, -, -, hu, -⟩ := h
        exact ⟨hu, by rw [h1]; exact L2⟩) (fun E G' M' t' h => by
        obtain ⟨-, -, -, hd⟩ := h
        rcases hd with ⟨e, -⟩ | ⟨e, -⟩
        · exact Or.inl e
        · exact Or.inr e)
  refine mo_callSH (pc := 470) (As := [_, _, _, _]) X Z mo_wm_L_116 mo_wi_yL_setSlots mo_wz_L mo_wh_yL_setSlots mo_yy_setSlots dL_law_470 hC rfl (by decide) (by decide) (Nat.le_of_ble_eq_true rfl) hrm ?_
  rintro v1 G1 M1 t1 ⟨k, rfl, hk⟩
  show mo_V (mo_dr κ dd) (k0 + 1) (n0 + 6) 473 _ [mo_iv k] _ _ _
  obtain ⟨hL1, hfin⟩ := lj_setSlots (t := t) (A0 := (xs (i + 1)).toInt) (A1 := (xs (i + 2)).toInt) L rfl rfl rfl hk
  refine mo_is5 (pc := 473) X dL_law_473 rfl (by decide) ?_
  have e0 : M1 m = M m := hL1.2 m (by omega) (by omega)
  have e1 : M1 (m + 1) = M (m + 1) := hL1.2 (m + 1) (by omega) (by omega)
  have hm1 : mo_Md G1 m := mo_Md_f3 hL1.1.1 (hL1.1.2 m (by omega)) L1
  have hI1 : mo_Iv (M1 (m + 1)) B := by rw [e1]; exact L8
  have hs1 : M1 m 2 = sv := by rw [e0]; exact L4
  have ho1 : G1.1 ou = some (.inr (1, 1)) := by rw [hL1.1.1]; exact L2
  refine mo_al2 (pc := 475) X dL_law_475 ?_
  refine mo_al0 (pc := 476) X dL_law_476 ?_
  refine mo_il4 (pc := 477) X dL_law_477 ?_
  refine mo_iconst (pc := 479) X dL_law_479 ?_
  refine mo_iadd (pc := 480) X dL_law_480 ?_
  refine mo_sld (pc := 481) (j := i + 1) X hXs hLs (by omega) (by omega) (by omega) dL_law_481 ?_
  refine mo_al0 (pc := 482) X dL_law_482 ?_
  refine mo_il4 (pc := 483) X dL_law_483 ?_
  refine mo_iconst (pc := 485) X dL_law_485 ?_
  refine mo_iadd (pc := 486) X dL_law_486 ?_
  refine mo_sld (pc := 487) (j := i + 2) X hXs hLs (by omega) (by omega) (by omega) dL_law_487 ?_
  refine mo_callVr (pc := 488) (As := [_, _]) X mo_k_L_118 mo_y_yX5_setSlots rfl dL_law_488 (ct5_setSlots (m := m) hm1 hI1 (by omega) hs1 L7 (mo_ri (xs (i + 1))) (mo_ri (xs (i + 2)))) (mo_Md_o hm1) rfl (by decide) (by decide) (Nat.le_of_ble_eq_true rfl) hrm ?_
  rintro v2 G2 M2 t2 ⟨rfl, rfl, b2, rfl, hb⟩
  show mo_V (mo_dr κ dd) (k0 + 1) (n0 + 6) 491 _ [mo_iv b2] _ _ _
  obtain ⟨⟨n2, sv2, s2, LI2⟩, hk4, hkr, hkv⟩ := hfin b2 M2 hb
  refine mo_is6 (pc := 491) X dL_law_491 rfl (by decide) ?_
  refine mo_al2 (pc := 493) X dL_law_493 ?_
  refine mo_callVr (pc := 494) (As := []) X mo_k_L_103 mo_y_yX5_thrown rfl dL_law_494 (ct5_thrown hm1) (mo_Md_o hm1) rfl (by decide) (by decide) (Nat.le_of_ble_eq_true rfl) hrm ?_
  rintro v3 G3 M3 t3 ⟨rfl, rfl, x3, rfl, h3, h4⟩
  subst h4
  obtain rfl : x3 = k := h3.trans hk4
  show mo_V (mo_dr κ dd) (k0 + 1) (n0 + 6) 497 _ [mo_iv x3] _ _ _
  refine mo_il5 (pc := 497) X dL_law_497 ?_
  refine mo_ic_eqS (pc := 499) (tgt := 504) X dL_law_499 (by decide) ?_
  refine mo_il5 (pc := 504) X dL_law_504 ?_
  refine mo_if_ne (pc := 506) (tgt := 521) X dL_law_506 (by decide) (by omega) (fun c_a => ?_) (fun c_a => ?_)
  · refine mo_goto (pc := 521) (tgt := 1890) X dL_law_521 (by decide) ?_
    refine mo_fg4 ?_
    exact next dd hd0 _ _ _ _ _ _ LI2
  refine mo_al3 (pc := 509) X dL_law_509 ?_
  refine mo_iconst (pc := 510) X dL_law_510 ?_
  refine mo_lald (pc := 511) (j := 0) X dL_law_511 ho1 (by decide) (by decide) (by decide) rfl ?_
  rw [hkv c_a]
  refine mo_il6 (pc := 512) X dL_law_512 ?_
  refine mo_i2lB (pc := 514) X dL_law_514 ?_
  refine mo_lcmpS (pc := 515) X dL_law_515 ?_
  refine mo_if_eq (pc := 516) (tgt := 521) X dL_law_516 (by decide) (by decide) (fun c_b => ?_) (fun c_b => absurd rfl c_b)
  refine mo_goto (pc := 521) (tgt := 1890) X dL_law_521 (by decide) ?_
  refine mo_fg4 ?_
  exact next dd hd0 _ _ _ _ _ _ LI2
set_option maxHeartbeats 4000000 in
set_option maxRecDepth 100000 in
theorem lc_addVenue {κ : mo_T} {lf : Launch} {ρf : mo_E} {ret : Option FieldType} (hlf : lf.stackTraces = false) {b Ls : Nat} {xs : Nat → Int32} {i x m ou n sv s t k0 n0 : Nat} {B : Int} {G : mo_G} {M : mo_M} {dd : Drawn} {hh : List (Nat × Nat × Nat × Nat)} (X0 : mo_Cx κ lf ρf cL_law 9 RL ret 11) (Z0 : mo_Hx κ hh) (hX0 : mo_Xs κ b Ls xs) (hLs : Ls ≤ 3072) (hi : i + 6 ≤ Ls) (hrm : mo_Rm κ (k0 + 1) (n0 + 6)) (L : mo_LI G M x m ou n sv s B) (hB : B ≤ 3000000) (hd0 : (mo_st κ).drawn.sameBut dd lw_cs) (next : mo_Nxt κ b x m ou i B k0 n0) : mo_V (mo_dr κ dd) k0 n0 524 [some (.ref b), some (.ref x), some (.ref m), some (.ref ou), some (mo_iv (i : Int)), none, none, none, none] [] G M t := by
  have X := mo_Cx_dr X0 dd
  have Z := mo_Hx_dr Z0 dd
  have hXs := mo_Xs_dr hX0 dd
  have hrm : mo_Rm (mo_dr κ dd) (k0 + 1) (n0 + 6) := hrm
  obtain ⟨L1, L2, L3, L4, L5, L6, L7, L8, L9, L10, L11, L12⟩ := id L
  have hx := L3.1
  refine mo_al1 (pc := 524) X dL_law_524 ?_
  refine mo_al0 (pc := 525) X dL_law_525 ?_
  refine mo_il4 (pc := 526) X dL_law_526 ?_
  refine mo_iconst (pc := 528) X dL_law_528 ?_
  refine mo_iadd (pc := 529) X dL_law_529 ?_
  refine mo_sld (pc := 530) (j := i + 1) X hXs hLs (by omega) (by omega) (by omega) dL_law_530 ?_
  refine mo_al3 (pc := 531) X dL_law_531 ?_
  have hC := ctL_addVenue (lf := lf) (ρf := ρf) (t := t) (x := x) (out := ou) (val := (M (m + 1)) 6) (mo_Ms_o hx) (ct4_addVenue hlf L3 L8 (by omega) L7 (mo_ri (xs (i + 1)))) (fun v G' M' t' h => by
        obtain ⟨⟨h1, -⟩, -, -, -, hu, -⟩ := h
        exact ⟨hu, by rw [h1]; exact L2⟩) (fun E G' M' t' h => by
        obtain ⟨-, -, -, hd⟩ := h
        rcases hd with ⟨e, -⟩ | ⟨e, -⟩
        · exact Or.inl e
        · exact Or.inr e)
  refine mo_callSH (pc := 532) (As := [_, _, _]) X Z mo_wm_L_119 mo_wi_yL_addVenue mo_wz_L mo_wh_yL_addVenue mo_yy_addVenue dL_law_532 hC rfl (by decide) (by decide) (Nat.le_of_ble_eq_true rfl) hrm ?_
  rintro v1 G1 M1 t1 ⟨k, rfl, hk⟩
  show mo_V (mo_dr κ dd) (k0 + 1) (n0 + 6) 535 _ [mo_iv k] _ _ _
  obtain ⟨hL1, hfin⟩ := lj_addVenue (t := t) (A0 := (xs (i + 1)).toInt) L rfl rfl rfl hk
  refine mo_is5 (pc := 535) X dL_law_535 rfl (by decide) ?_
  have e0 : M1 m = M m := hL1.2 m (by omega) (by omega)
  have e1 : M1 (m + 1) = M (m + 1) := hL1.2 (m + 1) (by omega) (by omega)
  have hm1 : mo_Md G1 m := mo_Md_f3 hL1.1.1 (hL1.1.2 m (by omega)) L1
  have hI1 : mo_Iv (M1 (m + 1)) B := by rw [e1]; exact L8
  have hs1 : M1 m 2 = sv := by rw [e0]; exact L4
  have ho1 : G1.1 ou = some (.inr (1, 1)) := by rw [hL1.1.1]; exact L2
  refine mo_al2 (pc := 537) X dL_law_537 ?_
  refine mo_al0 (pc := 538) X dL_law_538 ?_
  refine mo_il4 (pc := 539) X dL_law_539 ?_
  refine mo_iconst (pc := 541) X dL_law_541 ?_
  refine mo_iadd (pc := 542) X dL_law_542 ?_
  refine mo_sld (pc := 543) (j := i + 1) X hXs hLs (by omega) (by omega) (by omega) dL_law_543 ?_
  refine mo_callVr (pc := 544) (As := [_]) X mo_k_L_122 mo_y_yX5_addVenue rfl dL_law_544 (ct5_addVenue (m := m) hm1 hI1 (by omega) hs1 L7 (mo_ri (xs (i + 1)))) (mo_Md_o hm1) rfl (by decide) (by decide) (Nat.le_of_ble_eq_true rfl) hrm ?_
  rintro v2 G2 M2 t2 ⟨rfl, rfl, b2, rfl, hb⟩
  show mo_V (mo_dr κ dd) (k0 + 1) (n0 + 6) 547 _ [mo_iv b2] _ _ _
  obtain ⟨⟨n2, sv2, s2, LI2⟩, hk4, hkr, hkv⟩ := hfin b2 M2 hb
  refine mo_is6 (pc := 547) X dL_law_547 rfl (by decide) ?_
  refine mo_al2 (pc := 549) X dL_law_549 ?_
  refine mo_callVr (pc := 550) (As := []) X mo_k_L_103 mo_y_yX5_thrown rfl dL_law_550 (ct5_thrown hm1) (mo_Md_o hm1) rfl (by decide) (by decide) (Nat.le_of_ble_eq_true rfl) hrm ?_
  rintro v3 G3 M3 t3 ⟨rfl, rfl, x3, rfl, h3, h4⟩
  subst h4
  obtain rfl : x3 = k := h3.trans hk4
  show mo_V (mo_dr κ dd) (k0 + 1) (n0 + 6) 553 _ [mo_iv x3] _ _ _
  refine mo_il5 (pc := 553) X dL_law_553 ?_
  refine mo_ic_eqS (pc := 555) (tgt := 560) X dL_law_555 (by decide) ?_
  refine mo_il5 (pc := 560) X dL_law_560 ?_
  refine mo_if_ne (pc := 562) (tgt := 577) X dL_law_562 (by decide) (by omega) (fun c_a => ?_) (fun c_a => ?_)
  · refine mo_goto (pc := 577) (tgt := 1890) X dL_law_577 (by decide) ?_
    refine mo_fg4 ?_
    exact next dd hd0 _ _ _ _ _ _ LI2
  refine mo_al3 (pc := 565) X dL_law_565 ?_
  refine mo_iconst (pc := 566) X dL_law_566 ?_
  refine mo_lald (pc := 567) (j := 0) X dL_law_567 ho1 (by decide) (by decide) (by decide) rfl ?_
  rw [hkv c_a]
  refine mo_il6 (pc := 568) X dL_law_568 ?_
  refine mo_i2lB (pc := 570) X dL_law_570 ?_
  refine mo_lcmpS (pc := 571) X dL_law_571 ?_
  refine mo_if_eq (pc := 572) (tgt := 577) X dL_law_572 (by decide) (by decide) (fun c_b => ?_) (fun c_b => absurd rfl c_b)
  refine mo_goto (pc := 577) (tgt := 1890) X dL_law_577 (by decide) ?_
  refine mo_fg4 ?_
  exact next dd hd0 _ _ _ _ _ _ LI2
set_option maxHeartbeats 4000000 in
set_option maxRecDepth 100000 in
theorem lc_plan {κ : mo_T} {lf : Launch} {ρf : mo_E} {ret : Option FieldType} (hlf : lf.stackTraces = false) {b Ls : Nat} {xs : Nat → Int32} {i x m ou n sv s t k0 n0 : Nat} {B : Int} {G : mo_G} {M : mo_M} {dd : Drawn} {hh : List (Nat × Nat × Nat × Nat)} (X0 : mo_Cx κ lf ρf cL_law 9 RL ret 11) (Z0 : mo_Hx κ hh) (hX0 : mo_Xs κ b Ls xs) (hLs : Ls ≤ 3072) (hi : i + 6 ≤ Ls) (hrm : mo_Rm κ (k0 + 1) (n0 + 6)) (L : mo_LI G M x m ou n sv s B) (hB : B ≤ 3000000) (hd0 : (mo_st κ).drawn.sameBut dd lw_cs) (next : mo_Nxt κ b x m ou i B k0 n0) : mo_V (mo_dr κ dd) k0 n0 580 [some (.ref b), some (.ref x), some (.ref m), some (.ref ou), some (mo_iv (i : Int)), none, none, none, none] [] G M t := by
  have X := mo_Cx_dr X0 dd
  have Z := mo_Hx_dr Z0 dd
  have hXs := mo_Xs_dr hX0 dd
  have hrm : mo_Rm (mo_dr κ dd) (k0 + 1) (n0 + 6) := hrm
  obtain ⟨L1, L2, L3, L4, L5, L6, L7, L8, L9, L10, L11, L12⟩ := id L
  have hx := L3.1
  refine mo_al1 (pc := 580) X dL_law_580 ?_
  refine mo_al0 (pc := 581) X dL_law_581 ?_
  refine mo_il4 (pc := 582) X dL_law_582 ?_
  refine mo_iconst (pc := 584) X dL_law_584 ?_
  refine mo_iadd (pc := 585) X dL_law_585 ?_
  refine mo_sld (pc := 586) (j := i + 1) X hXs hLs (by omega) (by omega) (by omega) dL_law_586 ?_
  refine mo_al0 (pc := 587) X dL_law_587 ?_
  refine mo_il4 (pc := 588) X dL_law_588 ?_
  refine mo_iconst (pc := 590) X dL_law_590 ?_
  refine mo_iadd (pc := 591) X dL_law_591 ?_
  refine mo_sld (pc := 592) (j := i + 2) X hXs hLs (by omega) (by omega) (by omega) dL_law_592 ?_
  refine mo_al0 (pc := 593) X dL_law_593 ?_
  refine mo_il4 (pc := 594) X dL_law_594 ?_
  refine mo_iconst (pc := 596) X dL_law_596 ?_
  refine mo_iadd (pc := 597) X dL_law_597 ?_
  refine mo_sld (pc := 598) (j := i + 3) X hXs hLs (by omega) (by omega) (by omega) dL_law_598 ?_
  refine mo_al0 (pc := 599) X dL_law_599 ?_
  refine mo_il4 (pc := 600) X dL_law_600 ?_
  refine mo_iconst (pc := 602) X dL_law_602 ?_
  refine mo_iadd (pc := 603) X dL_law_603 ?_
  refine mo_sld (pc := 604) (j := i + 4) X hXs hLs (by omega) (by omega) (by omega) dL_law_604 ?_
  refine mo_al0 (pc := 605) X dL_law_605 ?_
  refine mo_il4 (pc := 606) X dL_law_606 ?_
  refine mo_iconst (pc := 608) X dL_law_608 ?_
  refine mo_iadd (pc := 609) X dL_law_609 ?_
  refine mo_sld (pc := 610) (j := i + 5) X hXs hLs (by omega) (by omega) (by omega) dL_law_610 ?_
  refine mo_al3 (pc := 611) X dL_law_611 ?_
  have hC := ctL_plan (lf := lf) (ρf := ρf) (t := t) (x := x) (out := ou) (val := (M (m + 1)) 1) (mo_Ms_o hx) (ct4_plan hlf L3 L8 (by omega) L7 (mo_ri (xs (i + 1))) (mo_ri (xs (i + 2))) (mo_ri (xs (i + 3))) (mo_ri (xs (i + 4))) (mo_ri (xs (i + 5)))) (fun v G' M' t' h => by
        obtain ⟨⟨h1, -⟩, -, -, -, -, hu, -⟩ := h
        exact ⟨hu, by rw [h1]; exact L2⟩) (fun E G' M' t' h => by
        obtain ⟨-, -, -, hd⟩ := h
        rcases hd with ⟨e, -⟩ | ⟨e, -⟩ | ⟨e, -⟩
        · exact Or.inl e
        · exact Or.inr (Or.inl e)
        · exact Or.inr (Or.inr e))
  refine mo_callSH (pc := 612) (As := [_, _, _, _, _, _, _]) X Z mo_wm_L_123 mo_wi_yL_plan mo_wz_L mo_wh_yL_plan mo_yy_plan dL_law_612 hC rfl (by decide) (by decide) (Nat.le_of_ble_eq_true rfl) hrm ?_
  rintro v1 G1 M1 t1 ⟨k, rfl, hk⟩
  show mo_V (mo_dr κ dd) (k0 + 1) (n0 + 6) 615 _ [mo_iv k] _ _ _
  obtain ⟨hL1, hfin⟩ := lj_plan (t := t) (A0 := (xs (i + 1)).toInt) (A1 := (xs (i + 2)).toInt) (A2 := (xs (i + 3)).toInt) (A3 := (xs (i + 4)).toInt) (A4 := (xs (i + 5)).toInt) L rfl rfl rfl hk
  refine mo_is5 (pc := 615) X dL_law_615 rfl (by decide) ?_
  have e0 : M1 m = M m := hL1.2 m (by omega) (by omega)
  have e1 : M1 (m + 1) = M (m + 1) := hL1.2 (m + 1) (by omega) (by omega)
  have hm1 : mo_Md G1 m := mo_Md_f3 hL1.1.1 (hL1.1.2 m (by omega)) L1
  have hI1 : mo_Iv (M1 (m + 1)) B := by rw [e1]; exact L8
  have hs1 : M1 m 2 = sv := by rw [e0]; exact L4
  have ho1 : G1.1 ou = some (.inr (1, 1)) := by rw [hL1.1.1]; exact L2
  refine mo_al2 (pc := 617) X dL_law_617 ?_
  refine mo_al0 (pc := 618) X dL_law_618 ?_
  refine mo_il4 (pc := 619) X dL_law_619 ?_
  refine mo_iconst (pc := 621) X dL_law_621 ?_
  refine mo_iadd (pc := 622) X dL_law_622 ?_
  refine mo_sld (pc := 623) (j := i + 1) X hXs hLs (by omega) (by omega) (by omega) dL_law_623 ?_
  refine mo_al0 (pc := 624) X dL_law_624 ?_
  refine mo_il4 (pc := 625) X dL_law_625 ?_
  refine mo_iconst (pc := 627) X dL_law_627 ?_
  refine mo_iadd (pc := 628) X dL_law_628 ?_
  refine mo_sld (pc := 629) (j := i + 2) X hXs hLs (by omega) (by omega) (by omega) dL_law_629 ?_
  refine mo_al0 (pc := 630) X dL_law_630 ?_
  refine mo_il4 (pc := 631) X dL_law_631 ?_
  refine mo_iconst (pc := 633) X dL_law_633 ?_
  refine mo_iadd (pc := 634) X dL_law_634 ?_
  refine mo_sld (pc := 635) (j := i + 3) X hXs hLs (by omega) (by omega) (by omega) dL_law_635 ?_
  refine mo_al0 (pc := 636) X dL_law_636 ?_
  refine mo_il4 (pc := 637) X dL_law_637 ?_
  refine mo_iconst (pc := 639) X dL_law_639 ?_
  refine mo_iadd (pc := 640) X dL_law_640 ?_
  refine mo_sld (pc := 641) (j := i + 4) X hXs hLs (by omega) (by omega) (by omega) dL_law_641 ?_
  refine mo_al0 (pc := 642) X dL_law_642 ?_
  refine mo_il4 (pc := 643) X dL_law_643 ?_
  refine mo_iconst (pc := 645) X dL_law_645 ?_
  refine mo_iadd (pc := 646) X dL_law_646 ?_
  refine mo_sld (pc := 647) (j := i + 5) X hXs hLs (by omega) (by omega) (by omega) dL_law_647 ?_
  refine mo_callVr (pc := 648) (As := [_, _, _, _, _]) X mo_k_L_126 mo_y_yX5_plan rfl dL_law_648 (ct5_plan (m := m) hm1 hI1 (by omega) hs1 L7 (mo_ri (xs (i + 1))) (mo_ri (xs (i + 2))) (mo_ri (xs (i + 3))) (mo_ri (xs (i + 4))) (mo_ri (xs (i + 5)))) (mo_Md_o hm1) rfl (by decide) (by decide) (Nat.le_of_ble_eq_true rfl) hrm ?_
  rintro v2 G2 M2 t2 ⟨rfl, rfl, b2, rfl, hb⟩
  show mo_V (mo_dr κ dd) (k0 + 1) (n0 + 6) 651 _ [mo_iv b2] _ _ _
  obtain ⟨⟨n2, sv2, s2, LI2⟩, hk4, hkr, hkv⟩ := hfin b2 M2 hb
  refine mo_is6 (pc := 651) X dL_law_651 rfl (by decide) ?_
  refine mo_al2 (pc := 653) X dL_law_653 ?_
  refine mo_callVr (pc := 654) (As := []) X mo_k_L_103 mo_y_yX5_thrown rfl dL_law_654 (ct5_thrown hm1) (mo_Md_o hm1) rfl (by decide) (by decide) (Nat.le_of_ble_eq_true rfl) hrm ?_
  rintro v3 G3 M3 t3 ⟨rfl, rfl, x3, rfl, h3, h4⟩
  subst h4
  obtain rfl : x3 = k := h3.trans hk4
  show mo_V (mo_dr κ dd) (k0 + 1) (n0 + 6) 657 _ [mo_iv x3] _ _ _
  refine mo_il5 (pc := 657) X dL_law_657 ?_
  refine mo_ic_eqS (pc := 659) (tgt := 664) X dL_law_659 (by decide) ?_
  refine mo_il5 (pc := 664) X dL_law_664 ?_
  refine mo_if_ne (pc := 666) (tgt := 681) X dL_law_666 (by decide) (by omega) (fun c_a => ?_) (fun c_a => ?_)
  · refine mo_goto (pc := 681) (tgt := 1890) X dL_law_681 (by decide) ?_
    refine mo_fg4 ?_
    exact next dd hd0 _ _ _ _ _ _ LI2
  refine mo_al3 (pc := 669) X dL_law_669 ?_
  refine mo_iconst (pc := 670) X dL_law_670 ?_
  refine mo_lald (pc := 671) (j := 0) X dL_law_671 ho1 (by decide) (by decide) (by decide) rfl ?_
  rw [hkv c_a]
  refine mo_il6 (pc := 672) X dL_law_672 ?_
  refine mo_i2lB (pc := 674) X dL_law_674 ?_
  refine mo_lcmpS (pc := 675) X dL_law_675 ?_
  refine mo_if_eq (pc := 676) (tgt := 681) X dL_law_676 (by decide) (by decide) (fun c_b => ?_) (fun c_b => absurd rfl c_b)
  refine mo_goto (pc := 681) (tgt := 1890) X dL_law_681 (by decide) ?_
  refine mo_fg4 ?_
  exact next dd hd0 _ _ _ _ _ _ LI2
set_option maxHeartbeats 4000000 in
set_option maxRecDepth 100000 in
theorem lc_planWeek {κ : mo_T} {lf : Launch} {ρf : mo_E} {ret : Option FieldType} (hlf : lf.stackTraces = false) {b Ls : Nat} {xs : Nat → Int32} {i x m ou n sv s t k0 n0 : Nat} {B : Int} {G : mo_G} {M : mo_M} {dd : Drawn} {hh : List (Nat × Nat × Nat × Nat)} (X0 : mo_Cx κ lf ρf cL_law 9 RL ret 11) (Z0 : mo_Hx κ hh) (hX0 : mo_Xs κ b Ls xs) (hLs : Ls ≤ 3072) (hi : i + 6 ≤ Ls) (hrm : mo_Rm κ (k0 + 1) (n0 + 6)) (L : mo_LI G M x m ou n sv s B) (hB : B ≤ 3000000) (hd0 : (mo_st κ).drawn.sameBut dd lw_cs) (next : mo_Nxt κ b x m ou i B k0 n0) : mo_V (mo_dr κ dd) k0 n0 684 [some (.ref b), some (.ref x), some (.ref m), some (.ref ou), some (mo_iv (i : Int)), none, none, none, none] [] G M t := by
  have X := mo_Cx_dr X0 dd
  have Z := mo_Hx_dr Z0 dd
  have hXs := mo_Xs_dr hX0 dd
  have hrm : mo_Rm (mo_dr κ dd) (k0 + 1) (n0 + 6) := hrm
  obtain ⟨L1, L2, L3, L4, L5, L6, L7, L8, L9, L10, L11, L12⟩ := id L
  have hx := L3.1
  refine mo_al1 (pc := 684) X dL_law_684 ?_
  refine mo_al0 (pc := 685) X dL_law_685 ?_
  refine mo_il4 (pc := 686) X dL_law_686 ?_
  refine mo_iconst (pc := 688) X dL_law_688 ?_
  refine mo_iadd (pc := 689) X dL_law_689 ?_
  refine mo_sld (pc := 690) (j := i + 1) X hXs hLs (by omega) (by omega) (by omega) dL_law_690 ?_
  refine mo_al3 (pc := 691) X dL_law_691 ?_
  have hC := ctL_planWeek (lf := lf) (ρf := ρf) (t := t) (x := x) (out := ou) (val := (mo_pl ((xs (i + 1)).toInt).toNat 61 (M (m + 1))).1) (mo_Ms_o hx) (ct4_planWeek hlf L3 L8 (by omega) L7 (mo_ri (xs (i + 1)))) (fun v G' M' t' h => by
        obtain ⟨⟨h1, -⟩, -, -, -, hu, -⟩ := h
        exact ⟨hu, by rw [h1]; exact L2⟩) (fun E G' M' t' h => by
        obtain ⟨-, -, -, hd⟩ := h
        rcases hd with ⟨e, -⟩ | ⟨e, -⟩
        · exact Or.inl e
        · exact Or.inr e)
  refine mo_callSH (pc := 692) (As := [_, _, _]) X Z mo_wm_L_127 mo_wi_yL_planWeek mo_wz_L mo_wh_yL_planWeek mo_yy_planWeek dL_law_692 hC rfl (by decide) (by decide) (Nat.le_of_ble_eq_true rfl) hrm ?_
  rintro v1 G1 M1 t1 ⟨k, rfl, hk⟩
  show mo_V (mo_dr κ dd) (k0 + 1) (n0 + 6) 695 _ [mo_iv k] _ _ _
  obtain ⟨hL1, hfin⟩ := lj_planWeek (t := t) (A0 := (xs (i + 1)).toInt) L rfl rfl rfl hk
  refine mo_is5 (pc := 695) X dL_law_695 rfl (by decide) ?_
  have e0 : M1 m = M m := hL1.2 m (by omega) (by omega)
  have e1 : M1 (m + 1) = M (m + 1) := hL1.2 (m + 1) (by omega) (by omega)
  have hm1 : mo_Md G1 m := mo_Md_f3 hL1.1.1 (hL1.1.2 m (by omega)) L1
  have hI1 : mo_Iv (M1 (m + 1)) B := by rw [e1]; exact L8
  have hs1 : M1 m 2 = sv := by rw [e0]; exact L4
  have ho1 : G1.1 ou = some (.inr (1, 1)) := by rw [hL1.1.1]; exact L2
  refine mo_al2 (pc := 697) X dL_law_697 ?_
  refine mo_al0 (pc := 698) X dL_law_698 ?_
  refine mo_il4 (pc := 699) X dL_law_699 ?_
  refine mo_iconst (pc := 701) X dL_law_701 ?_
  refine mo_iadd (pc := 702) X dL_law_702 ?_
  refine mo_sld (pc := 703) (j := i + 1) X hXs hLs (by omega) (by omega) (by omega) dL_law_703 ?_
  refine mo_callVr (pc := 704) (As := [_]) X mo_k_L_129 mo_y_yX5_planWeek rfl dL_law_704 (ct5_planWeek (m := m) hm1 hI1 (by omega) hs1 L7 (mo_ri (xs (i + 1)))) (mo_Md_o hm1) rfl (by decide) (by decide) (Nat.le_of_ble_eq_true rfl) hrm ?_
  rintro v2 G2 M2 t2 ⟨rfl, rfl, b2, rfl, hb⟩
  show mo_V (mo_dr κ dd) (k0 + 1) (n0 + 6) 707 _ [mo_iv b2] _ _ _
  obtain ⟨⟨n2, sv2, s2, LI2⟩, hk4, hkr, hkv⟩ := hfin b2 M2 hb
  refine mo_is6 (pc := 707) X dL_law_707 rfl (by decide) ?_
  refine mo_al2 (pc := 709) X dL_law_709 ?_
  refine mo_callVr (pc := 710) (As := []) X mo_k_L_103 mo_y_yX5_thrown rfl dL_law_710 (ct5_thrown hm1) (mo_Md_o hm1) rfl (by decide) (by decide) (Nat.le_of_ble_eq_true rfl) hrm ?_
  rintro v3 G3 M3 t3 ⟨rfl, rfl, x3, rfl, h3, h4⟩
  subst h4
  obtain rfl : x3 = k := h3.trans hk4
  show mo_V (mo_dr κ dd) (k0 + 1) (n0 + 6) 713 _ [mo_iv x3] _ _ _
  refine mo_il5 (pc := 713) X dL_law_713 ?_
  refine mo_ic_eqS (pc := 715) (tgt := 720) X dL_law_715 (by decide) ?_
  refine mo_il5 (pc := 720) X dL_law_720 ?_
  refine mo_if_ne (pc := 722) (tgt := 737) X dL_law_722 (by decide) (by omega) (fun c_a => ?_) (fun c_a => ?_)
  · refine mo_goto (pc := 737) (tgt := 1890) X dL_law_737 (by decide) ?_
    refine mo_fg4 ?_
    exact next dd hd0 _ _ _ _ _ _ LI2
  refine mo_al3 (pc := 725) X dL_law_725 ?_
  refine mo_iconst (pc := 726) X dL_law_726 ?_
  refine mo_lald (pc := 727) (j := 0) X dL_law_727 ho1 (by decide) (by decide) (by decide) rfl ?_
  rw [hkv c_a]
  refine mo_il6 (pc := 728) X dL_law_728 ?_
  refine mo_i2lB (pc := 730) X dL_law_730 ?_
  refine mo_lcmpS (pc := 731) X dL_law_731 ?_
  refine mo_if_eq (pc := 732) (tgt := 737) X dL_law_732 (by decide) (by decide) (fun c_b => ?_) (fun c_b => absurd rfl c_b)
  refine mo_goto (pc := 737) (tgt := 1890) X dL_law_737 (by decide) ?_
  refine mo_fg4 ?_
  exact next dd hd0 _ _ _ _ _ _ LI2
