set_option maxHeartbeats 4000000 in
set_option maxRecDepth 100000 in
theorem lc_freeRooms {κ : mo_T} {lf : Launch} {ρf : mo_E} {ret : Option FieldType} (hlf : lf.stackTraces = false) {b Ls : Nat} {xs : Nat → Int32} {i x m ou n sv s t k0 n0 : Nat} {B : Int} {G : mo_G} {M : mo_M} {dd : Drawn} {hh : List (Nat × Nat × Nat × Nat)} (X0 : mo_Cx κ lf ρf cL_law 9 RL ret 11) (Z0 : mo_Hx κ hh) (hX0 : mo_Xs κ b Ls xs) (hLs : Ls ≤ 3072) (hi : i + 6 ≤ Ls) (hrm : mo_Rm κ (k0 + 1) (n0 + 6)) (L : mo_LI G M x m ou n sv s B) (hB : B ≤ 3000000) (hd0 : (mo_st κ).drawn.sameBut dd lw_cs) (next : mo_Nxt κ b x m ou i B k0 n0) : mo_V (mo_dr κ dd) k0 n0 1264 [some (.ref b), some (.ref x), some (.ref m), some (.ref ou), some (mo_iv (i : Int)), none, none, none, none] [] G M t := by
  have X := mo_Cx_dr X0 dd
  have Z := mo_Hx_dr Z0 dd
  have hXs := mo_Xs_dr hX0 dd
  have hrm : mo_Rm (mo_dr κ dd) (k0 + 1) (n0 + 6) := hrm
  obtain ⟨L1, L2, L3, L4, L5, L6, L7, L8, L9, L10, L11, L12⟩ := id L
  have hx := L3.1
  refine mo_al1 (pc := 1264) X dL_law_1264 ?_
  refine mo_al0 (pc := 1265) X dL_law_1265 ?_
  refine mo_il4 (pc := 1266) X dL_law_1266 ?_
  refine mo_iconst (pc := 1268) X dL_law_1268 ?_
  refine mo_iadd (pc := 1269) X dL_law_1269 ?_
  refine mo_sld (pc := 1270) (j := i + 1) X hXs hLs (by omega) (by omega) (by omega) dL_law_1270 ?_
  refine mo_al0 (pc := 1271) X dL_law_1271 ?_
  refine mo_il4 (pc := 1272) X dL_law_1272 ?_
  refine mo_iconst (pc := 1274) X dL_law_1274 ?_
  refine mo_iadd (pc := 1275) X dL_law_1275 ?_
  refine mo_sld (pc := 1276) (j := i + 2) X hXs hLs (by omega) (by omega) (by omega) dL_law_1276 ?_
  refine mo_al0 (pc := 1277) X dL_law_1277 ?_
  refine mo_il4 (pc := 1278) X dL_law_1278 ?_
  refine mo_iconst (pc := 1280) X dL_law_1280 ?_
  refine mo_iadd (pc := 1281) X dL_law_1281 ?_
  refine mo_sld (pc := 1282) (j := i + 3) X hXs hLs (by omega) (by omega) (by omega) dL_law_1282 ?_
  refine mo_al3 (pc := 1283) X dL_law_1283 ?_
  have hC := ctL_freeRooms (lf := lf) (ρf := ρf) (t := t) (x := x) (out := ou) (val := mo_fre (M (m + 1)) ((xs (i + 2)).toInt) (mo_nk (M (m + 1))) (28 * ((xs (i + 1)).toInt).toNat + ((xs (i + 3)).toInt).toNat)) (mo_Ms_o hx) (ct4_freeRooms hlf hx L3.2.2.1 L8 (by omega) (mo_ri (xs (i + 1))) (mo_ri (xs (i + 2))) (mo_ri (xs (i + 3)))) (fun v G' M' t' h => by
        obtain ⟨h1, -, -, -, -, hu⟩ := h
        exact ⟨hu, by rw [h1]; exact L2⟩) (fun E G' M' t' h => by
        obtain ⟨-, -, -, hd⟩ := h
        rcases hd with ⟨e, -⟩ | ⟨e, -⟩
        · exact Or.inl e
        · exact Or.inr e)
  refine mo_callSH (pc := 1284) (As := [_, _, _, _, _]) X Z mo_wm_L_156 mo_wi_yL_freeRooms mo_wz_L mo_wh_yL_freeRooms mo_yy_freeRooms dL_law_1284 hC rfl (by decide) (by decide) (Nat.le_of_ble_eq_true rfl) hrm ?_
  rintro v1 G1 M1 t1 ⟨k, rfl, hk⟩
  show mo_V (mo_dr κ dd) (k0 + 1) (n0 + 6) 1287 _ [mo_iv k] _ _ _
  obtain ⟨hL1, hfin⟩ := lj_freeRooms (t := t) (A0 := (xs (i + 1)).toInt) (A1 := (xs (i + 2)).toInt) (A2 := (xs (i + 3)).toInt) L rfl rfl rfl hk
  refine mo_is5 (pc := 1287) X dL_law_1287 rfl (by decide) ?_
  have e0 : M1 m = M m := hL1.2 m (by omega) (by omega)
  have e1 : M1 (m + 1) = M (m + 1) := hL1.2 (m + 1) (by omega) (by omega)
  have hm1 : mo_Md G1 m := mo_Md_f3 hL1.1.1 (hL1.1.2 m (by omega)) L1
  have hI1 : mo_Iv (M1 (m + 1)) B := by rw [e1]; exact L8
  have hs1 : M1 m 2 = sv := by rw [e0]; exact L4
  have ho1 : G1.1 ou = some (.inr (1, 1)) := by rw [hL1.1.1]; exact L2
  refine mo_al2 (pc := 1289) X dL_law_1289 ?_
  refine mo_al0 (pc := 1290) X dL_law_1290 ?_
  refine mo_il4 (pc := 1291) X dL_law_1291 ?_
  refine mo_iconst (pc := 1293) X dL_law_1293 ?_
  refine mo_iadd (pc := 1294) X dL_law_1294 ?_
  refine mo_sld (pc := 1295) (j := i + 1) X hXs hLs (by omega) (by omega) (by omega) dL_law_1295 ?_
  refine mo_al0 (pc := 1296) X dL_law_1296 ?_
  refine mo_il4 (pc := 1297) X dL_law_1297 ?_
  refine mo_iconst (pc := 1299) X dL_law_1299 ?_
  refine mo_iadd (pc := 1300) X dL_law_1300 ?_
  refine mo_sld (pc := 1301) (j := i + 2) X hXs hLs (by omega) (by omega) (by omega) dL_law_1301 ?_
  refine mo_al0 (pc := 1302) X dL_law_1302 ?_
  refine mo_il4 (pc := 1303) X dL_law_1303 ?_
  refine mo_iconst (pc := 1305) X dL_law_1305 ?_
  refine mo_iadd (pc := 1306) X dL_law_1306 ?_
  refine mo_sld (pc := 1307) (j := i + 3) X hXs hLs (by omega) (by omega) (by omega) dL_law_1307 ?_
  refine mo_callVr (pc := 1308) (As := [_, _, _]) X mo_k_L_158 mo_y_yX5_freeRooms rfl dL_law_1308 (ct5_freeRooms (m := m) hm1 hI1 (by omega) (mo_ri (xs (i + 1))) (mo_ri (xs (i + 2))) (mo_ri (xs (i + 3)))) (mo_Md_o hm1) rfl (by decide) (by decide) (Nat.le_of_ble_eq_true rfl) hrm ?_
  rintro v2 G2 M2 t2 ⟨rfl, rfl, b2, rfl, hb⟩
  show mo_V (mo_dr κ dd) (k0 + 1) (n0 + 6) 1311 _ [mo_iv b2] _ _ _
  obtain ⟨⟨n2, sv2, s2, LI2⟩, hk4, hkr, hkv⟩ := hfin b2 M2 hb
  refine mo_is6 (pc := 1311) X dL_law_1311 rfl (by decide) ?_
  refine mo_al2 (pc := 1313) X dL_law_1313 ?_
  refine mo_callVr (pc := 1314) (As := []) X mo_k_L_103 mo_y_yX5_thrown rfl dL_law_1314 (ct5_thrown hm1) (mo_Md_o hm1) rfl (by decide) (by decide) (Nat.le_of_ble_eq_true rfl) hrm ?_
  rintro v3 G3 M3 t3 ⟨rfl, rfl, x3, rfl, h3, h4⟩
  subst h4
  obtain rfl : x3 = k := h3.trans hk4
  show mo_V (mo_dr κ dd) (k0 + 1) (n0 + 6) 1317 _ [mo_iv x3] _ _ _
  refine mo_il5 (pc := 1317) X dL_law_1317 ?_
  refine mo_ic_eqS (pc := 1319) (tgt := 1324) X dL_law_1319 (by decide) ?_
  refine mo_il5 (pc := 1324) X dL_law_1324 ?_
  refine mo_if_ne (pc := 1326) (tgt := 1341) X dL_law_1326 (by decide) (by omega) (fun c_a => ?_) (fun c_a => ?_)
  · refine mo_goto (pc := 1341) (tgt := 1890) X dL_law_1341 (by decide) ?_
    refine mo_fg4 ?_
    exact next dd hd0 _ _ _ _ _ _ LI2
  refine mo_al3 (pc := 1329) X dL_law_1329 ?_
  refine mo_iconst (pc := 1330) X dL_law_1330 ?_
  refine mo_lald (pc := 1331) (j := 0) X dL_law_1331 ho1 (by decide) (by decide) (by decide) rfl ?_
  rw [hkv c_a]
  refine mo_il6 (pc := 1332) X dL_law_1332 ?_
  refine mo_i2lB (pc := 1334) X dL_law_1334 ?_
  refine mo_lcmpS (pc := 1335) X dL_law_1335 ?_
  refine mo_if_eq (pc := 1336) (tgt := 1341) X dL_law_1336 (by decide) (by decide) (fun c_b => ?_) (fun c_b => absurd rfl c_b)
  refine mo_goto (pc := 1341) (tgt := 1890) X dL_law_1341 (by decide) ?_
  refine mo_fg4 ?_
  exact next dd hd0 _ _ _ _ _ _ LI2
set_option maxHeartbeats 4000000 in
set_option maxRecDepth 100000 in
theorem lc_value {κ : mo_T} {lf : Launch} {ρf : mo_E} {ret : Option FieldType} (hlf : lf.stackTraces = false) {b Ls : Nat} {xs : Nat → Int32} {i x m ou n sv s t k0 n0 : Nat} {B : Int} {G : mo_G} {M : mo_M} {dd : Drawn} {hh : List (Nat × Nat × Nat × Nat)} (X0 : mo_Cx κ lf ρf cL_law 9 RL ret 11) (Z0 : mo_Hx κ hh) (hX0 : mo_Xs κ b Ls xs) (hLs : Ls ≤ 3072) (hi : i + 6 ≤ Ls) (hrm : mo_Rm κ (k0 + 1) (n0 + 6)) (L : mo_LI G M x m ou n sv s B) (hB : B ≤ 3000000) (hd0 : (mo_st κ).drawn.sameBut dd lw_cs) (next : mo_Nxt κ b x m ou i B k0 n0) : mo_V (mo_dr κ dd) k0 n0 1344 [some (.ref b), some (.ref x), some (.ref m), some (.ref ou), some (mo_iv (i : Int)), none, none, none, none] [] G M t := by
  have X := mo_Cx_dr X0 dd
  have Z := mo_Hx_dr Z0 dd
  have hXs := mo_Xs_dr hX0 dd
  have hrm : mo_Rm (mo_dr κ dd) (k0 + 1) (n0 + 6) := hrm
  obtain ⟨L1, L2, L3, L4, L5, L6, L7, L8, L9, L10, L11, L12⟩ := id L
  have hx := L3.1
  refine mo_al1 (pc := 1344) X dL_law_1344 ?_
  refine mo_al0 (pc := 1345) X dL_law_1345 ?_
  refine mo_il4 (pc := 1346) X dL_law_1346 ?_
  refine mo_iconst (pc := 1348) X dL_law_1348 ?_
  refine mo_iadd (pc := 1349) X dL_law_1349 ?_
  refine mo_sld (pc := 1350) (j := i + 1) X hXs hLs (by omega) (by omega) (by omega) dL_law_1350 ?_
  refine mo_al3 (pc := 1351) X dL_law_1351 ?_
  have hC := ctL_value (lf := lf) (ρf := ρf) (t := t) (x := x) (out := ou) (val := mo_nv (M (m + 1)) ((xs (i + 1)).toInt)) (mo_Ms_o hx) (ct4_value hlf hx L3.2.2.1 L8 (by omega) (mo_ri (xs (i + 1)))) (fun v G' M' t' h => by
        obtain ⟨h1, -, -, -, hu⟩ := h
        exact ⟨hu, by rw [h1]; exact L2⟩) (fun E G' M' t' h => by
        obtain ⟨-, -, -, e, -⟩ := h
        exact e)
  refine mo_callSH (pc := 1352) (As := [_, _, _]) X Z mo_wm_L_159 mo_wi_yL_value mo_wz_L mo_wh_yL_value mo_yy_value dL_law_1352 hC rfl (by decide) (by decide) (Nat.le_of_ble_eq_true rfl) hrm ?_
  rintro v1 G1 M1 t1 ⟨k, rfl, hk⟩
  show mo_V (mo_dr κ dd) (k0 + 1) (n0 + 6) 1355 _ [mo_iv k] _ _ _
  obtain ⟨hL1, hfin⟩ := lj_value (t := t) (A0 := (xs (i + 1)).toInt) L rfl rfl rfl hk
  refine mo_is5 (pc := 1355) X dL_law_1355 rfl (by decide) ?_
  have e0 : M1 m = M m := hL1.2 m (by omega) (by omega)
  have e1 : M1 (m + 1) = M (m + 1) := hL1.2 (m + 1) (by omega) (by omega)
  have hm1 : mo_Md G1 m := mo_Md_f3 hL1.1.1 (hL1.1.2 m (by omega)) L1
  have hI1 : mo_Iv (M1 (m + 1)) B := by rw [e1]; exact L8
  have hs1 : M1 m 2 = sv := by rw [e0]; exact L4
  have ho1 : G1.1 ou = some (.inr (1, 1)) := by rw [hL1.1.1]; exact L2
  refine mo_al2 (pc := 1357) X dL_law_1357 ?_
  refine mo_al0 (pc := 1358) X dL_law_1358 ?_
  refine mo_il4 (pc := 1359) X dL_law_1359 ?_
  refine mo_iconst (pc := 1361) X dL_law_1361 ?_
  refine mo_iadd (pc := 1362) X dL_law_1362 ?_
  refine mo_sld (pc := 1363) (j := i + 1) X hXs hLs (by omega) (by omega) (by omega) dL_law_1363 ?_
  refine mo_callVr (pc := 1364) (As := [_]) X mo_k_L_161 mo_y_yX5_value rfl dL_law_1364 (ct5_value (m := m) hm1 hI1 (by omega) (mo_ri (xs (i + 1)))) (mo_Md_o hm1) rfl (by decide) (by decide) (Nat.le_of_ble_eq_true rfl) hrm ?_
  rintro v2 G2 M2 t2 ⟨rfl, rfl, b2, rfl, hb⟩
  show mo_V (mo_dr κ dd) (k0 + 1) (n0 + 6) 1367 _ [mo_iv b2] _ _ _
  obtain ⟨⟨n2, sv2, s2, LI2⟩, hk4, hkr, hkv⟩ := hfin b2 M2 hb
  refine mo_is6 (pc := 1367) X dL_law_1367 rfl (by decide) ?_
  refine mo_al2 (pc := 1369) X dL_law_1369 ?_
  refine mo_callVr (pc := 1370) (As := []) X mo_k_L_103 mo_y_yX5_thrown rfl dL_law_1370 (ct5_thrown hm1) (mo_Md_o hm1) rfl (by decide) (by decide) (Nat.le_of_ble_eq_true rfl) hrm ?_
  rintro v3 G3 M3 t3 ⟨rfl, rfl, x3, rfl, h3, h4⟩
  subst h4
  obtain rfl : x3 = k := h3.trans hk4
  show mo_V (mo_dr κ dd) (k0 + 1) (n0 + 6) 1373 _ [mo_iv x3] _ _ _
  refine mo_il5 (pc := 1373) X dL_law_1373 ?_
  refine mo_ic_eqS (pc := 1375) (tgt := 1380) X dL_law_1375 (by decide) ?_
  refine mo_il5 (pc := 1380) X dL_law_1380 ?_
  refine mo_if_ne (pc := 1382) (tgt := 1397) X dL_law_1382 (by decide) (by omega) (fun c_a => ?_) (fun c_a => ?_)
  · refine mo_goto (pc := 1397) (tgt := 1890) X dL_law_1397 (by decide) ?_
    refine mo_fg4 ?_
    exact next dd hd0 _ _ _ _ _ _ LI2
  refine mo_al3 (pc := 1385) X dL_law_1385 ?_
  refine mo_iconst (pc := 1386) X dL_law_1386 ?_
  refine mo_lald (pc := 1387) (j := 0) X dL_law_1387 ho1 (by decide) (by decide) (by decide) rfl ?_
  rw [hkv c_a]
  refine mo_il6 (pc := 1388) X dL_law_1388 ?_
  refine mo_i2lB (pc := 1390) X dL_law_1390 ?_
  refine mo_lcmpS (pc := 1391) X dL_law_1391 ?_
  refine mo_if_eq (pc := 1392) (tgt := 1397) X dL_law_1392 (by decide) (by decide) (fun c_b => ?_) (fun c_b => absurd rfl c_b)
  refine mo_goto (pc := 1397) (tgt := 1890) X dL_law_1397 (by decide) ?_
  refine mo_fg4 ?_
  exact next dd hd0 _ _ _ _ _ _ LI2
set_option maxHeartbeats 4000000 in
set_option maxRecDepth 100000 in
theorem lc_why {κ : mo_T} {lf : Launch} {ρf : mo_E} {ret : Option FieldType} (hlf : lf.stackTraces = false) {b Ls : Nat} {xs : Nat → Int32} {i x m ou n sv s t k0 n0 : Nat} {B : Int} {G : mo_G} {M : mo_M} {dd : Drawn} {hh : List (Nat × Nat × Nat × Nat)} (X0 : mo_Cx κ lf ρf cL_law 9 RL ret 11) (Z0 : mo_Hx κ hh) (hX0 : mo_Xs κ b Ls xs) (hLs : Ls ≤ 3072) (hi : i + 6 ≤ Ls) (hrm : mo_Rm κ (k0 + 1) (n0 + 6)) (L : mo_LI G M x m ou n sv s B) (hB : B ≤ 3000000) (hd0 : (mo_st κ).drawn.sameBut dd lw_cs) (next : mo_Nxt κ b x m ou i B k0 n0) : mo_V (mo_dr κ dd) k0 n0 1400 [some (.ref b), some (.ref x), some (.ref m), some (.ref ou), some (mo_iv (i : Int)), none, none, none, none] [] G M t := by
  have X := mo_Cx_dr X0 dd
  have Z := mo_Hx_dr Z0 dd
  have hXs := mo_Xs_dr hX0 dd
  have hrm : mo_Rm (mo_dr κ dd) (k0 + 1) (n0 + 6) := hrm
  obtain ⟨L1, L2, L3, L4, L5, L6, L7, L8, L9, L10, L11, L12⟩ := id L
  have hx := L3.1
  refine mo_al1 (pc := 1400) X dL_law_1400 ?_
  refine mo_al0 (pc := 1401) X dL_law_1401 ?_
  refine mo_il4 (pc := 1402) X dL_law_1402 ?_
  refine mo_iconst (pc := 1404) X dL_law_1404 ?_
  refine mo_iadd (pc := 1405) X dL_law_1405 ?_
  refine mo_sld (pc := 1406) (j := i + 1) X hXs hLs (by omega) (by omega) (by omega) dL_law_1406 ?_
  refine mo_al0 (pc := 1407) X dL_law_1407 ?_
  refine mo_il4 (pc := 1408) X dL_law_1408 ?_
  refine mo_iconst (pc := 1410) X dL_law_1410 ?_
  refine mo_iadd (pc := 1411) X dL_law_1411 ?_
  refine mo_sld (pc := 1412) (j := i + 2) X hXs hLs (by omega) (by omega) (by omega) dL_law_1412 ?_
  refine mo_al0 (pc := 1413) X dL_law_1413 ?_
  refine mo_il4 (pc := 1414) X dL_law_1414 ?_
  refine mo_iconst (pc := 1416) X dL_law_1416 ?_
  refine mo_iadd (pc := 1417) X dL_law_1417 ?_
  refine mo_sld (pc := 1418) (j := i + 3) X hXs hLs (by omega) (by omega) (by omega) dL_law_1418 ?_
  refine mo_al0 (pc := 1419) X dL_law_1419 ?_
  refine mo_il4 (pc := 1420) X dL_law_1420 ?_
  refine mo_iconst (pc := 1422) X dL_law_1422 ?_
  refine mo_iadd (pc := 1423) X dL_law_1423 ?_
  refine mo_sld (pc := 1424) (j := i + 4) X hXs hLs (by omega) (by omega) (by omega) dL_law_1424 ?_
  refine mo_al0 (pc := 1425) X dL_law_1425 ?_
  refine mo_il4 (pc := 1426) X dL_law_1426 ?_
  refine mo_iconst (pc := 1428) X dL_law_1428 ?_
  refine mo_iadd (pc := 1429) X dL_law_1429 ?_
  refine mo_sld (pc := 1430) (j := i + 5) X hXs hLs (by omega) (by omega) (by omega) dL_law_1430 ?_
  refine mo_al3 (pc := 1431) X dL_law_1431 ?_
  have hC := ctL_why (lf := lf) (ρf := ρf) (t := t) (x := x) (out := ou) (val := mo_rs (M (m + 1)) ((xs (i + 1)).toInt).toNat ((xs (i + 2)).toInt).toNat ((xs (i + 3)).toInt).toNat ((xs (i + 4)).toInt).toNat ((xs (i + 5)).toInt).toNat) (mo_Ms_o hx) (ct4_why hlf hx L3.2.2.1 L8 (by omega) (mo_ri (xs (i + 1))) (mo_ri (xs (i + 2))) (mo_ri (xs (i + 3))) (mo_ri (xs (i + 4))) (mo_ri (xs (i + 5)))) (fun v G' M' t' h => by
        obtain ⟨h1, -, -, -, -, hu⟩ := h
        exact ⟨hu, by rw [h1]; exact L2⟩) (fun E G' M' t' h => by
        obtain ⟨-, -, -, hd⟩ := h
        rcases hd with ⟨e, -⟩ | ⟨e, -⟩
        · exact Or.inl e
        · exact Or.inr e)
  refine mo_callSH (pc := 1432) (As := [_, _, _, _, _, _, _]) X Z mo_wm_L_162 mo_wi_yL_why mo_wz_L mo_wh_yL_why mo_yy_why dL_law_1432 hC rfl (by decide) (by decide) (Nat.le_of_ble_eq_true rfl) hrm ?_
  rintro v1 G1 M1 t1 ⟨k, rfl, hk⟩
  show mo_V (mo_dr κ dd) (k0 + 1) (n0 + 6) 1435 _ [mo_iv k] _ _ _
  obtain ⟨hL1, hfin⟩ := lj_why (t := t) (A0 := (xs (i + 1)).toInt) (A1 := (xs (i + 2)).toInt) (A2 := (xs (i + 3)).toInt) (A3 := (xs (i + 4)).toInt) (A4 := (xs (i + 5)).toInt) L rfl rfl rfl hk
  refine mo_is5 (pc := 1435) X dL_law_1435 rfl (by decide) ?_
  have e0 : M1 m = M m := hL1.2 m (by omega) (by omega)
  have e1 : M1 (m + 1) = M (m + 1) := hL1.2 (m + 1) (by omega) (by omega)
  have hm1 : mo_Md G1 m := mo_Md_f3 hL1.1.1 (hL1.1.2 m (by omega)) L1
  have hI1 : mo_Iv (M1 (m + 1)) B := by rw [e1]; exact L8
  have hs1 : M1 m 2 = sv := by rw [e0]; exact L4
  have ho1 : G1.1 ou = some (.inr (1, 1)) := by rw [hL1.1.1]; exact L2
  refine mo_al2 (pc := 1437) X dL_law_1437 ?_
  refine mo_al0 (pc := 1438) X dL_law_1438 ?_
  refine mo_il4 (pc := 1439) X dL_law_1439 ?_
  refine mo_iconst (pc := 1441) X dL_law_1441 ?_
  refine mo_iadd (pc := 1442) X dL_law_1442 ?_
  refine mo_sld (pc := 1443) (j := i + 1) X hXs hLs (by omega) (by omega) (by omega) dL_law_1443 ?_
  refine mo_al0 (pc := 1444) X dL_law_1444 ?_
  refine mo_il4 (pc := 1445) X dL_law_1445 ?_
  refine mo_iconst (pc := 1447) X dL_law_1447 ?_
  refine mo_iadd (pc := 1448) X dL_law_1448 ?_
  refine mo_sld (pc := 1449) (j := i + 2) X hXs hLs (by omega) (by omega) (by omega) dL_law_1449 ?_
  refine mo_al0 (pc := 1450) X dL_law_1450 ?_
  refine mo_il4 (pc := 1451) X dL_law_1451 ?_
  refine mo_iconst (pc := 1453) X dL_law_1453 ?_
  refine mo_iadd (pc := 1454) X dL_law_1454 ?_
  refine mo_sld (pc := 1455) (j := i + 3) X hXs hLs (by omega) (by omega) (by omega) dL_law_1455 ?_
  refine mo_al0 (pc := 1456) X dL_law_1456 ?_
  refine mo_il4 (pc := 1457) X dL_law_1457 ?_
  refine mo_iconst (pc := 1459) X dL_law_1459 ?_
  refine mo_iadd (pc := 1460) X dL_law_1460 ?_
  refine mo_sld (pc := 1461) (j := i + 4) X hXs hLs (by omega) (by omega) (by omega) dL_law_1461 ?_
  refine mo_al0 (pc := 1462) X dL_law_1462 ?_
  refine mo_il4 (pc := 1463) X dL_law_1463 ?_
  refine mo_iconst (pc := 1465) X dL_law_1465 ?_
  refine mo_iadd (pc := 1466) X dL_law_1466 ?_
  refine mo_sld (pc := 1467) (j := i + 5) X hXs hLs (by omega) (by omega) (by omega) dL_law_1467 ?_
  refine mo_callVr (pc := 1468) (As := [_, _, _, _, _]) X mo_k_L_164 mo_y_yX5_why rfl dL_law_1468 (ct5_why (m := m) hm1 hI1 (by omega) (mo_ri (xs (i + 1))) (mo_ri (xs (i + 2))) (mo_ri (xs (i + 3))) (mo_ri (xs (i + 4))) (mo_ri (xs (i + 5)))) (mo_Md_o hm1) rfl (by decide) (by decide) (Nat.le_of_ble_eq_true rfl) hrm ?_
  rintro v2 G2 M2 t2 ⟨rfl, rfl, b2, rfl, hb⟩
  show mo_V (mo_dr κ dd) (k0 + 1) (n0 + 6) 1471 _ [mo_iv b2] _ _ _
  obtain ⟨⟨n2, sv2, s2, LI2⟩, hk4, hkr, hkv⟩ := hfin b2 M2 hb
  refine mo_is6 (pc := 1471) X dL_law_1471 rfl (by decide) ?_
  refine mo_al2 (pc := 1473) X dL_law_1473 ?_
  refine mo_callVr (pc := 1474) (As := []) X mo_k_L_103 mo_y_yX5_thrown rfl dL_law_1474 (ct5_thrown hm1) (mo_Md_o hm1) rfl (by decide) (by decide) (Nat.le_of_ble_eq_true rfl) hrm ?_
  rintro v3 G3 M3 t3 ⟨rfl, rfl, x3, rfl, h3, h4⟩
  subst h4
  obtain rfl : x3 = k := h3.trans hk4
  show mo_V (mo_dr κ dd) (k0 + 1) (n0 + 6) 1477 _ [mo_iv x3] _ _ _
  refine mo_il5 (pc := 1477) X dL_law_1477 ?_
  refine mo_ic_eqS (pc := 1479) (tgt := 1484) X dL_law_1479 (by decide) ?_
  refine mo_il5 (pc := 1484) X dL_law_1484 ?_
  refine mo_if_ne (pc := 1486) (tgt := 1501) X dL_law_1486 (by decide) (by omega) (fun c_a => ?_) (fun c_a => ?_)
  · refine mo_goto (pc := 1501) (tgt := 1890) X dL_law_1501 (by decide) ?_
    refine mo_fg4 ?_
    exact next dd hd0 _ _ _ _ _ _ LI2
  refine mo_al3 (pc := 1489) X dL_law_1489 ?_
  refine mo_iconst (pc := 1490) X dL_law_1490 ?_
  refine mo_lald (pc := 1491) (j := 0) X dL_law_1491 ho1 (by decide) (by decide) (by decide) rfl ?_
  rw [hkv c_a]
  refine mo_il6 (pc := 1492) X dL_law_1492 ?_
  refine mo_i2lB (pc := 1494) X dL_law_1494 ?_
  refine mo_lcmpS (pc := 1495) X dL_law_1495 ?_
  refine mo_if_eq (pc := 1496) (tgt := 1501) X dL_law_1496 (by decide) (by decide) (fun c_b => ?_) (fun c_b => absurd rfl c_b)
  refine mo_goto (pc := 1501) (tgt := 1890) X dL_law_1501 (by decide) ?_
  refine mo_fg4 ?_
  exact next dd hd0 _ _ _ _ _ _ LI2
set_option maxHeartbeats 4000000 in
set_option maxRecDepth 100000 in
theorem lc_firstSlot {κ : mo_T} {lf : Launch} {ρf : mo_E} {ret : Option FieldType} (hlf : lf.stackTraces = false) {b Ls : Nat} {xs : Nat → Int32} {i x m ou n sv s t k0 n0 : Nat} {B : Int} {G : mo_G} {M : mo_M} {dd : Drawn} {hh : List (Nat × Nat × Nat × Nat)} (X0 : mo_Cx κ lf ρf cL_law 9 RL ret 11) (Z0 : mo_Hx κ hh) (hX0 : mo_Xs κ b Ls xs) (hLs : Ls ≤ 3072) (hi : i + 6 ≤ Ls) (hrm : mo_Rm κ (k0 + 1) (n0 + 6)) (L : mo_LI G M x m ou n sv s B) (hB : B ≤ 3000000) (hd0 : (mo_st κ).drawn.sameBut dd lw_cs) (next : mo_Nxt κ b x m ou i B k0 n0) : mo_V (mo_dr κ dd) k0 n0 1504 [some (.ref b), some (.ref x), some (.ref m), some (.ref ou), some (mo_iv (i : Int)), none, none, none, none] [] G M t := by
  have X := mo_Cx_dr X0 dd
  have Z := mo_Hx_dr Z0 dd
  have hXs := mo_Xs_dr hX0 dd
  have hrm : mo_Rm (mo_dr κ dd) (k0 + 1) (n0 + 6) := hrm
  obtain ⟨L1, L2, L3, L4, L5, L6, L7, L8, L9, L10, L11, L12⟩ := id L
  have hx := L3.1
  refine mo_al1 (pc := 1504) X dL_law_1504 ?_
  refine mo_al0 (pc := 1505) X dL_law_1505 ?_
  refine mo_il4 (pc := 1506) X dL_law_1506 ?_
  refine mo_iconst (pc := 1508) X dL_law_1508 ?_
  refine mo_iadd (pc := 1509) X dL_law_1509 ?_
  refine mo_sld (pc := 1510) (j := i + 1) X hXs hLs (by omega) (by omega) (by omega) dL_law_1510 ?_
  refine mo_al0 (pc := 1511) X dL_law_1511 ?_
  refine mo_il4 (pc := 1512) X dL_law_1512 ?_
  refine mo_iconst (pc := 1514) X dL_law_1514 ?_
  refine mo_iadd (pc := 1515) X dL_law_1515 ?_
  refine mo_sld (pc := 1516) (j := i + 2) X hXs hLs (by omega) (by omega) (by omega) dL_law_1516 ?_
  refine mo_al3 (pc := 1517) X dL_law_1517 ?_
  have hC := ctL_firstSlot (lf := lf) (ρf := ρf) (t := t) (x := x) (out := ou) (val := mo_sf (M (m + 1)) ((xs (i + 2)).toInt) ((xs (i + 1)).toInt).toNat) (mo_Ms_o hx) (ct4_firstSlot hlf hx L3.2.2.1 L8 (by omega) (mo_ri (xs (i + 1))) (mo_ri (xs (i + 2)))) (fun v G' M' t' h => by
        obtain ⟨h1, -, -, -, -, hu⟩ := h
        exact ⟨hu, by rw [h1]; exact L2⟩) (fun E G' M' t' h => by
        obtain ⟨-, -, -, hd⟩ := h
        rcases hd with ⟨e, -⟩ | ⟨e, -⟩
        · exact Or.inl e
        · exact Or.inr e)
  refine mo_callSH (pc := 1518) (As := [_, _, _, _]) X Z mo_wm_L_165 mo_wi_yL_firstSlot mo_wz_L mo_wh_yL_firstSlot mo_yy_firstSlot dL_law_1518 hC rfl (by decide) (by decide) (Nat.le_of_ble_eq_true rfl) hrm ?_
  rintro v1 G1 M1 t1 ⟨k, rfl, hk⟩
  show mo_V (mo_dr κ dd) (k0 + 1) (n0 + 6) 1521 _ [mo_iv k] _ _ _
  obtain ⟨hL1, hfin⟩ := lj_firstSlot (t := t) (A0 := (xs (i + 1)).toInt) (A1 := (xs (i + 2)).toInt) L rfl rfl rfl hk
  refine mo_is5 (pc := 1521) X dL_law_1521 rfl (by decide) ?_
  have e0 : M1 m = M m := hL1.2 m (by omega) (by omega)
  have e1 : M1 (m + 1) = M (m + 1) := hL1.2 (m + 1) (by omega) (by omega)
  have hm1 : mo_Md G1 m := mo_Md_f3 hL1.1.1 (hL1.1.2 m (by omega)) L1
  have hI1 : mo_Iv (M1 (m + 1)) B := by rw [e1]; exact L8
  have hs1 : M1 m 2 = sv := by rw [e0]; exact L4
  have ho1 : G1.1 ou = some (.inr (1, 1)) := by rw [hL1.1.1]; exact L2
  refine mo_al2 (pc := 1523) X dL_law_1523 ?_
  refine mo_al0 (pc := 1524) X dL_law_1524 ?_
  refine mo_il4 (pc := 1525) X dL_law_1525 ?_
  refine mo_iconst (pc := 1527) X dL_law_1527 ?_
  refine mo_iadd (pc := 1528) X dL_law_1528 ?_
  refine mo_sld (pc := 1529) (j := i + 1) X hXs hLs (by omega) (by omega) (by omega) dL_law_1529 ?_
  refine mo_al0 (pc := 1530) X dL_law_1530 ?_
  refine mo_il4 (pc := 1531) X dL_law_1531 ?_
  refine mo_iconst (pc := 1533) X dL_law_1533 ?_
  refine mo_iadd (pc := 1534) X dL_law_1534 ?_
  refine mo_sld (pc := 1535) (j := i + 2) X hXs hLs (by omega) (by omega) (by omega) dL_law_1535 ?_
  refine mo_callVr (pc := 1536) (As := [_, _]) X mo_k_L_167 mo_y_yX5_firstSlot rfl dL_law_1536 (ct5_firstSlot (m := m) hm1 hI1 (by omega) (mo_ri (xs (i + 1))) (mo_ri (xs (i + 2)))) (mo_Md_o hm1) rfl (by decide) (by decide) (Nat.le_of_ble_eq_true rfl) hrm ?_
  rintro v2 G2 M2 t2 ⟨rfl, rfl, b2, rfl, hb⟩
  show mo_V (mo_dr κ dd) (k0 + 1) (n0 + 6) 1539 _ [mo_iv b2] _ _ _
  obtain ⟨⟨n2, sv2, s2, LI2⟩, hk4, hkr, hkv⟩ := hfin b2 M2 hb
  refine mo_is6 (pc := 1539) X dL_law_1539 rfl (by decide) ?_
  refine mo_al2 (pc := 1541) X dL_law_1541 ?_
  refine mo_callVr (pc := 1542) (As := []) X mo_k_L_103 mo_y_yX5_thrown rfl dL_law_1542 (ct5_thrown hm1) (mo_Md_o hm1) rfl (by decide) (by decide) (Nat.le_of_ble_eq_true rfl) hrm ?_
  rintro v3 G3 M3 t3 ⟨rfl, rfl, x3, rfl, h3, h4⟩
  subst h4
  obtain rfl : x3 = k := h3.trans hk4
  show mo_V (mo_dr κ dd) (k0 + 1) (n0 + 6) 1545 _ [mo_iv x3] _ _ _
  refine mo_il5 (pc := 1545) X dL_law_1545 ?_
  refine mo_ic_eqS (pc := 1547) (tgt := 1552) X dL_law_1547 (by decide) ?_
  refine mo_il5 (pc := 1552) X dL_law_1552 ?_
  refine mo_if_ne (pc := 1554) (tgt := 1569) X dL_law_1554 (by decide) (by omega) (fun c_a => ?_) (fun c_a => ?_)
  · refine mo_goto (pc := 1569) (tgt := 1890) X dL_law_1569 (by decide) ?_
    refine mo_fg4 ?_
    exact next dd hd0 _ _ _ _ _ _ LI2
  refine mo_al3 (pc := 1557) X dL_law_1557 ?_
  refine mo_iconst (pc := 1558) X dL_law_1558 ?_
  refine mo_lald (pc := 1559) (j := 0) X dL_law_1559 ho1 (by decide) (by decide) (by decide) rfl ?_
  rw [hkv c_a]
  refine mo_il6 (pc := 1560) X dL_law_1560 ?_
  refine mo_i2lB (pc := 1562) X dL_law_1562 ?_
  refine mo_lcmpS (pc := 1563) X dL_law_1563 ?_
  refine mo_if_eq (pc := 1564) (tgt := 1569) X dL_law_1564 (by decide) (by decide) (fun c_b => ?_) (fun c_b => absurd rfl c_b)
  refine mo_goto (pc := 1569) (tgt := 1890) X dL_law_1569 (by decide) ?_
  refine mo_fg4 ?_
  exact next dd hd0 _ _ _ _ _ _ LI2
set_option maxHeartbeats 4000000 in
set_option maxRecDepth 100000 in
theorem lc_owedBehind {κ : mo_T} {lf : Launch} {ρf : mo_E} {ret : Option FieldType} (hlf : lf.stackTraces = false) {b Ls : Nat} {xs : Nat → Int32} {i x m ou n sv s t k0 n0 : Nat} {B : Int} {G : mo_G} {M : mo_M} {dd : Drawn} {hh : List (Nat × Nat × Nat × Nat)} (X0 : mo_Cx κ lf ρf cL_law 9 RL ret 11) (Z0 : mo_Hx κ hh) (hX0 : mo_Xs κ b Ls xs) (hLs : Ls ≤ 3072) (hi : i + 6 ≤ Ls) (hrm : mo_Rm κ (k0 + 1) (n0 + 6)) (L : mo_LI G M x m ou n sv s B) (hB : B ≤ 3000000) (hd0 : (mo_st κ).drawn.sameBut dd lw_cs) (next : mo_Nxt κ b x m ou i B k0 n0) : mo_V (mo_dr κ dd) k0 n0 1572 [some (.ref b), some (.ref x), some (.ref m), some (.ref ou), some (mo_iv (i : Int)), none, none, none, none] [] G M t := by
  have X := mo_Cx_dr X0 dd
  have Z := mo_Hx_dr Z0 dd
  have hXs := mo_Xs_dr hX0 dd
  have hrm : mo_Rm (mo_dr κ dd) (k0 + 1) (n0 + 6) := hrm
  obtain ⟨L1, L2, L3, L4, L5, L6, L7, L8, L9, L10, L11, L12⟩ := id L
  have hx := L3.1
  refine mo_al1 (pc := 1572) X dL_law_1572 ?_
  refine mo_al0 (pc := 1573) X dL_law_1573 ?_
  refine mo_il4 (pc := 1574) X dL_law_1574 ?_
  refine mo_iconst (pc := 1576) X dL_law_1576 ?_
  refine mo_iadd (pc := 1577) X dL_law_1577 ?_
  refine mo_sld (pc := 1578) (j := i + 1) X hXs hLs (by omega) (by omega) (by omega) dL_law_1578 ?_
  refine mo_al3 (pc := 1579) X dL_law_1579 ?_
  have hC := ctL_owedBehind (lf := lf) (ρf := ρf) (t := t) (x := x) (out := ou) (val := mo_owa (mo_pl ((xs (i + 1)).toInt).toNat 61 (M (m + 1))).2 ((xs (i + 1)).toInt).toNat) (mo_Ms_o hx) (ct4_owedBehind hlf hx L3.2.2.1 L8 (by omega) (mo_ri (xs (i + 1)))) (fun v G' M' t' h => by
        obtain ⟨h1, -, -, -, -, hu⟩ := h
        exact ⟨hu, by rw [h1]; exact L2⟩) (fun E G' M' t' h => by
        obtain ⟨-, -, -, hd⟩ := h
        rcases hd with ⟨e, -⟩ | ⟨e, -⟩
        · exact Or.inl e
        · exact Or.inr e)
  refine mo_callSH (pc := 1580) (As := [_, _, _]) X Z mo_wm_L_168 mo_wi_yL_owedBehind mo_wz_L mo_wh_yL_owedBehind mo_yy_owedBehind dL_law_1580 hC rfl (by decide) (by decide) (Nat.le_of_ble_eq_true rfl) hrm ?_
  rintro v1 G1 M1 t1 ⟨k, rfl, hk⟩
  show mo_V (mo_dr κ dd) (k0 + 1) (n0 + 6) 1583 _ [mo_iv k] _ _ _
  obtain ⟨hL1, hfin⟩ := lj_owedBehind (t := t) (A0 := (xs (i + 1)).toInt) L rfl rfl rfl hk
  refine mo_is5 (pc := 1583) X dL_law_1583 rfl (by decide) ?_
  have e0 : M1 m = M m := hL1.2 m (by omega) (by omega)
  have e1 : M1 (m + 1) = M (m + 1) := hL1.2 (m + 1) (by omega) (by omega)
  have hm1 : mo_Md G1 m := mo_Md_f3 hL1.1.1 (hL1.1.2 m (by omega)) L1
  have hI1 : mo_Iv (M1 (m + 1)) B := by rw [e1]; exact L8
  have hs1 : M1 m 2 = sv := by rw [e0]; exact L4
  have ho1 : G1.1 ou = some (.inr (1, 1)) := by rw [hL1.1.1]; exact L2
  refine mo_al2 (pc := 1585) X dL_law_1585 ?_
  refine mo_al0 (pc := 1586) X dL_law_1586 ?_
  refine mo_il4 (pc := 1587) X dL_law_1587 ?_
  refine mo_iconst (pc := 1589) X dL_law_1589 ?_
  refine mo_iadd (pc := 1590) X dL_law_1590 ?_
  refine mo_sld (pc := 1591) (j := i + 1) X hXs hLs (by omega) (by omega) (by omega) dL_law_1591 ?_
  refine mo_callVr (pc := 1592) (As := [_]) X mo_k_L_170 mo_y_yX5_owedBehind rfl dL_law_1592 (ct5_owedBehind (m := m) hm1 hI1 (by omega) (mo_ri (xs (i + 1)))) (mo_Md_o hm1) rfl (by decide) (by decide) (Nat.le_of_ble_eq_true rfl) hrm ?_
  rintro v2 G2 M2 t2 ⟨rfl, rfl, b2, rfl, hb⟩
  show mo_V (mo_dr κ dd) (k0 + 1) (n0 + 6) 1595 _ [mo_iv b2] _ _ _
  obtain ⟨⟨n2, sv2, s2, LI2⟩, hk4, hkr, hkv⟩ := hfin b2 M2 hb
  refine mo_is6 (pc := 1595) X dL_law_1595 rfl (by decide) ?_
  refine mo_al2 (pc := 1597) X dL_law_1597 ?_
  refine mo_callVr (pc := 1598) (As := []) X mo_k_L_103 mo_y_yX5_thrown rfl dL_law_1598 (ct5_thrown hm1) (mo_Md_o hm1) rfl (by decide) (by decide) (Nat.le_of_ble_eq_true rfl) hrm ?_
  rintro v3 G3 M3 t3 ⟨rfl, rfl, x3, rfl, h3, h4⟩
  subst h4
  obtain rfl : x3 = k := h3.trans hk4
  show mo_V (mo_dr κ dd) (k0 + 1) (n0 + 6) 1601 _ [mo_iv x3] _ _ _
  refine mo_il5 (pc := 1601) X dL_law_1601 ?_
  refine mo_ic_eqS (pc := 1603) (tgt := 1608) X dL_law_1603 (by decide) ?_
  refine mo_il5 (pc := 1608) X dL_law_1608 ?_
  refine mo_if_ne (pc := 1610) (tgt := 1625) X dL_law_1610 (by decide) (by omega) (fun c_a => ?_) (fun c_a => ?_)
  · refine mo_goto (pc := 1625) (tgt := 1890) X dL_law_1625 (by decide) ?_
    refine mo_fg4 ?_
    exact next dd hd0 _ _ _ _ _ _ LI2
  refine mo_al3 (pc := 1613) X dL_law_1613 ?_
  refine mo_iconst (pc := 1614) X dL_law_1614 ?_
  refine mo_lald (pc := 1615) (j := 0) X dL_law_1615 ho1 (by decide) (by decide) (by decide) rfl ?_
  rw [hkv c_a]
  refine mo_il6 (pc := 1616) X dL_law_1616 ?_
  refine mo_i2lB (pc := 1618) X dL_law_1618 ?_
  refine mo_lcmpS (pc := 1619) X dL_law_1619 ?_
  refine mo_if_eq (pc := 1620) (tgt := 1625) X dL_law_1620 (by decide) (by decide) (fun c_b => ?_) (fun c_b => absurd rfl c_b)
  refine mo_goto (pc := 1625) (tgt := 1890) X dL_law_1625 (by decide) ?_
  refine mo_fg4 ?_
  exact next dd hd0 _ _ _ _ _ _ LI2
set_option maxHeartbeats 4000000 in
set_option maxRecDepth 100000 in
theorem lc_gainBy {κ : mo_T} {lf : Launch} {ρf : mo_E} {ret : Option FieldType} (hlf : lf.stackTraces = false) {b Ls : Nat} {xs : Nat → Int32} {i x m ou n sv s t k0 n0 : Nat} {B : Int} {G : mo_G} {M : mo_M} {dd : Drawn} {hh : List (Nat × Nat × Nat × Nat)} (X0 : mo_Cx κ lf ρf cL_law 9 RL ret 11) (Z0 : mo_Hx κ hh) (hX0 : mo_Xs κ b Ls xs) (hLs : Ls ≤ 3072) (hi : i + 6 ≤ Ls) (hrm : mo_Rm κ (k0 + 1) (n0 + 6)) (L : mo_LI G M x m ou n sv s B) (hB : B ≤ 3000000) (hd0 : (mo_st κ).drawn.sameBut dd lw_cs) (next : mo_Nxt κ b x m ou i B k0 n0) : mo_V (mo_dr κ dd) k0 n0 1641 [some (.ref b), some (.ref x), some (.ref m), some (.ref ou), some (mo_iv (i : Int)), none, none, none, none] [] G M t := by
  have X := mo_Cx_dr X0 dd
  have Z := mo_Hx_dr Z0 dd
  have hXs := mo_Xs_dr hX0 dd
  have hrm : mo_Rm (mo_dr κ dd) (k0 + 1) (n0 + 6) := hrm
  obtain ⟨L1, L2, L3, L4, L5, L6, L7, L8, L9, L10, L11, L12⟩ := id L
  have hx := L3.1
  refine mo_al1 (pc := 1641) X dL_law_1641 ?_
  refine mo_al0 (pc := 1642) X dL_law_1642 ?_
  refine mo_il4 (pc := 1643) X dL_law_1643 ?_
  refine mo_iconst (pc := 1645) X dL_law_1645 ?_
  refine mo_iadd (pc := 1646) X dL_law_1646 ?_
  refine mo_sld (pc := 1647) (j := i + 1) X hXs hLs (by omega) (by omega) (by omega) dL_law_1647 ?_
  refine mo_al0 (pc := 1648) X dL_law_1648 ?_
  refine mo_il4 (pc := 1649) X dL_law_1649 ?_
  refine mo_iconst (pc := 1651) X dL_law_1651 ?_
  refine mo_iadd (pc := 1652) X dL_law_1652 ?_
  refine mo_sld (pc := 1653) (j := i + 2) X hXs hLs (by omega) (by omega) (by omega) dL_law_1653 ?_
  refine mo_al3 (pc := 1654) X dL_law_1654 ?_
  have hC := ctL_gainBy (lf := lf) (ρf := ρf) (t := t) (x := x) (out := ou) (val := (mo_pl ((xs (i + 2)).toInt).toNat 61 (va_up (M (m + 1)) (198 + ((xs (i + 1)).toInt).toNat) 20)).1 - (mo_pl ((xs (i + 2)).toInt).toNat 61 (M (m + 1))).1) (mo_Ms_o hx) (ct4_gainBy hlf hx L3.2.2.1 L8 (by omega) (mo_ri (xs (i + 1))) (mo_ri (xs (i + 2)))) (fun v G' M' t' h => by
        obtain ⟨h1, -, -, -, -, -, hu⟩ := h
        exact ⟨hu, by rw [h1]; exact L2⟩) (fun E G' M' t' h => by
        obtain ⟨-, -, -, hd⟩ := h
        rcases hd with ⟨e, -⟩ | ⟨e, -⟩ | ⟨e, -⟩
        · exact Or.inl e
        · exact Or.inr (Or.inl e)
        · exact Or.inr (Or.inr e))
  refine mo_callSH (pc := 1655) (As := [_, _, _, _]) X Z mo_wm_L_175 mo_wi_yL_gainBy mo_wz_L mo_wh_yL_gainBy mo_yy_gainBy dL_law_1655 hC rfl (by decide) (by decide) (Nat.le_of_ble_eq_true rfl) hrm ?_
  rintro v1 G1 M1 t1 ⟨k, rfl, hk⟩
  show mo_V (mo_dr κ dd) (k0 + 1) (n0 + 6) 1658 _ [mo_iv k] _ _ _
  obtain ⟨hL1, hfin⟩ := lj_gainBy (t := t) (A0 := (xs (i + 1)).toInt) (A1 := (xs (i + 2)).toInt) L rfl rfl rfl hk
  refine mo_is5 (pc := 1658) X dL_law_1658 rfl (by decide) ?_
  have e0 : M1 m = M m := hL1.2 m (by omega) (by omega)
  have e1 : M1 (m + 1) = M (m + 1) := hL1.2 (m + 1) (by omega) (by omega)
  have hm1 : mo_Md G1 m := mo_Md_f3 hL1.1.1 (hL1.1.2 m (by omega)) L1
  have hI1 : mo_Iv (M1 (m + 1)) B := by rw [e1]; exact L8
  have hs1 : M1 m 2 = sv := by rw [e0]; exact L4
  have ho1 : G1.1 ou = some (.inr (1, 1)) := by rw [hL1.1.1]; exact L2
  refine mo_al2 (pc := 1660) X dL_law_1660 ?_
  refine mo_al0 (pc := 1661) X dL_law_1661 ?_
  refine mo_il4 (pc := 1662) X dL_law_1662 ?_
  refine mo_iconst (pc := 1664) X dL_law_1664 ?_
  refine mo_iadd (pc := 1665) X dL_law_1665 ?_
  refine mo_sld (pc := 1666) (j := i + 1) X hXs hLs (by omega) (by omega) (by omega) dL_law_1666 ?_
  refine mo_al0 (pc := 1667) X dL_law_1667 ?_
  refine mo_il4 (pc := 1668) X dL_law_1668 ?_
  refine mo_iconst (pc := 1670) X dL_law_1670 ?_
  refine mo_iadd (pc := 1671) X dL_law_1671 ?_
  refine mo_sld (pc := 1672) (j := i + 2) X hXs hLs (by omega) (by omega) (by omega) dL_law_1672 ?_
  refine mo_callVr (pc := 1673) (As := [_, _]) X mo_k_L_177 mo_y_yX5_gainBy rfl dL_law_1673 (ct5_gainBy (m := m) hm1 hI1 (by omega) (mo_ri (xs (i + 1))) (mo_ri (xs (i + 2)))) (mo_Md_o hm1) rfl (by decide) (by decide) (Nat.le_of_ble_eq_true rfl) hrm ?_
  rintro v2 G2 M2 t2 ⟨rfl, rfl, b2, rfl, hb⟩
  show mo_V (mo_dr κ dd) (k0 + 1) (n0 + 6) 1676 _ [mo_iv b2] _ _ _
  obtain ⟨⟨n2, sv2, s2, LI2⟩, hk4, hkr, hkv⟩ := hfin b2 M2 hb
  refine mo_is6 (pc := 1676) X dL_law_1676 rfl (by decide) ?_
  refine mo_al2 (pc := 1678) X dL_law_1678 ?_
  refine mo_callVr (pc := 1679) (As := []) X mo_k_L_103 mo_y_yX5_thrown rfl dL_law_1679 (ct5_thrown hm1) (mo_Md_o hm1) rfl (by decide) (by decide) (Nat.le_of_ble_eq_true rfl) hrm ?_
  rintro v3 G3 M3 t3 ⟨rfl, rfl, x3, rfl, h3, h4⟩
  subst h4
  obtain rfl : x3 = k := h3.trans hk4
  show mo_V (mo_dr κ dd) (k0 + 1) (n0 + 6) 1682 _ [mo_iv x3] _ _ _
  refine mo_il5 (pc := 1682) X dL_law_1682 ?_
  refine mo_ic_eqS (pc := 1684) (tgt := 1689) X dL_law_1684 (by decide) ?_
  refine mo_il5 (pc := 1689) X dL_law_1689 ?_
  refine mo_if_ne (pc := 1691) (tgt := 1706) X dL_law_1691 (by decide) (by omega) (fun c_a => ?_) (fun c_a => ?_)
  · refine mo_goto (pc := 1706) (tgt := 1890) X dL_law_1706 (by decide) ?_
    refine mo_fg4 ?_
    exact next dd hd0 _ _ _ _ _ _ LI2
  refine mo_al3 (pc := 1694) X dL_law_1694 ?_
  refine mo_iconst (pc := 1695) X dL_law_1695 ?_
  refine mo_lald (pc := 1696) (j := 0) X dL_law_1696 ho1 (by decide) (by decide) (by decide) rfl ?_
  rw [hkv c_a]
  refine mo_il6 (pc := 1697) X dL_law_1697 ?_
  refine mo_i2lB (pc := 1699) X dL_law_1699 ?_
  refine mo_lcmpS (pc := 1700) X dL_law_1700 ?_
  refine mo_if_eq (pc := 1701) (tgt := 1706) X dL_law_1701 (by decide) (by decide) (fun c_b => ?_) (fun c_b => absurd rfl c_b)
  refine mo_goto (pc := 1706) (tgt := 1890) X dL_law_1706 (by decide) ?_
  refine mo_fg4 ?_
  exact next dd hd0 _ _ _ _ _ _ LI2
set_option maxHeartbeats 4000000 in
set_option maxRecDepth 100000 in
theorem lc_append {κ : mo_T} {lf : Launch} {ρf : mo_E} {ret : Option FieldType} (hlf : lf.stackTraces = false) {b Ls : Nat} {xs : Nat → Int32} {i x m ou n sv s t k0 n0 : Nat} {B : Int} {G : mo_G} {M : mo_M} {dd : Drawn} {hh : List (Nat × Nat × Nat × Nat)} (X0 : mo_Cx κ lf ρf cL_law 9 RL ret 11) (Z0 : mo_Hx κ hh) (hX0 : mo_Xs κ b Ls xs) (hLs : Ls ≤ 3072) (hi : i + 6 ≤ Ls) (hrm : mo_Rm κ (k0 + 1) (n0 + 6)) (L : mo_LI G M x m ou n sv s B) (hB : B ≤ 3000000) (hd0 : (mo_st κ).drawn.sameBut dd lw_cs) (next : mo_Nxt κ b x m ou i B k0 n0) : mo_V (mo_dr κ dd) k0 n0 1750 [some (.ref b), some (.ref x), some (.ref m), some (.ref ou), some (mo_iv (i : Int)), none, none, none, none] [] G M t := by
  have X := mo_Cx_dr X0 dd
  have Z := mo_Hx_dr Z0 dd
  have hXs := mo_Xs_dr hX0 dd
  have hrm : mo_Rm (mo_dr κ dd) (k0 + 1) (n0 + 6) := hrm
  obtain ⟨L1, L2, L3, L4, L5, L6, L7, L8, L9, L10, L11, L12⟩ := id L
  have hx := L3.1
  refine mo_al1 (pc := 1750) X dL_law_1750 ?_
  refine mo_al0 (pc := 1751) X dL_law_1751 ?_
  refine mo_il4 (pc := 1752) X dL_law_1752 ?_
  refine mo_iconst (pc := 1754) X dL_law_1754 ?_
  refine mo_iadd (pc := 1755) X dL_law_1755 ?_
  refine mo_sld (pc := 1756) (j := i + 1) X hXs hLs (by omega) (by omega) (by omega) dL_law_1756 ?_
  refine mo_al3 (pc := 1757) X dL_law_1757 ?_
  have hC := ctL_append (lf := lf) (ρf := ρf) (t := t) (x := x) (out := ou) (val := (n : Int) + 1) (mo_Ms_o hx) (ct4_append hlf L3 L6 (mo_ri (xs (i + 1)))) (fun v G' M' t' h => by
        obtain ⟨h1, -, -, -, hu, -⟩ := h
        exact ⟨hu, by rw [h1]; exact L2⟩) (fun E G' M' t' h => by
        obtain ⟨-, -, -, hd⟩ := h
        rcases hd with ⟨e, -⟩ | ⟨e, -⟩
        · exact Or.inl e
        · exact Or.inr e)
  refine mo_callSH (pc := 1758) (As := [_, _, _]) X Z mo_wm_L_183 mo_wi_yL_append mo_wz_L mo_wh_yL_append mo_yy_append dL_law_1758 hC rfl (by decide) (by decide) (Nat.le_of_ble_eq_true rfl) hrm ?_
  rintro v1 G1 M1 t1 ⟨k, rfl, hk⟩
  show mo_V (mo_dr κ dd) (k0 + 1) (n0 + 6) 1761 _ [mo_iv k] _ _ _
  obtain ⟨hL1, hfin⟩ := lj_append (t := t) (A0 := (xs (i + 1)).toInt) L rfl rfl rfl hk
  refine mo_is5 (pc := 1761) X dL_law_1761 rfl (by decide) ?_
  have e0 : M1 m = M m := hL1.2 m (by omega) (by omega)
  have e1 : M1 (m + 1) = M (m + 1) := hL1.2 (m + 1) (by omega) (by omega)
  have hm1 : mo_Md G1 m := mo_Md_f3 hL1.1.1 (hL1.1.2 m (by omega)) L1
  have hI1 : mo_Iv (M1 (m + 1)) B := by rw [e1]; exact L8
  have hs1 : M1 m 2 = sv := by rw [e0]; exact L4
  have ho1 : G1.1 ou = some (.inr (1, 1)) := by rw [hL1.1.1]; exact L2
  refine mo_al2 (pc := 1763) X dL_law_1763 ?_
  refine mo_al0 (pc := 1764) X dL_law_1764 ?_
  refine mo_il4 (pc := 1765) X dL_law_1765 ?_
  refine mo_iconst (pc := 1767) X dL_law_1767 ?_
  refine mo_iadd (pc := 1768) X dL_law_1768 ?_
  refine mo_sld (pc := 1769) (j := i + 1) X hXs hLs (by omega) (by omega) (by omega) dL_law_1769 ?_
  refine mo_callVr (pc := 1770) (As := [_]) X mo_k_L_185 mo_y_yX5_append rfl dL_law_1770 (ct5_append (m := m) hm1 L6 (by rw [e0]; exact L5) (mo_ri (xs (i + 1)))) (mo_Md_o hm1) rfl (by decide) (by decide) (Nat.le_of_ble_eq_true rfl) hrm ?_
  rintro v2 G2 M2 t2 ⟨rfl, rfl, b2, rfl, hb⟩
  show mo_V (mo_dr κ dd) (k0 + 1) (n0 + 6) 1773 _ [mo_iv b2] _ _ _
  obtain ⟨⟨n2, sv2, s2, LI2⟩, hk4, hkr, hkv⟩ := hfin b2 M2 hb
  refine mo_is6 (pc := 1773) X dL_law_1773 rfl (by decide) ?_
  refine mo_al2 (pc := 1775) X dL_law_1775 ?_
  refine mo_callVr (pc := 1776) (As := []) X mo_k_L_103 mo_y_yX5_thrown rfl dL_law_1776 (ct5_thrown hm1) (mo_Md_o hm1) rfl (by decide) (by decide) (Nat.le_of_ble_eq_true rfl) hrm ?_
  rintro v3 G3 M3 t3 ⟨rfl, rfl, x3, rfl, h3, h4⟩
  subst h4
  obtain rfl : x3 = k := h3.trans hk4
  show mo_V (mo_dr κ dd) (k0 + 1) (n0 + 6) 1779 _ [mo_iv x3] _ _ _
  refine mo_il5 (pc := 1779) X dL_law_1779 ?_
  refine mo_ic_eqS (pc := 1781) (tgt := 1786) X dL_law_1781 (by decide) ?_
  refine mo_il5 (pc := 1786) X dL_law_1786 ?_
  refine mo_if_ne (pc := 1788) (tgt := 1803) X dL_law_1788 (by decide) (by omega) (fun c_a => ?_) (fun c_a => ?_)
  · refine mo_goto (pc := 1803) (tgt := 1890) X dL_law_1803 (by decide) ?_
    refine mo_fg4 ?_
    exact next dd hd0 _ _ _ _ _ _ LI2
  refine mo_al3 (pc := 1791) X dL_law_1791 ?_
  refine mo_iconst (pc := 1792) X dL_law_1792 ?_
  refine mo_lald (pc := 1793) (j := 0) X dL_law_1793 ho1 (by decide) (by decide) (by decide) rfl ?_
  rw [hkv c_a]
  refine mo_il6 (pc := 1794) X dL_law_1794 ?_
  refine mo_i2lB (pc := 1796) X dL_law_1796 ?_
  refine mo_lcmpS (pc := 1797) X dL_law_1797 ?_
  refine mo_if_eq (pc := 1798) (tgt := 1803) X dL_law_1798 (by decide) (by decide) (fun c_b => ?_) (fun c_b => absurd rfl c_b)
  refine mo_goto (pc := 1803) (tgt := 1890) X dL_law_1803 (by decide) ?_
  refine mo_fg4 ?_
  exact next dd hd0 _ _ _ _ _ _ LI2
set_option maxHeartbeats 4000000 in
set_option maxRecDepth 100000 in
theorem lc_undo {κ : mo_T} {lf : Launch} {ρf : mo_E} {ret : Option FieldType} (hlf : lf.stackTraces = false) {b Ls : Nat} {xs : Nat → Int32} {i x m ou n sv s t k0 n0 : Nat} {B : Int} {G : mo_G} {M : mo_M} {dd : Drawn} {hh : List (Nat × Nat × Nat × Nat)} (X0 : mo_Cx κ lf ρf cL_law 9 RL ret 11) (Z0 : mo_Hx κ hh) (hX0 : mo_Xs κ b Ls xs) (hLs : Ls ≤ 3072) (hi : i + 6 ≤ Ls) (hrm : mo_Rm κ (k0 + 1) (n0 + 6)) (L : mo_LI G M x m ou n sv s B) (hB : B ≤ 3000000) (hd0 : (mo_st κ).drawn.sameBut dd lw_cs) (next : mo_Nxt κ b x m ou i B k0 n0) : mo_V (mo_dr κ dd) k0 n0 1832 [some (.ref b), some (.ref x), some (.ref m), some (.ref ou), some (mo_iv (i : Int)), none, none, none, none] [] G M t := by
  have X := mo_Cx_dr X0 dd
  have Z := mo_Hx_dr Z0 dd
  have hXs := mo_Xs_dr hX0 dd
  have hrm : mo_Rm (mo_dr κ dd) (k0 + 1) (n0 + 6) := hrm
  obtain ⟨L1, L2, L3, L4, L5, L6, L7, L8, L9, L10, L11, L12⟩ := id L
  have hx := L3.1
  refine mo_al1 (pc := 1832) X dL_law_1832 ?_
  refine mo_al3 (pc := 1833) X dL_law_1833 ?_
  have hC := ctL_undo (lf := lf) (ρf := ρf) (t := t) (x := x) (out := ou) (val := (sv : Int) - 1) (mo_Ms_o hx) (ct4_undo hlf L3 L8 (by omega) L7 L9) (fun v G' M' t' h => by
        obtain ⟨h1, -, -, hu, -⟩ := h
        exact ⟨hu, by rw [h1]; exact L2⟩) (fun E G' M' t' h => by
        obtain ⟨-, -, -, e, -⟩ := h
        exact e)
  refine mo_callSH (pc := 1834) (As := [_, _]) X Z mo_wm_L_194 mo_wi_yL_undo mo_wz_L mo_wh_yL_undo mo_yy_undo dL_law_1834 hC rfl (by decide) (by decide) (Nat.le_of_ble_eq_true rfl) hrm ?_
  rintro v1 G1 M1 t1 ⟨k, rfl, hk⟩
  show mo_V (mo_dr κ dd) (k0 + 1) (n0 + 6) 1837 _ [mo_iv k] _ _ _
  obtain ⟨hL1, hfin⟩ := lj_undo (t := t)  L rfl rfl rfl hk
  refine mo_is5 (pc := 1837) X dL_law_1837 rfl (by decide) ?_
  have e0 : M1 m = M m := hL1.2 m (by omega) (by omega)
  have e1 : M1 (m + 1) = M (m + 1) := hL1.2 (m + 1) (by omega) (by omega)
  have hm1 : mo_Md G1 m := mo_Md_f3 hL1.1.1 (hL1.1.2 m (by omega)) L1
  have hI1 : mo_Iv (M1 (m + 1)) B := by rw [e1]; exact L8
  have hs1 : M1 m 2 = sv := by rw [e0]; exact L4
  have ho1 : G1.1 ou = some (.inr (1, 1)) := by rw [hL1.1.1]; exact L2
  refine mo_al2 (pc := 1839) X dL_law_1839 ?_
  refine mo_callVr (pc := 1840) (As := []) X mo_k_L_196 mo_y_yX5_undo rfl dL_law_1840 (ct5_undo (m := m) hm1 hI1 (by omega) hs1 L7) (mo_Md_o hm1) rfl (by decide) (by decide) (Nat.le_of_ble_eq_true rfl) hrm ?_
  rintro v2 G2 M2 t2 ⟨rfl, rfl, b2, rfl, hb⟩
  show mo_V (mo_dr κ dd) (k0 + 1) (n0 + 6) 1843 _ [mo_iv b2] _ _ _
  obtain ⟨⟨n2, sv2, s2, LI2⟩, hk4, hkr, hkv⟩ := hfin b2 M2 hb
  refine mo_is6 (pc := 1843) X dL_law_1843 rfl (by decide) ?_
  refine mo_al2 (pc := 1845) X dL_law_1845 ?_
  refine mo_callVr (pc := 1846) (As := []) X mo_k_L_103 mo_y_yX5_thrown rfl dL_law_1846 (ct5_thrown hm1) (mo_Md_o hm1) rfl (by decide) (by decide) (Nat.le_of_ble_eq_true rfl) hrm ?_
  rintro v3 G3 M3 t3 ⟨rfl, rfl, x3, rfl, h3, h4⟩
  subst h4
  obtain rfl : x3 = k := h3.trans hk4
  show mo_V (mo_dr κ dd) (k0 + 1) (n0 + 6) 1849 _ [mo_iv x3] _ _ _
  refine mo_il5 (pc := 1849) X dL_law_1849 ?_
  refine mo_ic_eqS (pc := 1851) (tgt := 1856) X dL_law_1851 (by decide) ?_
  refine mo_il5 (pc := 1856) X dL_law_1856 ?_
  refine mo_if_ne (pc := 1858) (tgt := 1873) X dL_law_1858 (by decide) (by omega) (fun c_a => ?_) (fun c_a => ?_)
  · refine mo_goto (pc := 1873) (tgt := 1890) X dL_law_1873 (by decide) ?_
    refine mo_fg4 ?_
    exact next dd hd0 _ _ _ _ _ _ LI2
  refine mo_al3 (pc := 1861) X dL_law_1861 ?_
  refine mo_iconst (pc := 1862) X dL_law_1862 ?_
  refine mo_lald (pc := 1863) (j := 0) X dL_law_1863 ho1 (by decide) (by decide) (by decide) rfl ?_
  rw [hkv c_a]
  refine mo_il6 (pc := 1864) X dL_law_1864 ?_
  refine mo_i2lB (pc := 1866) X dL_law_1866 ?_
  refine mo_lcmpS (pc := 1867) X dL_law_1867 ?_
  refine mo_if_eq (pc := 1868) (tgt := 1873) X dL_law_1868 (by decide) (by decide) (fun c_b => ?_) (fun c_b => absurd rfl c_b)
  refine mo_goto (pc := 1873) (tgt := 1890) X dL_law_1873 (by decide) ?_
  refine mo_fg4 ?_
  exact next dd hd0 _ _ _ _ _ _ LI2
