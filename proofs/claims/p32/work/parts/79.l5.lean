/-! a step of the law: a meeting is planned; one is told or cancelled -/
set_option maxHeartbeats 4000000 in
set_option maxRecDepth 100000 in
theorem ls_5 {κ : mo_T} {lf : Launch} {ρf : mo_E} {G : mo_G} {M : mo_M} {t : Nat} {x h h2 : Nat} {g : Nat → Int} {B : Int} (X : mo_Cx κ lf ρf cL_isStep 12 RL (some .boolean) 7) (Y : mo_Rt κ (ls_post G t x h (B + 1000)) 0 0) (hW : mo_Wd G M x g B) (hB : B ≤ 500000000) (hJ : mo_J g) (hA : G.1 h = some (.inr (0, 64))) (hV : G.1 h2 = some (.inr (0, 64))) (hz1 : mo_oz x h) (hz2 : mo_oz x h2) (hne : h ≠ h2) (hN : mo_NA M h g) (hV2 : ∀ k, k < mo_nk g → M h2 k = mo_fld g k 2) {v y w : Int} (hw : g 0 ≤ w ∧ w ≤ 19) {o6 o7 o8 o9 o10 o11 : Option Value} : mo_V κ 0 0 325 [some (.ref x), some (.ref h), some (.ref h2), some (mo_iv v), some (mo_iv y), some (mo_iv w), o6, o7, o8, o9, o10, o11] [] G M t := by
  have hx0 := mo_Wd_x hW
  have hI := mo_Wd_Iv hW
  have hn := mo_Iv_n hI
  obtain ⟨hI0, hI1, hI2, hI3, hI4, hI5, hI6, hI7, hIh, hIa, hIe, hIm, hIs, hIl, hIw, hIr, -⟩ := id hI
  obtain ⟨hN1, hN2, hN3⟩ := id hN
  obtain ⟨c4, c5, c6⟩ := hJ.1.1
  obtain ⟨wn, rfl⟩ := Int.eq_ofNat_of_zero_le (show 0 ≤ w by omega)
  have hw20 : wn < 20 := by omega
  refine mo_il4 (pc := 325) X dL_isStep_325 ?_
  refine mo_iconst (pc := 327) X dL_isStep_327 ?_
  refine mo_cSI (pc := 328) (As := [_, _]) X mo_k_L_34 mo_y_yL_up dL_isStep_328 (ctL_up (n := 3) (by omega)) rfl (by decide) (by decide) (Nat.le_of_ble_eq_true rfl) ?_
  rintro r_328 _ ⟨h_328, rfl⟩
  have b_328 := mo_up2_b y (n := 3) (by omega)
  rw [← h_328] at b_328
  refine mo_is6 (pc := 331) X dL_isStep_331 rfl (by decide) ?_
  refine mo_il4 (pc := 333) X dL_isStep_333 ?_
  refine mo_iconst (pc := 335) X dL_isStep_335 ?_
  refine mo_ishr (pc := 336) X dL_isStep_336 ?_
  refine mo_bipush (pc := 337) X dL_isStep_337 (by decide) ?_
  refine mo_cSI (pc := 339) (As := [_, _]) X mo_k_L_34 mo_y_yL_up dL_isStep_339 (ctL_up (n := 28) (by omega)) rfl (by decide) (by decide) (Nat.le_of_ble_eq_true rfl) ?_
  rintro r_339 _ ⟨h_339, rfl⟩
  have b_339 := mo_up2_b (mo_shr y 2) (n := 28) (by omega)
  rw [← h_339] at b_339
  refine mo_is7 (pc := 342) X dL_isStep_342 rfl (by decide) ?_
  refine mo_il4 (pc := 344) X dL_isStep_344 ?_
  refine mo_bipush (pc := 346) X dL_isStep_346 (by decide) ?_
  refine mo_ishr (pc := 348) X dL_isStep_348 ?_
  refine mo_iconst (pc := 349) X dL_isStep_349 ?_
  refine mo_cSI (pc := 350) (As := [_, _]) X mo_k_L_34 mo_y_yL_up dL_isStep_350 (ctL_up (n := 2) (by omega)) rfl (by decide) (by decide) (Nat.le_of_ble_eq_true rfl) ?_
  rintro r_350 _ ⟨h_350, rfl⟩
  have b_350 := mo_up2_b (mo_shr y 7) (n := 2) (by omega)
  rw [← h_350] at b_350
  refine mo_is8 (pc := 353) X dL_isStep_353 rfl (by decide) ?_
  refine mo_il4 (pc := 355) X dL_isStep_355 ?_
  refine mo_bipush (pc := 357) X dL_isStep_357 (by decide) ?_
  refine mo_ishr (pc := 359) X dL_isStep_359 ?_
  refine mo_iconst (pc := 360) X dL_isStep_360 ?_
  refine mo_cSI (pc := 361) (As := [_, _]) X mo_k_L_34 mo_y_yL_up dL_isStep_361 (ctL_up (n := 2) (by omega)) rfl (by decide) (by decide) (Nat.le_of_ble_eq_true rfl) ?_
  rintro r_361 _ ⟨h_361, rfl⟩
  have b_361 := mo_up2_b (mo_shr y 8) (n := 2) (by omega)
  rw [← h_361] at b_361
  refine mo_is9 (pc := 364) X dL_isStep_364 rfl (by decide) ?_
  obtain ⟨on, rfl⟩ := Int.eq_ofNat_of_zero_le b_328.1
  obtain ⟨tn, rfl⟩ := Int.eq_ofNat_of_zero_le b_339.1
  obtain ⟨en, rfl⟩ := Int.eq_ofNat_of_zero_le b_350.1
  obtain ⟨vn, rfl⟩ := Int.eq_ofNat_of_zero_le b_361.1
  refine mo_al0 (pc := 366) X dL_isStep_366 ?_
  refine mo_il6 (pc := 367) X dL_isStep_367 ?_
  refine mo_il5 (pc := 369) X dL_isStep_369 ?_
  refine mo_cVI (pc := 371) (As := [_, _]) X mo_k_L_68 mo_y_yX4_firstSlot rfl dL_isStep_371 (lt_firstSlot hW (by omega) (o := (on : Int)) (w := (wn : Int)) (by omega) (by omega)) hx0 rfl (by decide) (by decide) (Nat.le_of_ble_eq_true rfl) ?_
  rintro r_371 M_371 ⟨h_371, s_371, w_371⟩
  simp only [Int.toNat_natCast] at h_371
  have sfb : -1 ≤ mo_sf g wn on ∧ mo_sf g wn on ≤ 27 := by
    unfold mo_sf
    split
    · omega
    · have := mo_ff_b (mo_sp g wn on) 28
      omega
  refine mo_is10 (pc := 374) X dL_isStep_374 rfl (by decide) ?_
  refine mo_al0 (pc := 376) X dL_isStep_376 ?_
  refine mo_il6 (pc := 377) X dL_isStep_377 ?_
  refine mo_il5 (pc := 379) X dL_isStep_379 ?_
  refine mo_il7 (pc := 381) X dL_isStep_381 ?_
  refine mo_il8 (pc := 383) X dL_isStep_383 ?_
  refine mo_il9 (pc := 385) X dL_isStep_385 ?_
  refine mo_cVI (pc := 387) (As := [_, _, _, _, _]) X mo_k_L_71 mo_y_yX4_why rfl dL_isStep_387 (lt_why w_371 (by omega) (a := (on : Int)) (w := (wn : Int)) (q := (tn : Int)) (e := (en : Int)) (v := (vn : Int)) ⟨by omega, by omega, by omega⟩ (by omega)) hx0 rfl (by decide) (by decide) (Nat.le_of_ble_eq_true rfl) ?_
  rintro r_387 M_387 ⟨h_387, s_387, w_387⟩
  simp only [Int.toNat_natCast] at h_387
  have rsb := mo_rs_b8 g on wn tn en vn
  refine mo_if_eq (pc := 390) (tgt := 395) X dL_isStep_390 (by decide) ?_ (fun c_390 => ?_) (fun c_390 => ?_)
  · omega
  · skip
    refine mo_al0 (pc := 395) X dL_isStep_395 ?_
    refine mo_il6 (pc := 396) X dL_isStep_396 ?_
    refine mo_il5 (pc := 398) X dL_isStep_398 ?_
    refine mo_il7 (pc := 400) X dL_isStep_400 ?_
    refine mo_il8 (pc := 402) X dL_isStep_402 ?_
    refine mo_il9 (pc := 404) X dL_isStep_404 ?_
    refine mo_callVr (pc := 406) (As := [_, _, _, _, _]) X mo_k_L_75 mo_y_yX4_plan rfl dL_isStep_406 (lt_plan w_387 (by omega) (a := (on : Int)) (w := (wn : Int)) (q := (tn : Int)) (e := (en : Int)) (v := (vn : Int)) ⟨by omega, by omega, by omega⟩ (by omega) (by simp only [Int.toNat_natCast]; rw [← h_387]; exact c_390)) hx0 rfl (by decide) (by decide) (Nat.le_of_ble_eq_true rfl) (mo_rm0 κ) ?_
    rintro u1 G1 M1 t1 ⟨hG1, rfl, rfl, s1, w1⟩
    show mo_V κ 0 0 _ _ (mo_iv _ :: _) _ _ _
    have W1 := mo_Wd_21 w1
    have hx0 : G1.1 x = some (.inl 4) := mo_Wd_x W1
    have hA : G1.1 h = some (.inr (0, 64)) := by rw [hG1.1]; exact hA
    have hV : G1.1 h2 = some (.inr (0, 64)) := by rw [hG1.1]; exact hV
    have I1 := mo_Wd_Iv W1
    have hrs0 : mo_rs g on wn tn en vn = 0 := by rw [← h_387]; exact c_390
    obtain ⟨f1, f2⟩ := mo_sf_rs hI (show tn < 28 by omega) (show (en : Int) < g 5 by omega) (show (vn : Int) < g 6 by omega) hrs0
    obtain ⟨q1, q2, q3, q4, q5, q6⟩ := mo_rs_0 hrs0
    have j1 : mo_J (mo_ly g on wn tn en vn) := mo_J_ly hI hJ (by omega) q1 q3 q4
    have hr3 := mo_rs_3 (o := on) (w := wn) (t := tn) (e := en) (v := vn) I1 hI7.1 (by omega) (by omega) hrs0
    have h760 := mo_rs_7 hI hrs0
    have lk : mo_nk (mo_ly g on wn tn en vn) = mo_nk g + 1 := mo_ly_k _ _ _ _ _ hI7.1
    obtain ⟨a0, a1, a2, a3, a4, a5, a6⟩ := mo_ly_n g on wn tn en vn
    have l4 : mo_ly g on wn tn en vn 4 = g 4 := mo_ly_o (by omega) (by omega) (by omega)
    have l5 : mo_ly g on wn tn en vn 5 = g 5 := mo_ly_o (by omega) (by omega) (by omega)
    have l6 : mo_ly g on wn tn en vn 6 = g 6 := mo_ly_o (by omega) (by omega) (by omega)
    have eM : M1 h = M h := by rw [s1 h hz1, s_387 h hz1, s_371 h hz1]
    clear c_390
    refine mo_is11 (pc := 409) X dL_isStep_409 rfl (by decide) ?_
    refine mo_al1 (pc := 411) X dL_isStep_411 ?_
    refine mo_il11 (pc := 412) X dL_isStep_412 ?_
    refine mo_il11 (pc := 414) X dL_isStep_414 ?_
    refine mo_iconst (pc := 416) X dL_isStep_416 ?_
    refine mo_iadd (pc := 417) X dL_isStep_417 ?_
    refine mo_cSV (pc := 418) (As := [_, _, _]) X mo_k_L_53 mo_y_yL_put dL_isStep_418 (ctL_put (z := 1) hA (a := g 1) (by rfl) (by omega) (by omega) (by rw [eM, hN2]; omega) (by rw [eM, hN2]; omega)) rfl (by decide) (by decide) (Nat.le_of_ble_eq_true rfl) ?_
    rintro M2 hM2
    have W2 : mo_Wd G1 M2 x (mo_ly g on wn tn en vn) (B + 1) := mo_Wd_oz W1 fun a a1 a2 => by rw [hM2, mo_ur_n (by omega)]
    refine mo_il10 (pc := 421) X dL_isStep_421 ?_
    refine mo_if_lt (pc := 423) (tgt := 467) X dL_isStep_423 (by decide) ?_ (fun c_423 => ?_) (fun c_423 => ?_)
    · omega
    · exfalso
      omega
    · skip
      refine mo_il10 (pc := 426) X dL_isStep_426 ?_
      refine mo_il7 (pc := 428) X dL_isStep_428 ?_
      refine mo_ic_gt (pc := 430) (tgt := 467) X dL_isStep_430 (by decide) ?_ ?_ (fun c_430 => ?_) (fun c_430 => ?_)
      · omega
      · omega
      · exfalso
        omega
      · skip
        refine mo_al0 (pc := 433) X dL_isStep_433 ?_
        refine mo_il6 (pc := 434) X dL_isStep_434 ?_
        refine mo_il5 (pc := 436) X dL_isStep_436 ?_
        refine mo_il7 (pc := 438) X dL_isStep_438 ?_
        refine mo_il8 (pc := 440) X dL_isStep_440 ?_
        refine mo_il9 (pc := 442) X dL_isStep_442 ?_
        refine mo_cVI (pc := 444) (As := [_, _, _, _, _]) X mo_k_L_71 mo_y_yX4_why rfl dL_isStep_444 (lt_why W2 (by omega) (a := (on : Int)) (w := (wn : Int)) (q := (tn : Int)) (e := (en : Int)) (v := (vn : Int)) ⟨by omega, by omega, by omega⟩ (by omega)) hx0 rfl (by decide) (by decide) (Nat.le_of_ble_eq_true rfl) ?_
        rintro r_444 M_444 ⟨h_444, s_444, w_444⟩
        simp only [Int.toNat_natCast] at h_444
        rw [hr3] at h_444
        refine mo_iconst (pc := 447) X dL_isStep_447 ?_
        refine mo_ic_ne (pc := 448) (tgt := 467) X dL_isStep_448 (by decide) ?_ ?_ (fun c_448 => ?_) (fun c_448 => ?_)
        · omega
        · omega
        · exfalso
          omega
        · skip
          refine mo_al0 (pc := 451) X dL_isStep_451 ?_
          refine mo_il11 (pc := 452) X dL_isStep_452 ?_
          refine mo_iconst (pc := 454) X dL_isStep_454 ?_
          refine mo_cVI (pc := 455) (As := [_, _]) X mo_k_L_15 mo_y_yX4_meeting rfl dL_isStep_455 (lt_meeting w_444 (by omega) (o := g 1) (w := 2) (k := mo_nk g) (by have e := mo_pl_k j1.1 (k := mo_nk g) (by omega); rw [a0] at e; exact e) (by omega) (by decide)) hx0 rfl (by decide) (by decide) (Nat.le_of_ble_eq_true rfl) ?_
          rintro r_455 _ ⟨h_455, rfl⟩
          change r_455 = mo_fld (mo_ly g on wn tn en vn) (mo_nk g) 3 at h_455
          rw [a3] at h_455
          refine mo_il7 (pc := 458) X dL_isStep_458 ?_
          refine mo_ic_ne (pc := 460) (tgt := 467) X dL_isStep_460 (by decide) ?_ ?_ (fun c_460 => ?_) (fun c_460 => ?_)
          · omega
          · omega
          · exfalso
            omega
          · skip
            refine mo_iconst (pc := 463) X dL_isStep_463 ?_
            refine mo_goto (pc := 464) (tgt := 468) X dL_isStep_464 (by decide) ?_
            refine mo_zret (pc := 468) X Y rfl (Or.inr rfl) dL_isStep_468 ⟨rfl, rfl, hG1.1, mo_ly g on wn tn en vn, mo_Wd_mono w_444 (by omega), j1, ?_⟩
            refine mo_NA_p (f0 := M1 h) (z := 1) hn ⟨fun k hk => by rw [eM, hN1 k hk], by rw [eM]; exact hN2, by rw [eM]; exact hN3⟩ (by rw [s_444 h hz1, hM2, mo_ur_s]; rfl) (by omega) rfl rfl (fun k hk => mo_ly_f hk (by omega)) (fun i hi => ?_)
            obtain rfl : i = 0 := by omega
            rw [Nat.add_zero, a0]
            exact (Int.add_zero _).symm
  · skip
    refine mo_iconst (pc := 393) X dL_isStep_393 ?_
    refine mo_zret (pc := 394) X Y rfl (Or.inr rfl) dL_isStep_394 ⟨rfl, rfl, rfl, g, mo_Wd_mono w_387 (by omega), hJ, mo_NA_cg hN (by rw [s_387 h hz1, s_371 h hz1]) rfl rfl (fun k => rfl)⟩
set_option maxHeartbeats 4000000 in
set_option maxRecDepth 100000 in
theorem ls_7 {κ : mo_T} {lf : Launch} {ρf : mo_E} {G : mo_G} {M : mo_M} {t : Nat} {x h h2 : Nat} {g : Nat → Int} {B : Int} (X : mo_Cx κ lf ρf cL_isStep 12 RL (some .boolean) 7) (Y : mo_Rt κ (ls_post G t x h (B + 1000)) 0 0) (hW : mo_Wd G M x g B) (hB : B ≤ 500000000) (hJ : mo_J g) (hA : G.1 h = some (.inr (0, 64))) (hV : G.1 h2 = some (.inr (0, 64))) (hz1 : mo_oz x h) (hz2 : mo_oz x h2) (hne : h ≠ h2) (hN : mo_NA M h g) (hV2 : ∀ k, k < mo_nk g → M h2 k = mo_fld g k 2) {v y w : Int} (hw : g 0 ≤ w ∧ w ≤ 19) {o6 o7 o8 o9 o10 o11 : Option Value} : mo_V κ 0 0 469 [some (.ref x), some (.ref h), some (.ref h2), some (mo_iv v), some (mo_iv y), some (mo_iv w), o6, o7, o8, o9, o10, o11] [] G M t := by
  have hx0 := mo_Wd_x hW
  have hI := mo_Wd_Iv hW
  have hn := mo_Iv_n hI
  obtain ⟨hI0, hI1, hI2, hI3, hI4, hI5, hI6, hI7, hIh, hIa, hIe, hIm, hIs, hIl, hIw, hIr, -⟩ := id hI
  obtain ⟨hN1, hN2, hN3⟩ := id hN
  obtain ⟨c4, c5, c6⟩ := hJ.1.1
  refine mo_al1 (pc := 469) X dL_isStep_469 ?_
  refine mo_bipush (pc := 470) X dL_isStep_470 (by decide) ?_
  refine mo_iald (pc := 472) (j := 62) X dL_isStep_472 hA (by omega) ?_ ?_ rfl ?_
  · omega
  · omega
  rw [hN2]
  refine mo_if_ne (pc := 473) (tgt := 478) X dL_isStep_473 (by decide) ?_ (fun c_473 => ?_) (fun c_473 => ?_)
  · omega
  · skip
    refine mo_il4 (pc := 478) X dL_isStep_478 ?_
    refine mo_al1 (pc := 480) X dL_isStep_480 ?_
    refine mo_bipush (pc := 481) X dL_isStep_481 (by decide) ?_
    refine mo_iald (pc := 483) (j := 62) X dL_isStep_483 hA (by omega) ?_ ?_ rfl ?_
    · omega
    · omega
    rw [hN2]
    refine mo_cSI (pc := 484) (As := [_, _]) X mo_k_L_34 mo_y_yL_up dL_isStep_484 (ctL_up (n := g 7) (by omega)) rfl (by decide) (by decide) (Nat.le_of_ble_eq_true rfl) ?_
    rintro r_484 _ ⟨h_484, rfl⟩
    have b_484 := mo_up2_b y (n := g 7) (by omega)
    rw [← h_484] at b_484
    refine mo_is6 (pc := 487) X dL_isStep_487 rfl (by decide) ?_
    obtain ⟨kn, rfl⟩ := Int.eq_ofNat_of_zero_le b_484.1
    have hk : kn < mo_nk g := by omega
    have mk := mo_Iv_m hI hk
    unfold mo_Mt at mk
    have e7 := hN1 kn hk
    refine mo_al1 (pc := 489) X dL_isStep_489 ?_
    refine mo_il6 (pc := 490) X dL_isStep_490 ?_
    refine mo_iald (pc := 492) (j := kn) X dL_isStep_492 hA (by omega) ?_ ?_ (by omega) ?_
    · omega
    · omega
    rw [e7]
    refine mo_is7 (pc := 493) X dL_isStep_493 rfl (by decide) ?_
    refine mo_al0 (pc := 495) X dL_isStep_495 ?_
    refine mo_il7 (pc := 496) X dL_isStep_496 ?_
    refine mo_iconst (pc := 498) X dL_isStep_498 ?_
    refine mo_cVI (pc := 499) (As := [_, _]) X mo_k_L_15 mo_y_yX4_meeting rfl dL_isStep_499 (lt_meeting hW (by omega) (o := mo_fld g kn 0) (w := 5) (mo_pl_k hJ.1 hk) (by omega) (by decide)) hx0 rfl (by decide) (by decide) (Nat.le_of_ble_eq_true rfl) ?_
    rintro r_499 _ ⟨h_499, rfl⟩
    change r_499 = mo_fld g kn 6 at h_499
    refine mo_if_eq (pc := 502) (tgt := 507) X dL_isStep_502 (by decide) ?_ (fun c_502 => ?_) (fun c_502 => ?_)
    · omega
    · skip
      refine mo_al0 (pc := 507) X dL_isStep_507 ?_
      refine mo_il7 (pc := 508) X dL_isStep_508 ?_
      refine mo_iconst (pc := 510) X dL_isStep_510 ?_
      refine mo_cVI (pc := 511) (As := [_, _]) X mo_k_L_15 mo_y_yX4_meeting rfl dL_isStep_511 (lt_meeting hW (by omega) (o := mo_fld g kn 0) (w := 1) (mo_pl_k hJ.1 hk) (by omega) (by decide)) hx0 rfl (by decide) (by decide) (Nat.le_of_ble_eq_true rfl) ?_
      rintro r_511 _ ⟨h_511, rfl⟩
      change r_511 = mo_fld g kn 2 at h_511
      refine mo_al0 (pc := 514) X dL_isStep_514 ?_
      refine mo_iconst (pc := 515) X dL_isStep_515 ?_
      refine mo_cVI (pc := 516) (As := [_]) X mo_k_L_9 mo_y_yX4_value rfl dL_isStep_516 (lt_value hW (by omega) (w := 4) (by decide)) hx0 rfl (by decide) (by decide) (Nat.le_of_ble_eq_true rfl) ?_
      rintro r_516 _ ⟨h_516, rfl⟩
      rw [mo_nv_4] at h_516
      refine mo_ic_ne (pc := 519) (tgt := 590) X dL_isStep_519 (by decide) ?_ ?_ (fun c_519 => ?_) (fun c_519 => ?_)
      · omega
      · omega
      · skip
        refine mo_al0 (pc := 590) X dL_isStep_590 ?_
        refine mo_il7 (pc := 591) X dL_isStep_591 ?_
        refine mo_iconst (pc := 593) X dL_isStep_593 ?_
        refine mo_cVI (pc := 594) (As := [_, _]) X mo_k_L_15 mo_y_yX4_meeting rfl dL_isStep_594 (lt_meeting hW (by omega) (o := mo_fld g kn 0) (w := 1) (mo_pl_k hJ.1 hk) (by omega) (by decide)) hx0 rfl (by decide) (by decide) (Nat.le_of_ble_eq_true rfl) ?_
        rintro r_594 _ ⟨h_594, rfl⟩
        change r_594 = mo_fld g kn 2 at h_594
        refine mo_is8 (pc := 597) X dL_isStep_597 rfl (by decide) ?_
        refine mo_al0 (pc := 599) X dL_isStep_599 ?_
        refine mo_il7 (pc := 600) X dL_isStep_600 ?_
        refine mo_callVr (pc := 602) (As := [_]) X mo_k_L_82 mo_y_yX4_cancel rfl dL_isStep_602 (lt_cancel hW (by omega) (o := mo_fld g kn 0) (k := kn) (mo_pl_k hJ.1 hk) (by omega) (by omega) (by omega)) hx0 rfl (by decide) (by decide) (Nat.le_of_ble_eq_true rfl) (mo_rm0 κ) ?_
        rintro u1 G1 M1 t1 ⟨hG1, rfl, rfl, s1, w1⟩
        show mo_V κ 0 0 _ _ (mo_iv _ :: _) _ _ _
        have W1 := mo_Wd_21 w1
        have hx0 : G1.1 x = some (.inl 4) := mo_Wd_x W1
        have hA : G1.1 h = some (.inr (0, 64)) := by rw [hG1.1]; exact hA
        have hV : G1.1 h2 = some (.inr (0, 64)) := by rw [hG1.1]; exact hV
        have j1 := mo_J_to hI hk hJ
        have I1 := mo_Wd_Iv W1
        have t7 := mo_to_7 g kn
        have t1' : mo_to g kn 1 = g 1 := mo_to_lo (by omega) (by omega)
        have tk : mo_nk (mo_to g kn) = mo_nk g - 1 := mo_to_k _ _ hI7.1
        have nb : ∀ j, j < mo_nk g → mo_In (M1 h j) := fun j hj => by
          rw [s1 h hz1, hN1 j hj]
          have mj := mo_Iv_m hI hj
          unfold mo_Mt at mj
          omega
        have wb : ∀ j, j < mo_nk g → mo_In (M1 h2 j) := fun j hj => by
          rw [s1 h2 hz2, hV2 j hj]
          have mj := mo_Iv_m hI hj
          unfold mo_Mt at mj
          omega
        refine mo_il8 (pc := 605) X dL_isStep_605 ?_
        refine mo_ic_ne (pc := 607) (tgt := 614) X dL_isStep_607 (by decide) ?_ ?_ (fun c_607 => ?_) (fun c_607 => ?_)
        · omega
        · omega
        · exfalso
          omega
        · skip
          refine mo_iconst (pc := 610) X dL_isStep_610 ?_
          refine mo_goto (pc := 611) (tgt := 615) X dL_isStep_611 (by decide) ?_
          refine mo_is9 (pc := 615) X dL_isStep_615 rfl (by decide) ?_
          refine mo_al0 (pc := 617) X dL_isStep_617 ?_
          refine mo_al1 (pc := 618) X dL_isStep_618 ?_
          refine mo_iconst (pc := 619) X dL_isStep_619 ?_
          refine mo_il7 (pc := 620) X dL_isStep_620 ?_
          refine mo_al2 (pc := 622) X dL_isStep_622 ?_
          refine mo_cSV (pc := 623) (As := [_, _, _, _, _]) X mo_k_L_43 mo_y_yL_takeOut dL_isStep_623 (ctL_takeOut (x := x) hA hV hne (w := 0) (u := mo_fld g kn 0) (by omega) (by omega) (cnt := mo_nk g) (by rw [s1 h hz1, hN2, hn]) (by omega) nb wb) rfl (by decide) (by decide) (Nat.le_of_ble_eq_true rfl) ?_
          rintro M_623 h_623
          refine mo_il9 (pc := 626) X dL_isStep_626 ?_
          refine mo_zret (pc := 628) X Y rfl (Or.inr rfl) dL_isStep_628 ⟨rfl, rfl, hG1.1, mo_to g kn, mo_Wd_mono (mo_Wd_oz W1 fun a a1 a2 => h_623.2 a (by omega) (by omega)) (by omega), j1, ?_⟩
          have cne := mo_cn_ne kn
          refine mo_NA_q (p := fun i => decide (i ≠ kn)) (w := 0) (u := mo_fld g kn 0) (N := M1 h) (W := M1 h2) (by omega) h_623.1 (fun i hi => ?_) ?_ (mo_Iv_n I1).symm (fun i hi hp => ?_) (fun i hi => by rw [s1 h hz1, hN1 i hi]) (by rw [s1 h hz1, hN3, t1'])
          · have mi := mo_Iv_m hI hi
            unfold mo_Mt at mi
            unfold mo_ts
            rw [s1 h hz1, hN1 i hi, s1 h2 hz2, hV2 i hi]
            rw [decide_eq_decide]
            constructor
            · rintro ⟨q1, q2⟩ q3
              exact q1 (by rw [q3])
            · intro q
              refine ⟨?_, by omega⟩
              by_cases c : i < kn
              · have := hJ.1.2.2.1 i kn c hk
                omega
              · have := hJ.1.2.2.1 kn i (by omega) hi
                omega
          · rw [tk]
            have := (cne (mo_nk g)).2 hk
            omega
          · have hp : i ≠ kn := of_decide_eq_true hp
            by_cases c : i < kn
            · rw [(cne i).1 (by omega), mo_to_sh (by omega) (by omega), mo_sh_lt c]
            · have h9 := (cne i).2 (by omega)
              rw [mo_to_sh (by omega) (by omega), mo_sh_ge (by omega), h9]
      · skip
        refine mo_il4 (pc := 522) X dL_isStep_522 ?_
        refine mo_bipush (pc := 524) X dL_isStep_524 (by decide) ?_
        refine mo_ishr (pc := 526) X dL_isStep_526 ?_
        refine mo_iconst (pc := 527) X dL_isStep_527 ?_
        refine mo_cSI (pc := 528) (As := [_, _]) X mo_k_L_34 mo_y_yL_up dL_isStep_528 (ctL_up (n := 2) (by omega)) rfl (by decide) (by decide) (Nat.le_of_ble_eq_true rfl) ?_
        rintro r_528 _ ⟨h_528, rfl⟩
        have b_528 := mo_up2_b (mo_shr y 6) (n := 2) (by omega)
        rw [← h_528] at b_528
        refine mo_if_ne (pc := 531) (tgt := 538) X dL_isStep_531 (by decide) ?_ (fun c_531 => ?_) (fun c_531 => ?_)
        · omega
        · skip
          refine mo_iconst (pc := 538) X dL_isStep_538 ?_
          refine mo_is8 (pc := 539) X dL_isStep_539 rfl (by decide) ?_
          refine mo_al0 (pc := 541) X dL_isStep_541 ?_
          refine mo_il7 (pc := 542) X dL_isStep_542 ?_
          refine mo_il8 (pc := 544) X dL_isStep_544 ?_
          refine mo_callVr (pc := 546) (As := [_, _]) X mo_k_L_78 mo_y_yX4_tell rfl dL_isStep_546 (lt_tell hW (by omega) (o := mo_fld g kn 0) (v := 0) (k := kn) (mo_pl_k hJ.1 hk) (by omega) (by omega) (by decide) (show mo_op g kn = true by unfold mo_op; rw [decide_eq_true_eq]; exact ⟨by omega, by omega⟩)) hx0 rfl (by decide) (by decide) (Nat.le_of_ble_eq_true rfl) (mo_rm0 κ) ?_
          rintro u1 G1 M1 t1 ⟨hG1, rfl, rfl, s1, w1⟩
          show mo_V κ 0 0 _ _ (mo_iv _ :: _) _ _ _
          have W1 := mo_Wd_21 w1
          have hx0 : G1.1 x = some (.inl 4) := mo_Wd_x W1
          have hA : G1.1 h = some (.inr (0, 64)) := by rw [hG1.1]; exact hA
          have hV : G1.1 h2 = some (.inr (0, 64)) := by rw [hG1.1]; exact hV
          obtain ⟨j1, t7, t1', t0, tf⟩ := mo_J_tell (v := 0) hI hk (show mo_op g kn = true by unfold mo_op; rw [decide_eq_true_eq]; exact ⟨by omega, by omega⟩) hJ
          generalize hg1 : (if (0 : Int) = 0 then mo_ms g kn else mo_hd g kn) = g1 at *
          have hk1 : kn < mo_nk g1 := by unfold mo_nk at hk ⊢; rw [t7]; exact hk
          have I1 := mo_Wd_Iv W1
          have f0 : mo_fld g1 kn 0 = mo_fld g kn 0 := by rw [tf, if_neg (by omega)]
          have f1 : mo_fld g1 kn 1 = mo_fld g kn 1 := by rw [tf, if_neg (by omega)]
          have f6 : mo_fld g1 kn 6 = 2 := by rw [tf, if_pos rfl]; rfl
          have l4 : g1 4 = 3 := j1.1.1.1
          have hob := mo_ow_rg I1 (show (mo_fld g kn 1).toNat < 8 by omega) (show (g 0).toNat < 20 by omega)
          have hpl := mo_pl_k j1.1 hk1
          rw [f0] at hpl
          refine mo_al0 (pc := 549) X dL_isStep_549 ?_
          refine mo_al0 (pc := 550) X dL_isStep_550 ?_
          refine mo_il7 (pc := 551) X dL_isStep_551 ?_
          refine mo_iconst (pc := 553) X dL_isStep_553 ?_
          refine mo_cVI (pc := 554) (As := [_, _]) X mo_k_L_15 mo_y_yX4_meeting rfl dL_isStep_554 (lt_meeting W1 (by omega) (o := mo_fld g kn 0) (w := 0) hpl (by omega) (by decide)) hx0 rfl (by decide) (by decide) (Nat.le_of_ble_eq_true rfl) ?_
          rintro r_554 _ ⟨h_554, rfl⟩
          change r_554 = mo_fld g1 kn 1 at h_554
          rw [f1] at h_554
          refine mo_iconst (pc := 557) X dL_isStep_557 ?_
          refine mo_cVI (pc := 558) (As := [_, _]) X mo_k_L_19 mo_y_yX4_order rfl dL_isStep_558 (lt_order W1 (by omega) (o := r_554) (w := 5) (by omega) (by decide)) hx0 rfl (by decide) (by decide) (Nat.le_of_ble_eq_true rfl) ?_
          rintro r_558 _ ⟨h_558, rfl⟩
          rw [mo_ov_5, t0, h_554] at h_558
          refine mo_ic_ne (pc := 561) (tgt := 588) X dL_isStep_561 (by decide) ?_ ?_ (fun c_561 => ?_) (fun c_561 => ?_)
          · omega
          · omega
          · exfalso
            omega
          · skip
            refine mo_al0 (pc := 564) X dL_isStep_564 ?_
            refine mo_il7 (pc := 565) X dL_isStep_565 ?_
            refine mo_iconst (pc := 567) X dL_isStep_567 ?_
            refine mo_cVI (pc := 568) (As := [_, _]) X mo_k_L_15 mo_y_yX4_meeting rfl dL_isStep_568 (lt_meeting W1 (by omega) (o := mo_fld g kn 0) (w := 5) hpl (by omega) (by decide)) hx0 rfl (by decide) (by decide) (Nat.le_of_ble_eq_true rfl) ?_
            rintro r_568 _ ⟨h_568, rfl⟩
            change r_568 = mo_fld g1 kn 6 at h_568
            refine mo_il8 (pc := 571) X dL_isStep_571 ?_
            refine mo_if_eq (pc := 573) (tgt := 580) X dL_isStep_573 (by decide) ?_ (fun c_573 => ?_) (fun c_573 => ?_)
            · omega
            · skip
              refine mo_iconst (pc := 580) X dL_isStep_580 ?_
              refine mo_ic_ne (pc := 581) (tgt := 588) X dL_isStep_581 (by decide) ?_ ?_ (fun c_581 => ?_) (fun c_581 => ?_)
              · omega
              · omega
              · exfalso
                omega
              · skip
                refine mo_iconst (pc := 584) X dL_isStep_584 ?_
                refine mo_goto (pc := 585) (tgt := 589) X dL_isStep_585 (by decide) ?_
                refine mo_zret (pc := 589) X Y rfl (Or.inr rfl) dL_isStep_589 ⟨rfl, rfl, hG1.1, _, mo_Wd_mono W1 (by omega), j1, mo_NA_cg hN (s1 h hz1) t7 t1' (fun k => by rw [tf, if_neg (by omega)])⟩
            · exfalso; omega
        · skip
          refine mo_iconst (pc := 534) X dL_isStep_534 ?_
          refine mo_goto (pc := 535) (tgt := 539) X dL_isStep_535 (by decide) ?_
          refine mo_is8 (pc := 539) X dL_isStep_539 rfl (by decide) ?_
          refine mo_al0 (pc := 541) X dL_isStep_541 ?_
          refine mo_il7 (pc := 542) X dL_isStep_542 ?_
          refine mo_il8 (pc := 544) X dL_isStep_544 ?_
          refine mo_callVr (pc := 546) (As := [_, _]) X mo_k_L_78 mo_y_yX4_tell rfl dL_isStep_546 (lt_tell hW (by omega) (o := mo_fld g kn 0) (v := 1) (k := kn) (mo_pl_k hJ.1 hk) (by omega) (by omega) (by decide) (show mo_op g kn = true by unfold mo_op; rw [decide_eq_true_eq]; exact ⟨by omega, by omega⟩)) hx0 rfl (by decide) (by decide) (Nat.le_of_ble_eq_true rfl) (mo_rm0 κ) ?_
          rintro u1 G1 M1 t1 ⟨hG1, rfl, rfl, s1, w1⟩
          show mo_V κ 0 0 _ _ (mo_iv _ :: _) _ _ _
          have W1 := mo_Wd_21 w1
          have hx0 : G1.1 x = some (.inl 4) := mo_Wd_x W1
          have hA : G1.1 h = some (.inr (0, 64)) := by rw [hG1.1]; exact hA
          have hV : G1.1 h2 = some (.inr (0, 64)) := by rw [hG1.1]; exact hV
          obtain ⟨j1, t7, t1', t0, tf⟩ := mo_J_tell (v := 1) hI hk (show mo_op g kn = true by unfold mo_op; rw [decide_eq_true_eq]; exact ⟨by omega, by omega⟩) hJ
          generalize hg1 : (if (1 : Int) = 0 then mo_ms g kn else mo_hd g kn) = g1 at *
          have hk1 : kn < mo_nk g1 := by unfold mo_nk at hk ⊢; rw [t7]; exact hk
          have I1 := mo_Wd_Iv W1
          have f0 : mo_fld g1 kn 0 = mo_fld g kn 0 := by rw [tf, if_neg (by omega)]
          have f1 : mo_fld g1 kn 1 = mo_fld g kn 1 := by rw [tf, if_neg (by omega)]
          have f6 : mo_fld g1 kn 6 = 1 := by rw [tf, if_pos rfl]; rfl
          have l4 : g1 4 = 3 := j1.1.1.1
          have hob := mo_ow_rg I1 (show (mo_fld g kn 1).toNat < 8 by omega) (show (g 0).toNat < 20 by omega)
          have hpl := mo_pl_k j1.1 hk1
          rw [f0] at hpl
          refine mo_al0 (pc := 549) X dL_isStep_549 ?_
          refine mo_al0 (pc := 550) X dL_isStep_550 ?_
          refine mo_il7 (pc := 551) X dL_isStep_551 ?_
          refine mo_iconst (pc := 553) X dL_isStep_553 ?_
          refine mo_cVI (pc := 554) (As := [_, _]) X mo_k_L_15 mo_y_yX4_meeting rfl dL_isStep_554 (lt_meeting W1 (by omega) (o := mo_fld g kn 0) (w := 0) hpl (by omega) (by decide)) hx0 rfl (by decide) (by decide) (Nat.le_of_ble_eq_true rfl) ?_
          rintro r_554 _ ⟨h_554, rfl⟩
          change r_554 = mo_fld g1 kn 1 at h_554
          rw [f1] at h_554
          refine mo_iconst (pc := 557) X dL_isStep_557 ?_
          refine mo_cVI (pc := 558) (As := [_, _]) X mo_k_L_19 mo_y_yX4_order rfl dL_isStep_558 (lt_order W1 (by omega) (o := r_554) (w := 5) (by omega) (by decide)) hx0 rfl (by decide) (by decide) (Nat.le_of_ble_eq_true rfl) ?_
          rintro r_558 _ ⟨h_558, rfl⟩
          rw [mo_ov_5, t0, h_554] at h_558
          refine mo_ic_ne (pc := 561) (tgt := 588) X dL_isStep_561 (by decide) ?_ ?_ (fun c_561 => ?_) (fun c_561 => ?_)
          · omega
          · omega
          · exfalso
            omega
          · skip
            refine mo_al0 (pc := 564) X dL_isStep_564 ?_
            refine mo_il7 (pc := 565) X dL_isStep_565 ?_
            refine mo_iconst (pc := 567) X dL_isStep_567 ?_
            refine mo_cVI (pc := 568) (As := [_, _]) X mo_k_L_15 mo_y_yX4_meeting rfl dL_isStep_568 (lt_meeting W1 (by omega) (o := mo_fld g kn 0) (w := 5) hpl (by omega) (by decide)) hx0 rfl (by decide) (by decide) (Nat.le_of_ble_eq_true rfl) ?_
            rintro r_568 _ ⟨h_568, rfl⟩
            change r_568 = mo_fld g1 kn 6 at h_568
            refine mo_il8 (pc := 571) X dL_isStep_571 ?_
            refine mo_if_eq (pc := 573) (tgt := 580) X dL_isStep_573 (by decide) ?_ (fun c_573 => ?_) (fun c_573 => ?_)
            · omega
            · exfalso; omega
            · skip
              refine mo_iconst (pc := 576) X dL_isStep_576 ?_
              refine mo_goto (pc := 577) (tgt := 581) X dL_isStep_577 (by decide) ?_
              refine mo_ic_ne (pc := 581) (tgt := 588) X dL_isStep_581 (by decide) ?_ ?_ (fun c_581 => ?_) (fun c_581 => ?_)
              · omega
              · omega
              · exfalso
                omega
              · skip
                refine mo_iconst (pc := 584) X dL_isStep_584 ?_
                refine mo_goto (pc := 585) (tgt := 589) X dL_isStep_585 (by decide) ?_
                refine mo_zret (pc := 589) X Y rfl (Or.inr rfl) dL_isStep_589 ⟨rfl, rfl, hG1.1, _, mo_Wd_mono W1 (by omega), j1, mo_NA_cg hN (s1 h hz1) t7 t1' (fun k => by rw [tf, if_neg (by omega)])⟩
    · skip
      refine mo_iconst (pc := 505) X dL_isStep_505 ?_
      refine mo_zret (pc := 506) X Y rfl (Or.inr rfl) dL_isStep_506 ⟨rfl, rfl, rfl, g, mo_Wd_mono hW (by omega), hJ, hN⟩
  · skip
    refine mo_iconst (pc := 476) X dL_isStep_476 ?_
    refine mo_zret (pc := 477) X Y rfl (Or.inr rfl) dL_isStep_477 ⟨rfl, rfl, rfl, g, mo_Wd_mono hW (by omega), hJ, hN⟩
