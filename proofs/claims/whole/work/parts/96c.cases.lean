section
/-! the law's cases -/
set_option maxHeartbeats 2000000 in
set_option maxRecDepth 100000 in
theorem lt_heal {l : Launch} {E : QE} {T : Nat → Nat × Nat} {b Ln : Nat} {xs : Nat → Int32} {i : Int} {kc ks : Nat} (hi : 0 ≤ i ∧ i + 4 ≤ (Ln : Int)) (hLn : Ln ≤ 2048) (hkc : kc ≤ 601024) (hks : ks ≤ 7293034) (hn : NXT l E T b Ln xs i kc ks) {c : Int} (hc : 0 ≤ c ∧ c ≤ 3) {I : Nat → Nat → Int} {J : Nat → Nat → Int64} {R : Nat → Nat → Option Nat} {x5 x6 x7 x8 : Option Value} (hr : RLx T c I (fun I9 => y_heal I9 (xs (i + 1).toNat).toInt (xs (i + 2).toNat).toInt) J R) : GoT l E Y_L_law kc ks 433 [some (.ref b), some (.ref (E.1 + 0)), some (.ref (E.1 + 110)), some (.ref (E.1 + 124)), some (.int (iz i)), x5, x6, x7, x8] [.int (iz c)] (T, I, J, R, 125, 0) (TgW E b Ln xs) := by
  have hmv : MV I := hr.1
  have hmb : MdB T R 125 := hr.2.1
  have h110 : T 110 = (5, 0) := hmb.1
  have h124 : T 124 = (10, 1) := hr.2.2.2.2.2.2.1
  have e0 : (y_heal I (xs (i + 1).toNat).toInt (xs (i + 2).toNat).toInt).2 110 0 = c := hr.2.2.1
  have e1 : c = 0 → J 124 0 = (iz (y_heal I (xs (i + 1).toNat).toInt (xs (i + 2).toNat).toInt).1).toInt64 := hr.2.2.2.1
  have hq : QR T (y_heal I (xs (i + 1).toNat).toInt (xs (i + 2).toNat).toInt).2 R := hr.2.2.2.2
  clear hr
  refine g_istore5 (Y := Y_L_law) (pc' := 435) dL_law_433 rfl (Nat.le_of_ble_eq_true rfl) rfl ?_
  refine g_aload2 (Y := Y_L_law) (pc' := 436) dL_law_435 rfl ?_
  refine g_aload0 (Y := Y_L_law) (pc' := 437) dL_law_436 rfl ?_
  refine g_iload4 (Y := Y_L_law) (pc' := 439) dL_law_437 rfl ?_
  refine g_iconst (Y := Y_L_law) (pc' := 440) dL_law_439 rfl ?_
  refine g_iadd (Y := Y_L_law) (pc' := 441) dL_law_440 rfl ?_
  refine g_xld (pc' := 442) dL_law_441 rfl ⟨by omega, by omega⟩ hLn ?_
  refine g_aload0 (Y := Y_L_law) (pc' := 443) dL_law_442 rfl ?_
  refine g_iload4 (Y := Y_L_law) (pc' := 445) dL_law_443 rfl ?_
  refine g_iconst (Y := Y_L_law) (pc' := 446) dL_law_445 rfl ?_
  refine g_iadd (Y := Y_L_law) (pc' := 447) dL_law_446 rfl ?_
  refine g_xld (pc' := 448) dL_law_447 rfl ⟨by omega, by omega⟩ hLn ?_
  refine g_callVv (Y := Y_L_law) (c := 5) (k := 110) (s_X5_heal hmb hmv (xs (i + 1).toNat).toInt (i32rg _) (xs (i + 2).toNat).toInt (i32rg _)) (pc' := 451) dL_law_448 rfl cv_W_96 (q_fit_mk (Nat.le_of_ble_eq_true rfl) (Nat.le_of_ble_eq_true rfl) hkc hks) h110 (by show (110 : Nat) < 125; decide) ⟨by decide, _, rfl, rfl⟩ rfl rfl rfl rfl ?_
  generalize y_heal I (xs (i + 1).toNat).toInt (xs (i + 2).toNat).toInt = r at e0 e1 hq ⊢
  refine g_istore6 (Y := Y_L_law) (pc' := 453) dL_law_451 rfl (Nat.le_of_ble_eq_true rfl) rfl ?_
  refine g_aload2 (Y := Y_L_law) (pc' := 454) dL_law_453 rfl ?_
  refine g_callVv (Y := Y_L_law) (c := 5) (k := 110) (s_X5_thrown hmb) (pc' := 457) dL_law_454 rfl cv_W_80 (q_fit_mk (Nat.le_of_ble_eq_true rfl) (Nat.le_of_ble_eq_true rfl) hkc hks) h110 (by show (110 : Nat) < 125; decide) ⟨by decide, _, rfl, rfl⟩ rfl rfl rfl rfl ?_
  refine g_iload5 (Y := Y_L_law) (pc' := 459) dL_law_457 rfl ?_
  refine g_icmp_eq (Y := Y_L_law) (t := 464) (pc' := 462) dL_law_459 (by decide) rfl ⟨by omega, by omega⟩ ⟨by omega, by omega⟩ (fun h9 => ?_) (fun h9 => absurd e0 h9)
  refine g_iload5 (Y := Y_L_law) (pc' := 466) dL_law_464 rfl ?_
  refine g_if_ne (Y := Y_L_law) (t := 481) (pc' := 469) dL_law_466 (by decide) rfl ⟨by omega, by omega⟩ (fun h8 => ?_) (fun h8 => ?_)
  · refine g_goto (Y := Y_L_law) (t := 1323) dL_law_481 (by decide) ?_
    exact hn _ _ _ _ _ _ _ _ _ hq (Nat.le_refl _) (Nat.le_refl _)
  · refine g_aload3 (Y := Y_L_law) (pc' := 470) dL_law_469 rfl ?_
    refine g_iconst (Y := Y_L_law) (pc' := 471) dL_law_470 rfl ?_
    refine g_lald (Y := Y_L_law) (pc' := 472) dL_law_471 rfl h124 (by decide) (by decide) ⟨by decide, by decide⟩ ?_
    refine g_iload6 (Y := Y_L_law) (pc' := 474) dL_law_472 rfl ?_
    refine g_i2l (Y := Y_L_law) (pc' := 475) dL_law_474 rfl ?_
    refine g_lcmp (Y := Y_L_law) (v := 0) (pc' := 476) dL_law_475 rfl (by rw [show J 124 (0 : Int).toNat = _ from e1 h8]; exact lcmp_eq _) ?_
    refine g_if_eq (Y := Y_L_law) (t := 481) (pc' := 479) dL_law_476 (by decide) rfl ⟨by decide, by decide⟩ (fun _ => ?_) (fun h7 => absurd rfl h7)
    refine g_goto (Y := Y_L_law) (t := 1323) dL_law_481 (by decide) ?_
    exact hn _ _ _ _ _ _ _ _ _ hq (Nat.le_refl _) (Nat.le_refl _)
set_option maxHeartbeats 2000000 in
set_option maxRecDepth 100000 in
theorem lc_4 {l : Launch} {E : QE} {T : Nat → Nat × Nat} {b Ln : Nat} {xs : Nat → Int32} {i : Int} {kc ks : Nat} (hl9 : l.stackTraces = false) (hi : 0 ≤ i ∧ i + 4 ≤ (Ln : Int)) (hLn : Ln ≤ 2048) (hkc : kc + 1 ≤ 601024) (hks : ks + 6 ≤ 7293034) (hn : NXT l E T b Ln xs i (kc + 1) (ks + 6)) {I : Nat → Nat → Int} {J : Nat → Nat → Int64} {R : Nat → Nat → Option Nat} {x5 x6 x7 x8 : Option Value} (hq : QR T I R) : GoT l E Y_L_law kc ks 416 [some (.ref b), some (.ref (E.1 + 0)), some (.ref (E.1 + 110)), some (.ref (E.1 + 124)), some (.int (iz i)), x5, x6, x7, x8] [] (T, I, J, R, 125, 0) (TgW E b Ln xs) := by
  refine g_aload1 (Y := Y_L_law) (pc' := 417) dL_law_416 rfl ?_
  refine g_aload0 (Y := Y_L_law) (pc' := 418) dL_law_417 rfl ?_
  refine g_iload4 (Y := Y_L_law) (pc' := 420) dL_law_418 rfl ?_
  refine g_iconst (Y := Y_L_law) (pc' := 421) dL_law_420 rfl ?_
  refine g_iadd (Y := Y_L_law) (pc' := 422) dL_law_421 rfl ?_
  refine g_xld (pc' := 423) dL_law_422 rfl ⟨by omega, by omega⟩ hLn ?_
  refine g_aload0 (Y := Y_L_law) (pc' := 424) dL_law_423 rfl ?_
  refine g_iload4 (Y := Y_L_law) (pc' := 426) dL_law_424 rfl ?_
  refine g_iconst (Y := Y_L_law) (pc' := 427) dL_law_426 rfl ?_
  refine g_iadd (Y := Y_L_law) (pc' := 428) dL_law_427 rfl ?_
  refine g_xld (pc' := 429) dL_law_428 rfl ⟨by omega, by omega⟩ hLn ?_
  refine g_aload3 (Y := Y_L_law) (pc' := 430) dL_law_429 rfl ?_
  refine g_callL (s_L_heal hl9 hq.1 hq.2.2.2.1 hq.2.2.1 (xs (i + 1).toNat).toInt (i32rg _) (xs (i + 2).toNat).toInt (i32rg _)) (pc' := 433) dL_law_430 rfl cv_W_94 (q_fit_mk (Nat.le_of_ble_eq_true rfl) (Nat.le_of_ble_eq_true rfl) hkc hks) rfl rfl rfl (fun r w1 hr => ?_)
  have hm := ml_heal (J := J) hq (xs (i + 1).toNat).toInt (i32rg _) (xs (i + 2).toNat).toInt (i32rg _)
  rcases hr with ⟨hx, rfl, rfl⟩ | ⟨hx, rfl, rfl⟩ | ⟨hx, rfl, rfl⟩
  · exact lt_heal (kc := kc + 1) (ks := ks + 6) hi hLn hkc hks hn (by decide) (hm.1 hx)
  · exact lt_heal (kc := kc + 1) (ks := ks + 6) hi hLn hkc hks hn (by decide) (hm.2.1 hx)
  · exact lt_heal (kc := kc + 1) (ks := ks + 6) hi hLn hkc hks hn (by decide) (hm.2.2 hx)
set_option maxHeartbeats 2000000 in
set_option maxRecDepth 100000 in
theorem lt_tidy {l : Launch} {E : QE} {T : Nat → Nat × Nat} {b Ln : Nat} {xs : Nat → Int32} {i : Int} {kc ks : Nat} (hi : 0 ≤ i ∧ i + 4 ≤ (Ln : Int)) (hLn : Ln ≤ 2048) (hkc : kc ≤ 601024) (hks : ks ≤ 7293034) (hn : NXT l E T b Ln xs i kc ks) {c : Int} (hc : 0 ≤ c ∧ c ≤ 3) {I : Nat → Nat → Int} {J : Nat → Nat → Int64} {R : Nat → Nat → Option Nat} {x5 x6 x7 x8 : Option Value} (hr : RLx T c I (fun I9 => y_tidy I9 (xs (i + 1).toNat).toInt) J R) : GoT l E Y_L_law kc ks 495 [some (.ref b), some (.ref (E.1 + 0)), some (.ref (E.1 + 110)), some (.ref (E.1 + 124)), some (.int (iz i)), x5, x6, x7, x8] [.int (iz c)] (T, I, J, R, 125, 0) (TgW E b Ln xs) := by
  have hmv : MV I := hr.1
  have hmb : MdB T R 125 := hr.2.1
  have h110 : T 110 = (5, 0) := hmb.1
  have h124 : T 124 = (10, 1) := hr.2.2.2.2.2.2.1
  have e0 : (y_tidy I (xs (i + 1).toNat).toInt).2 110 0 = c := hr.2.2.1
  have e1 : c = 0 → J 124 0 = (iz (y_tidy I (xs (i + 1).toNat).toInt).1).toInt64 := hr.2.2.2.1
  have hq : QR T (y_tidy I (xs (i + 1).toNat).toInt).2 R := hr.2.2.2.2
  clear hr
  refine g_istore5 (Y := Y_L_law) (pc' := 497) dL_law_495 rfl (Nat.le_of_ble_eq_true rfl) rfl ?_
  refine g_aload2 (Y := Y_L_law) (pc' := 498) dL_law_497 rfl ?_
  refine g_aload0 (Y := Y_L_law) (pc' := 499) dL_law_498 rfl ?_
  refine g_iload4 (Y := Y_L_law) (pc' := 501) dL_law_499 rfl ?_
  refine g_iconst (Y := Y_L_law) (pc' := 502) dL_law_501 rfl ?_
  refine g_iadd (Y := Y_L_law) (pc' := 503) dL_law_502 rfl ?_
  refine g_xld (pc' := 504) dL_law_503 rfl ⟨by omega, by omega⟩ hLn ?_
  refine g_callVv (Y := Y_L_law) (c := 5) (k := 110) (s_X5_tidy hmb hmv (xs (i + 1).toNat).toInt (i32rg _)) (pc' := 507) dL_law_504 rfl cv_W_99 (q_fit_mk (Nat.le_of_ble_eq_true rfl) (Nat.le_of_ble_eq_true rfl) hkc hks) h110 (by show (110 : Nat) < 125; decide) ⟨by decide, _, rfl, rfl⟩ rfl rfl rfl rfl ?_
  generalize y_tidy I (xs (i + 1).toNat).toInt = r at e0 e1 hq ⊢
  refine g_istore6 (Y := Y_L_law) (pc' := 509) dL_law_507 rfl (Nat.le_of_ble_eq_true rfl) rfl ?_
  refine g_aload2 (Y := Y_L_law) (pc' := 510) dL_law_509 rfl ?_
  refine g_callVv (Y := Y_L_law) (c := 5) (k := 110) (s_X5_thrown hmb) (pc' := 513) dL_law_510 rfl cv_W_80 (q_fit_mk (Nat.le_of_ble_eq_true rfl) (Nat.le_of_ble_eq_true rfl) hkc hks) h110 (by show (110 : Nat) < 125; decide) ⟨by decide, _, rfl, rfl⟩ rfl rfl rfl rfl ?_
  refine g_iload5 (Y := Y_L_law) (pc' := 515) dL_law_513 rfl ?_
  refine g_icmp_eq (Y := Y_L_law) (t := 520) (pc' := 518) dL_law_515 (by decide) rfl ⟨by omega, by omega⟩ ⟨by omega, by omega⟩ (fun h9 => ?_) (fun h9 => absurd e0 h9)
  refine g_iload5 (Y := Y_L_law) (pc' := 522) dL_law_520 rfl ?_
  refine g_if_ne (Y := Y_L_law) (t := 537) (pc' := 525) dL_law_522 (by decide) rfl ⟨by omega, by omega⟩ (fun h8 => ?_) (fun h8 => ?_)
  · refine g_goto (Y := Y_L_law) (t := 1323) dL_law_537 (by decide) ?_
    exact hn _ _ _ _ _ _ _ _ _ hq (Nat.le_refl _) (Nat.le_refl _)
  · refine g_aload3 (Y := Y_L_law) (pc' := 526) dL_law_525 rfl ?_
    refine g_iconst (Y := Y_L_law) (pc' := 527) dL_law_526 rfl ?_
    refine g_lald (Y := Y_L_law) (pc' := 528) dL_law_527 rfl h124 (by decide) (by decide) ⟨by decide, by decide⟩ ?_
    refine g_iload6 (Y := Y_L_law) (pc' := 530) dL_law_528 rfl ?_
    refine g_i2l (Y := Y_L_law) (pc' := 531) dL_law_530 rfl ?_
    refine g_lcmp (Y := Y_L_law) (v := 0) (pc' := 532) dL_law_531 rfl (by rw [show J 124 (0 : Int).toNat = _ from e1 h8]; exact lcmp_eq _) ?_
    refine g_if_eq (Y := Y_L_law) (t := 537) (pc' := 535) dL_law_532 (by decide) rfl ⟨by decide, by decide⟩ (fun _ => ?_) (fun h7 => absurd rfl h7)
    refine g_goto (Y := Y_L_law) (t := 1323) dL_law_537 (by decide) ?_
    exact hn _ _ _ _ _ _ _ _ _ hq (Nat.le_refl _) (Nat.le_refl _)
set_option maxHeartbeats 2000000 in
set_option maxRecDepth 100000 in
theorem lc_5 {l : Launch} {E : QE} {T : Nat → Nat × Nat} {b Ln : Nat} {xs : Nat → Int32} {i : Int} {kc ks : Nat} (hl9 : l.stackTraces = false) (hi : 0 ≤ i ∧ i + 4 ≤ (Ln : Int)) (hLn : Ln ≤ 2048) (hkc : kc + 1 ≤ 601024) (hks : ks + 6 ≤ 7293034) (hn : NXT l E T b Ln xs i (kc + 1) (ks + 6)) {I : Nat → Nat → Int} {J : Nat → Nat → Int64} {R : Nat → Nat → Option Nat} {x5 x6 x7 x8 : Option Value} (hq : QR T I R) : GoT l E Y_L_law kc ks 484 [some (.ref b), some (.ref (E.1 + 0)), some (.ref (E.1 + 110)), some (.ref (E.1 + 124)), some (.int (iz i)), x5, x6, x7, x8] [] (T, I, J, R, 125, 0) (TgW E b Ln xs) := by
  refine g_aload1 (Y := Y_L_law) (pc' := 485) dL_law_484 rfl ?_
  refine g_aload0 (Y := Y_L_law) (pc' := 486) dL_law_485 rfl ?_
  refine g_iload4 (Y := Y_L_law) (pc' := 488) dL_law_486 rfl ?_
  refine g_iconst (Y := Y_L_law) (pc' := 489) dL_law_488 rfl ?_
  refine g_iadd (Y := Y_L_law) (pc' := 490) dL_law_489 rfl ?_
  refine g_xld (pc' := 491) dL_law_490 rfl ⟨by omega, by omega⟩ hLn ?_
  refine g_aload3 (Y := Y_L_law) (pc' := 492) dL_law_491 rfl ?_
  refine g_callL (s_L_tidy hl9 hq.1 hq.2.2.2.1 hq.2.2.1 (xs (i + 1).toNat).toInt (i32rg _)) (pc' := 495) dL_law_492 rfl cv_W_97 (q_fit_mk (Nat.le_of_ble_eq_true rfl) (Nat.le_of_ble_eq_true rfl) hkc hks) rfl rfl rfl (fun r w1 hr => ?_)
  have hm := ml_tidy (J := J) hq (xs (i + 1).toNat).toInt (i32rg _)
  rcases hr with ⟨hx, rfl, rfl⟩ | ⟨hx, rfl, rfl⟩
  · exact lt_tidy (kc := kc + 1) (ks := ks + 6) hi hLn hkc hks hn (by decide) (hm.1 hx)
  · exact lt_tidy (kc := kc + 1) (ks := ks + 6) hi hLn hkc hks hn (by decide) (hm.2 hx)
set_option maxHeartbeats 2000000 in
set_option maxRecDepth 100000 in
theorem lt_set {l : Launch} {E : QE} {T : Nat → Nat × Nat} {b Ln : Nat} {xs : Nat → Int32} {i : Int} {kc ks : Nat} (hi : 0 ≤ i ∧ i + 4 ≤ (Ln : Int)) (hLn : Ln ≤ 2048) (hkc : kc ≤ 601024) (hks : ks ≤ 7293034) (hn : NXT l E T b Ln xs i kc ks) {c : Int} (hc : 0 ≤ c ∧ c ≤ 3) {I : Nat → Nat → Int} {J : Nat → Nat → Int64} {R : Nat → Nat → Option Nat} {x5 x6 x7 x8 : Option Value} (hr : RLx T c I (fun I9 => y_set I9 (xs (i + 1).toNat).toInt (xs (i + 2).toNat).toInt) J R) : GoT l E Y_L_law kc ks 557 [some (.ref b), some (.ref (E.1 + 0)), some (.ref (E.1 + 110)), some (.ref (E.1 + 124)), some (.int (iz i)), x5, x6, x7, x8] [.int (iz c)] (T, I, J, R, 125, 0) (TgW E b Ln xs) := by
  have hmv : MV I := hr.1
  have hmb : MdB T R 125 := hr.2.1
  have h110 : T 110 = (5, 0) := hmb.1
  have h124 : T 124 = (10, 1) := hr.2.2.2.2.2.2.1
  have e0 : (y_set I (xs (i + 1).toNat).toInt (xs (i + 2).toNat).toInt).2 110 0 = c := hr.2.2.1
  have e1 : c = 0 → J 124 0 = (iz (y_set I (xs (i + 1).toNat).toInt (xs (i + 2).toNat).toInt).1).toInt64 := hr.2.2.2.1
  have hq : QR T (y_set I (xs (i + 1).toNat).toInt (xs (i + 2).toNat).toInt).2 R := hr.2.2.2.2
  clear hr
  refine g_istore5 (Y := Y_L_law) (pc' := 559) dL_law_557 rfl (Nat.le_of_ble_eq_true rfl) rfl ?_
  refine g_aload2 (Y := Y_L_law) (pc' := 560) dL_law_559 rfl ?_
  refine g_aload0 (Y := Y_L_law) (pc' := 561) dL_law_560 rfl ?_
  refine g_iload4 (Y := Y_L_law) (pc' := 563) dL_law_561 rfl ?_
  refine g_iconst (Y := Y_L_law) (pc' := 564) dL_law_563 rfl ?_
  refine g_iadd (Y := Y_L_law) (pc' := 565) dL_law_564 rfl ?_
  refine g_xld (pc' := 566) dL_law_565 rfl ⟨by omega, by omega⟩ hLn ?_
  refine g_aload0 (Y := Y_L_law) (pc' := 567) dL_law_566 rfl ?_
  refine g_iload4 (Y := Y_L_law) (pc' := 569) dL_law_567 rfl ?_
  refine g_iconst (Y := Y_L_law) (pc' := 570) dL_law_569 rfl ?_
  refine g_iadd (Y := Y_L_law) (pc' := 571) dL_law_570 rfl ?_
  refine g_xld (pc' := 572) dL_law_571 rfl ⟨by omega, by omega⟩ hLn ?_
  refine g_callVv (Y := Y_L_law) (c := 5) (k := 110) (s_X5_set hmb hmv (xs (i + 1).toNat).toInt (i32rg _) (xs (i + 2).toNat).toInt (i32rg _)) (pc' := 575) dL_law_572 rfl cv_W_102 (q_fit_mk (Nat.le_of_ble_eq_true rfl) (Nat.le_of_ble_eq_true rfl) hkc hks) h110 (by show (110 : Nat) < 125; decide) ⟨by decide, _, rfl, rfl⟩ rfl rfl rfl rfl ?_
  generalize y_set I (xs (i + 1).toNat).toInt (xs (i + 2).toNat).toInt = r at e0 e1 hq ⊢
  refine g_istore6 (Y := Y_L_law) (pc' := 577) dL_law_575 rfl (Nat.le_of_ble_eq_true rfl) rfl ?_
  refine g_aload2 (Y := Y_L_law) (pc' := 578) dL_law_577 rfl ?_
  refine g_callVv (Y := Y_L_law) (c := 5) (k := 110) (s_X5_thrown hmb) (pc' := 581) dL_law_578 rfl cv_W_80 (q_fit_mk (Nat.le_of_ble_eq_true rfl) (Nat.le_of_ble_eq_true rfl) hkc hks) h110 (by show (110 : Nat) < 125; decide) ⟨by decide, _, rfl, rfl⟩ rfl rfl rfl rfl ?_
  refine g_iload5 (Y := Y_L_law) (pc' := 583) dL_law_581 rfl ?_
  refine g_icmp_eq (Y := Y_L_law) (t := 588) (pc' := 586) dL_law_583 (by decide) rfl ⟨by omega, by omega⟩ ⟨by omega, by omega⟩ (fun h9 => ?_) (fun h9 => absurd e0 h9)
  refine g_iload5 (Y := Y_L_law) (pc' := 590) dL_law_588 rfl ?_
  refine g_if_ne (Y := Y_L_law) (t := 605) (pc' := 593) dL_law_590 (by decide) rfl ⟨by omega, by omega⟩ (fun h8 => ?_) (fun h8 => ?_)
  · refine g_goto (Y := Y_L_law) (t := 1323) dL_law_605 (by decide) ?_
    exact hn _ _ _ _ _ _ _ _ _ hq (Nat.le_refl _) (Nat.le_refl _)
  · refine g_aload3 (Y := Y_L_law) (pc' := 594) dL_law_593 rfl ?_
    refine g_iconst (Y := Y_L_law) (pc' := 595) dL_law_594 rfl ?_
    refine g_lald (Y := Y_L_law) (pc' := 596) dL_law_595 rfl h124 (by decide) (by decide) ⟨by decide, by decide⟩ ?_
    refine g_iload6 (Y := Y_L_law) (pc' := 598) dL_law_596 rfl ?_
    refine g_i2l (Y := Y_L_law) (pc' := 599) dL_law_598 rfl ?_
    refine g_lcmp (Y := Y_L_law) (v := 0) (pc' := 600) dL_law_599 rfl (by rw [show J 124 (0 : Int).toNat = _ from e1 h8]; exact lcmp_eq _) ?_
    refine g_if_eq (Y := Y_L_law) (t := 605) (pc' := 603) dL_law_600 (by decide) rfl ⟨by decide, by decide⟩ (fun _ => ?_) (fun h7 => absurd rfl h7)
    refine g_goto (Y := Y_L_law) (t := 1323) dL_law_605 (by decide) ?_
    exact hn _ _ _ _ _ _ _ _ _ hq (Nat.le_refl _) (Nat.le_refl _)
set_option maxHeartbeats 2000000 in
set_option maxRecDepth 100000 in
theorem lc_6 {l : Launch} {E : QE} {T : Nat → Nat × Nat} {b Ln : Nat} {xs : Nat → Int32} {i : Int} {kc ks : Nat} (hl9 : l.stackTraces = false) (hi : 0 ≤ i ∧ i + 4 ≤ (Ln : Int)) (hLn : Ln ≤ 2048) (hkc : kc + 1 ≤ 601024) (hks : ks + 6 ≤ 7293034) (hn : NXT l E T b Ln xs i (kc + 1) (ks + 6)) {I : Nat → Nat → Int} {J : Nat → Nat → Int64} {R : Nat → Nat → Option Nat} {x5 x6 x7 x8 : Option Value} (hq : QR T I R) : GoT l E Y_L_law kc ks 540 [some (.ref b), some (.ref (E.1 + 0)), some (.ref (E.1 + 110)), some (.ref (E.1 + 124)), some (.int (iz i)), x5, x6, x7, x8] [] (T, I, J, R, 125, 0) (TgW E b Ln xs) := by
  refine g_aload1 (Y := Y_L_law) (pc' := 541) dL_law_540 rfl ?_
  refine g_aload0 (Y := Y_L_law) (pc' := 542) dL_law_541 rfl ?_
  refine g_iload4 (Y := Y_L_law) (pc' := 544) dL_law_542 rfl ?_
  refine g_iconst (Y := Y_L_law) (pc' := 545) dL_law_544 rfl ?_
  refine g_iadd (Y := Y_L_law) (pc' := 546) dL_law_545 rfl ?_
  refine g_xld (pc' := 547) dL_law_546 rfl ⟨by omega, by omega⟩ hLn ?_
  refine g_aload0 (Y := Y_L_law) (pc' := 548) dL_law_547 rfl ?_
  refine g_iload4 (Y := Y_L_law) (pc' := 550) dL_law_548 rfl ?_
  refine g_iconst (Y := Y_L_law) (pc' := 551) dL_law_550 rfl ?_
  refine g_iadd (Y := Y_L_law) (pc' := 552) dL_law_551 rfl ?_
  refine g_xld (pc' := 553) dL_law_552 rfl ⟨by omega, by omega⟩ hLn ?_
  refine g_aload3 (Y := Y_L_law) (pc' := 554) dL_law_553 rfl ?_
  refine g_callL (s_L_set hl9 hq.1 hq.2.2.2.1 hq.2.2.1 (xs (i + 1).toNat).toInt (i32rg _) (xs (i + 2).toNat).toInt (i32rg _)) (pc' := 557) dL_law_554 rfl cv_W_100 (q_fit_mk (Nat.le_of_ble_eq_true rfl) (Nat.le_of_ble_eq_true rfl) hkc hks) rfl rfl rfl (fun r w1 hr => ?_)
  have hm := ml_set (J := J) hq (xs (i + 1).toNat).toInt (i32rg _) (xs (i + 2).toNat).toInt (i32rg _)
  rcases hr with ⟨hx, rfl, rfl⟩ | ⟨hx, rfl, rfl⟩ | ⟨hx, rfl, rfl⟩
  · exact lt_set (kc := kc + 1) (ks := ks + 6) hi hLn hkc hks hn (by decide) (hm.1 hx)
  · exact lt_set (kc := kc + 1) (ks := ks + 6) hi hLn hkc hks hn (by decide) (hm.2.1 hx)
  · exact lt_set (kc := kc + 1) (ks := ks + 6) hi hLn hkc hks hn (by decide) (hm.2.2 hx)
end
