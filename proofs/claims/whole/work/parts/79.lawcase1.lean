set_option maxHeartbeats 4000000 in
set_option maxRecDepth 100000 in
theorem law_worth {G : GJ} {kc ks : Nat} {b0 L : Nat} {xs : Nat → Int32} {a b : Nat → Nat} {Z K R YT U : YS} {C : Int → Int64} {J : Nat → Int} {i : Nat} {rt : Option FieldType} (hG : Cx G cL_law 4 rt RL wsL_law 12) (hX : Scr G b0 L xs) (hf0 : kc ≤ (g_R G).cells ∧ ks ≤ (g_R G).slots) (hT : TI (Z, K, R, C)) (hi : (i : Int) + 6 ≤ L) (K9 : ∀ (T2 : TS) (YT2 : YS) (J2 : Nat → Int) (U2 : YS), TI T2 → V G kc ks (LW G a b T2 YT2 J2 U2) 1382 (LV b0 a b i) []) : V G kc ks (bw (g_D G) a Z K R C YT J ++ mw (g_D G) b Z K U R C) 425 (LV b0 a b i) [] := by
  refine r_aload_n (i := 1) hG dL_law_425 rfl rfl ?_
  refine r_aload_n (i := 0) hG dL_law_426 rfl rfl ?_
  refine r_iload_n (i := 3) hG dL_law_427 rfl rfl ?_
  refine r_iconst hG dL_law_428 ?_
  refine r_iadd hG dL_law_429 ?_
  refine r_sld hG hX (by omega) dL_law_430 ?_
  refine r_aload_n (i := 0) hG dL_law_431 rfl rfl ?_
  refine r_iload_n (i := 3) hG dL_law_432 rfl rfl ?_
  refine r_iconst hG dL_law_433 ?_
  refine r_iadd hG dL_law_434 ?_
  refine r_sld hG hX (by omega) dL_law_435 ?_
  refine r_midi hG (c_X6_worth (g_l G) (g_D G) a Z K R C YT J hT (ar xs i 1) (ar xs i 2) (iI_rng _) (iI_rng _)) [] (mw (g_D G) b Z K U R C) rfl gL_law_X6_worth rfl hyX6_worth rfl (by decide) (by decide) 0 rfl rfl rfl (Nat.le_of_ble_eq_true rfl) hf0 dL_law_436 ?_
  rintro w ⟨Y2, J2, rfl⟩
  refine V_ws (ws' := bwT (g_D G) a (s_worth (Z, K, R, C) (ar xs i 1) (ar xs i 2)).2 Y2 J2 ++ mw (g_D G) b Z K U R C) rfl ?_
  refine r_aload_n (i := 2) hG dL_law_439 rfl rfl ?_
  refine r_aload_n (i := 0) hG dL_law_440 rfl rfl ?_
  refine r_iload_n (i := 3) hG dL_law_441 rfl rfl ?_
  refine r_iconst hG dL_law_442 ?_
  refine r_iadd hG dL_law_443 ?_
  refine r_sld hG hX (by omega) dL_law_444 ?_
  refine r_aload_n (i := 0) hG dL_law_445 rfl rfl ?_
  refine r_iload_n (i := 3) hG dL_law_446 rfl rfl ?_
  refine r_iconst hG dL_law_447 ?_
  refine r_iadd hG dL_law_448 ?_
  refine r_sld hG hX (by omega) dL_law_449 ?_
  refine r_midi hG (c_X7_worth (g_l G) (g_D G) b Z K U R C hT (ar xs i 1) (ar xs i 2) (iI_rng _) (iI_rng _)) (bwT (g_D G) a (s_worth (Z, K, R, C) (ar xs i 1) (ar xs i 2)).2 Y2 J2) [] rfl gL_law_X7_worth rfl hyX7_worth rfl (by decide) (by decide) 0 rfl rfl rfl (Nat.le_of_ble_eq_true rfl) hf0 dL_law_450 ?_
  rintro w ⟨U2, rfl⟩
  refine V_ws (ws' := LW G a b (s_worth (Z, K, R, C) (ar xs i 1) (ar xs i 2)).2 Y2 J2 U2) rfl ?_
  refine rr_icmp_eq (tgt := 1382) hG dL_law_453 (by decide) (fun c453 => ?_) (fun c453 => ?_)
  · exact K9 _ Y2 J2 U2 (ti_worth hT (ar xs i 1) (ar xs i 2))
  · exact absurd rfl c453
set_option maxHeartbeats 4000000 in
set_option maxRecDepth 100000 in
theorem law_agrees {G : GJ} {kc ks : Nat} {b0 L : Nat} {xs : Nat → Int32} {a b : Nat → Nat} {Z K R YT U : YS} {C : Int → Int64} {J : Nat → Int} {i : Nat} {rt : Option FieldType} (hG : Cx G cL_law 4 rt RL wsL_law 12) (hX : Scr G b0 L xs) (hf0 : kc ≤ (g_R G).cells ∧ ks ≤ (g_R G).slots) (hT : TI (Z, K, R, C)) (hi : (i : Int) + 6 ≤ L) (K9 : ∀ (T2 : TS) (YT2 : YS) (J2 : Nat → Int) (U2 : YS), TI T2 → V G kc ks (LW G a b T2 YT2 J2 U2) 1382 (LV b0 a b i) []) : V G kc ks (bw (g_D G) a Z K R C YT J ++ mw (g_D G) b Z K U R C) 458 (LV b0 a b i) [] := by
  refine r_aload_n (i := 1) hG dL_law_458 rfl rfl ?_
  refine r_aload_n (i := 0) hG dL_law_459 rfl rfl ?_
  refine r_iload_n (i := 3) hG dL_law_460 rfl rfl ?_
  refine r_iconst hG dL_law_461 ?_
  refine r_iadd hG dL_law_462 ?_
  refine r_sld hG hX (by omega) dL_law_463 ?_
  refine r_aload_n (i := 0) hG dL_law_464 rfl rfl ?_
  refine r_iload_n (i := 3) hG dL_law_465 rfl rfl ?_
  refine r_iconst hG dL_law_466 ?_
  refine r_iadd hG dL_law_467 ?_
  refine r_sld hG hX (by omega) dL_law_468 ?_
  refine r_midi hG (c_X6_agrees (g_l G) (g_D G) a Z K R C YT J hT (ar xs i 1) (ar xs i 2) (iI_rng _) (iI_rng _)) [] (mw (g_D G) b Z K U R C) rfl gL_law_X6_agrees rfl hyX6_agrees rfl (by decide) (by decide) 0 rfl rfl rfl (Nat.le_of_ble_eq_true rfl) hf0 dL_law_469 ?_
  rintro w ⟨Y2, J2, rfl⟩
  refine V_ws (ws' := bwT (g_D G) a (s_agrees (Z, K, R, C) (ar xs i 1) (ar xs i 2)).2 Y2 J2 ++ mw (g_D G) b Z K U R C) rfl ?_
  refine r_aload_n (i := 2) hG dL_law_472 rfl rfl ?_
  refine r_aload_n (i := 0) hG dL_law_473 rfl rfl ?_
  refine r_iload_n (i := 3) hG dL_law_474 rfl rfl ?_
  refine r_iconst hG dL_law_475 ?_
  refine r_iadd hG dL_law_476 ?_
  refine r_sld hG hX (by omega) dL_law_477 ?_
  refine r_aload_n (i := 0) hG dL_law_478 rfl rfl ?_
  refine r_iload_n (i := 3) hG dL_law_479 rfl rfl ?_
  refine r_iconst hG dL_law_480 ?_
  refine r_iadd hG dL_law_481 ?_
  refine r_sld hG hX (by omega) dL_law_482 ?_
  refine r_midi hG (c_X7_agrees (g_l G) (g_D G) b Z K U R C hT (ar xs i 1) (ar xs i 2) (iI_rng _) (iI_rng _)) (bwT (g_D G) a (s_agrees (Z, K, R, C) (ar xs i 1) (ar xs i 2)).2 Y2 J2) [] rfl gL_law_X7_agrees rfl hyX7_agrees rfl (by decide) (by decide) 0 rfl rfl rfl (Nat.le_of_ble_eq_true rfl) hf0 dL_law_483 ?_
  rintro w ⟨U2, rfl⟩
  refine V_ws (ws' := LW G a b (s_agrees (Z, K, R, C) (ar xs i 1) (ar xs i 2)).2 Y2 J2 U2) rfl ?_
  refine rr_icmp_eq (tgt := 1382) hG dL_law_486 (by decide) (fun c486 => ?_) (fun c486 => ?_)
  · exact K9 _ Y2 J2 U2 (ti_agrees hT (ar xs i 1) (ar xs i 2))
  · exact absurd rfl c486
set_option maxHeartbeats 4000000 in
set_option maxRecDepth 100000 in
theorem law_turn {G : GJ} {kc ks : Nat} {b0 L : Nat} {xs : Nat → Int32} {a b : Nat → Nat} {Z K R YT U : YS} {C : Int → Int64} {J : Nat → Int} {i : Nat} {rt : Option FieldType} (hG : Cx G cL_law 4 rt RL wsL_law 12) (hX : Scr G b0 L xs) (hf0 : kc ≤ (g_R G).cells ∧ ks ≤ (g_R G).slots) (hT : TI (Z, K, R, C)) (hi : (i : Int) + 6 ≤ L) (K9 : ∀ (T2 : TS) (YT2 : YS) (J2 : Nat → Int) (U2 : YS), TI T2 → V G kc ks (LW G a b T2 YT2 J2 U2) 1382 (LV b0 a b i) []) : V G kc ks (bw (g_D G) a Z K R C YT J ++ mw (g_D G) b Z K U R C) 491 (LV b0 a b i) [] := by
  refine r_aload_n (i := 1) hG dL_law_491 rfl rfl ?_
  refine r_aload_n (i := 0) hG dL_law_492 rfl rfl ?_
  refine r_iload_n (i := 3) hG dL_law_493 rfl rfl ?_
  refine r_iconst hG dL_law_494 ?_
  refine r_iadd hG dL_law_495 ?_
  refine r_sld hG hX (by omega) dL_law_496 ?_
  refine r_aload_n (i := 0) hG dL_law_497 rfl rfl ?_
  refine r_iload_n (i := 3) hG dL_law_498 rfl rfl ?_
  refine r_iconst hG dL_law_499 ?_
  refine r_iadd hG dL_law_500 ?_
  refine r_sld hG hX (by omega) dL_law_501 ?_
  refine r_midi hG (c_X6_turn (g_l G) (g_D G) a Z K R C YT J hT (ar xs i 1) (ar xs i 2) (iI_rng _) (iI_rng _)) [] (mw (g_D G) b Z K U R C) rfl gL_law_X6_turn rfl hyX6_turn rfl (by decide) (by decide) 0 rfl rfl rfl (Nat.le_of_ble_eq_true rfl) hf0 dL_law_502 ?_
  rintro w ⟨Y2, J2, rfl⟩
  refine V_ws (ws' := bwT (g_D G) a (s_turn (Z, K, R, C) (ar xs i 1) (ar xs i 2)).2 Y2 J2 ++ mw (g_D G) b Z K U R C) rfl ?_
  refine r_aload_n (i := 2) hG dL_law_505 rfl rfl ?_
  refine r_aload_n (i := 0) hG dL_law_506 rfl rfl ?_
  refine r_iload_n (i := 3) hG dL_law_507 rfl rfl ?_
  refine r_iconst hG dL_law_508 ?_
  refine r_iadd hG dL_law_509 ?_
  refine r_sld hG hX (by omega) dL_law_510 ?_
  refine r_aload_n (i := 0) hG dL_law_511 rfl rfl ?_
  refine r_iload_n (i := 3) hG dL_law_512 rfl rfl ?_
  refine r_iconst hG dL_law_513 ?_
  refine r_iadd hG dL_law_514 ?_
  refine r_sld hG hX (by omega) dL_law_515 ?_
  refine r_midi hG (c_X7_turn (g_l G) (g_D G) b Z K U R C hT (ar xs i 1) (ar xs i 2) (iI_rng _) (iI_rng _)) (bwT (g_D G) a (s_turn (Z, K, R, C) (ar xs i 1) (ar xs i 2)).2 Y2 J2) [] rfl gL_law_X7_turn rfl hyX7_turn rfl (by decide) (by decide) 0 rfl rfl rfl (Nat.le_of_ble_eq_true rfl) hf0 dL_law_516 ?_
  rintro w ⟨U2, rfl⟩
  refine V_ws (ws' := LW G a b (s_turn (Z, K, R, C) (ar xs i 1) (ar xs i 2)).2 Y2 J2 U2) rfl ?_
  refine rr_icmp_eq (tgt := 1382) hG dL_law_519 (by decide) (fun c519 => ?_) (fun c519 => ?_)
  · exact K9 _ Y2 J2 U2 (ti_turn hT (ar xs i 1) (ar xs i 2))
  · exact absurd rfl c519
set_option maxHeartbeats 4000000 in
set_option maxRecDepth 100000 in
theorem law_as {G : GJ} {kc ks : Nat} {b0 L : Nat} {xs : Nat → Int32} {a b : Nat → Nat} {Z K R YT U : YS} {C : Int → Int64} {J : Nat → Int} {i : Nat} {rt : Option FieldType} (hG : Cx G cL_law 4 rt RL wsL_law 12) (hX : Scr G b0 L xs) (hf0 : kc ≤ (g_R G).cells ∧ ks ≤ (g_R G).slots) (hT : TI (Z, K, R, C)) (hi : (i : Int) + 6 ≤ L) (K9 : ∀ (T2 : TS) (YT2 : YS) (J2 : Nat → Int) (U2 : YS), TI T2 → V G kc ks (LW G a b T2 YT2 J2 U2) 1382 (LV b0 a b i) []) : V G kc ks (bw (g_D G) a Z K R C YT J ++ mw (g_D G) b Z K U R C) 524 (LV b0 a b i) [] := by
  refine r_aload_n (i := 1) hG dL_law_524 rfl rfl ?_
  refine r_aload_n (i := 0) hG dL_law_525 rfl rfl ?_
  refine r_iload_n (i := 3) hG dL_law_526 rfl rfl ?_
  refine r_iconst hG dL_law_527 ?_
  refine r_iadd hG dL_law_528 ?_
  refine r_sld hG hX (by omega) dL_law_529 ?_
  refine r_aload_n (i := 0) hG dL_law_530 rfl rfl ?_
  refine r_iload_n (i := 3) hG dL_law_531 rfl rfl ?_
  refine r_iconst hG dL_law_532 ?_
  refine r_iadd hG dL_law_533 ?_
  refine r_sld hG hX (by omega) dL_law_534 ?_
  refine r_midi hG (c_X6_as (g_l G) (g_D G) a Z K R C YT J hT (ar xs i 1) (ar xs i 2) (iI_rng _) (iI_rng _)) [] (mw (g_D G) b Z K U R C) rfl gL_law_X6_as rfl hyX6_as rfl (by decide) (by decide) 0 rfl rfl rfl (Nat.le_of_ble_eq_true rfl) hf0 dL_law_535 ?_
  rintro w ⟨Y2, J2, rfl⟩
  refine V_ws (ws' := bwT (g_D G) a (s_as (Z, K, R, C) (ar xs i 1) (ar xs i 2)).2 Y2 J2 ++ mw (g_D G) b Z K U R C) rfl ?_
  refine r_aload_n (i := 2) hG dL_law_538 rfl rfl ?_
  refine r_aload_n (i := 0) hG dL_law_539 rfl rfl ?_
  refine r_iload_n (i := 3) hG dL_law_540 rfl rfl ?_
  refine r_iconst hG dL_law_541 ?_
  refine r_iadd hG dL_law_542 ?_
  refine r_sld hG hX (by omega) dL_law_543 ?_
  refine r_aload_n (i := 0) hG dL_law_544 rfl rfl ?_
  refine r_iload_n (i := 3) hG dL_law_545 rfl rfl ?_
  refine r_iconst hG dL_law_546 ?_
  refine r_iadd hG dL_law_547 ?_
  refine r_sld hG hX (by omega) dL_law_548 ?_
  refine r_midi hG (c_X7_as (g_l G) (g_D G) b Z K U R C hT (ar xs i 1) (ar xs i 2) (iI_rng _) (iI_rng _)) (bwT (g_D G) a (s_as (Z, K, R, C) (ar xs i 1) (ar xs i 2)).2 Y2 J2) [] rfl gL_law_X7_as rfl hyX7_as rfl (by decide) (by decide) 0 rfl rfl rfl (Nat.le_of_ble_eq_true rfl) hf0 dL_law_549 ?_
  rintro w ⟨U2, rfl⟩
  refine V_ws (ws' := LW G a b (s_as (Z, K, R, C) (ar xs i 1) (ar xs i 2)).2 Y2 J2 U2) rfl ?_
  refine rr_icmp_eq (tgt := 1382) hG dL_law_552 (by decide) (fun c552 => ?_) (fun c552 => ?_)
  · exact K9 _ Y2 J2 U2 (ti_as hT (ar xs i 1) (ar xs i 2))
  · exact absurd rfl c552
set_option maxHeartbeats 4000000 in
set_option maxRecDepth 100000 in
theorem law_swap {G : GJ} {kc ks : Nat} {b0 L : Nat} {xs : Nat → Int32} {a b : Nat → Nat} {Z K R YT U : YS} {C : Int → Int64} {J : Nat → Int} {i : Nat} {rt : Option FieldType} (hG : Cx G cL_law 4 rt RL wsL_law 12) (hX : Scr G b0 L xs) (hf0 : kc ≤ (g_R G).cells ∧ ks ≤ (g_R G).slots) (hT : TI (Z, K, R, C)) (hi : (i : Int) + 6 ≤ L) (K9 : ∀ (T2 : TS) (YT2 : YS) (J2 : Nat → Int) (U2 : YS), TI T2 → V G kc ks (LW G a b T2 YT2 J2 U2) 1382 (LV b0 a b i) []) : V G kc ks (bw (g_D G) a Z K R C YT J ++ mw (g_D G) b Z K U R C) 557 (LV b0 a b i) [] := by
  refine r_aload_n (i := 1) hG dL_law_557 rfl rfl ?_
  refine r_aload_n (i := 0) hG dL_law_558 rfl rfl ?_
  refine r_iload_n (i := 3) hG dL_law_559 rfl rfl ?_
  refine r_iconst hG dL_law_560 ?_
  refine r_iadd hG dL_law_561 ?_
  refine r_sld hG hX (by omega) dL_law_562 ?_
  refine r_aload_n (i := 0) hG dL_law_563 rfl rfl ?_
  refine r_iload_n (i := 3) hG dL_law_564 rfl rfl ?_
  refine r_iconst hG dL_law_565 ?_
  refine r_iadd hG dL_law_566 ?_
  refine r_sld hG hX (by omega) dL_law_567 ?_
  refine r_midi hG (c_X6_swap (g_l G) (g_D G) a Z K R C YT J hT (ar xs i 1) (ar xs i 2) (iI_rng _) (iI_rng _)) [] (mw (g_D G) b Z K U R C) rfl gL_law_X6_swap rfl hyX6_swap rfl (by decide) (by decide) 0 rfl rfl rfl (Nat.le_of_ble_eq_true rfl) hf0 dL_law_568 ?_
  rintro w ⟨Y2, J2, rfl⟩
  refine V_ws (ws' := bwT (g_D G) a (s_swap (Z, K, R, C) (ar xs i 1) (ar xs i 2)).2 Y2 J2 ++ mw (g_D G) b Z K U R C) rfl ?_
  refine r_aload_n (i := 2) hG dL_law_571 rfl rfl ?_
  refine r_aload_n (i := 0) hG dL_law_572 rfl rfl ?_
  refine r_iload_n (i := 3) hG dL_law_573 rfl rfl ?_
  refine r_iconst hG dL_law_574 ?_
  refine r_iadd hG dL_law_575 ?_
  refine r_sld hG hX (by omega) dL_law_576 ?_
  refine r_aload_n (i := 0) hG dL_law_577 rfl rfl ?_
  refine r_iload_n (i := 3) hG dL_law_578 rfl rfl ?_
  refine r_iconst hG dL_law_579 ?_
  refine r_iadd hG dL_law_580 ?_
  refine r_sld hG hX (by omega) dL_law_581 ?_
  refine r_midi hG (c_X7_swap (g_l G) (g_D G) b Z K U R C hT (ar xs i 1) (ar xs i 2) (iI_rng _) (iI_rng _)) (bwT (g_D G) a (s_swap (Z, K, R, C) (ar xs i 1) (ar xs i 2)).2 Y2 J2) [] rfl gL_law_X7_swap rfl hyX7_swap rfl (by decide) (by decide) 0 rfl rfl rfl (Nat.le_of_ble_eq_true rfl) hf0 dL_law_582 ?_
  rintro w ⟨U2, rfl⟩
  refine V_ws (ws' := LW G a b (s_swap (Z, K, R, C) (ar xs i 1) (ar xs i 2)).2 Y2 J2 U2) rfl ?_
  refine rr_icmp_eq (tgt := 1382) hG dL_law_585 (by decide) (fun c585 => ?_) (fun c585 => ?_)
  · exact K9 _ Y2 J2 U2 (ti_swap hT (ar xs i 1) (ar xs i 2))
  · exact absurd rfl c585
set_option maxHeartbeats 4000000 in
set_option maxRecDepth 100000 in
theorem law_mates {G : GJ} {kc ks : Nat} {b0 L : Nat} {xs : Nat → Int32} {a b : Nat → Nat} {Z K R YT U : YS} {C : Int → Int64} {J : Nat → Int} {i : Nat} {rt : Option FieldType} (hG : Cx G cL_law 4 rt RL wsL_law 12) (hX : Scr G b0 L xs) (hf0 : kc ≤ (g_R G).cells ∧ ks ≤ (g_R G).slots) (hT : TI (Z, K, R, C)) (hi : (i : Int) + 6 ≤ L) (K9 : ∀ (T2 : TS) (YT2 : YS) (J2 : Nat → Int) (U2 : YS), TI T2 → V G kc ks (LW G a b T2 YT2 J2 U2) 1382 (LV b0 a b i) []) : V G kc ks (bw (g_D G) a Z K R C YT J ++ mw (g_D G) b Z K U R C) 590 (LV b0 a b i) [] := by
  refine r_aload_n (i := 1) hG dL_law_590 rfl rfl ?_
  refine r_aload_n (i := 0) hG dL_law_591 rfl rfl ?_
  refine r_iload_n (i := 3) hG dL_law_592 rfl rfl ?_
  refine r_iconst hG dL_law_593 ?_
  refine r_iadd hG dL_law_594 ?_
  refine r_sld hG hX (by omega) dL_law_595 ?_
  refine r_midi hG (c_X6_mates (g_l G) (g_D G) a Z K R C YT J hT (ar xs i 1) (iI_rng _)) [] (mw (g_D G) b Z K U R C) rfl gL_law_X6_mates rfl hyX6_mates rfl (by decide) (by decide) 0 rfl rfl rfl (Nat.le_of_ble_eq_true rfl) hf0 dL_law_596 ?_
  rintro w ⟨Y2, J2, rfl⟩
  refine V_ws (ws' := bwT (g_D G) a (s_mates (Z, K, R, C) (ar xs i 1)).2 Y2 J2 ++ mw (g_D G) b Z K U R C) rfl ?_
  refine r_aload_n (i := 2) hG dL_law_599 rfl rfl ?_
  refine r_aload_n (i := 0) hG dL_law_600 rfl rfl ?_
  refine r_iload_n (i := 3) hG dL_law_601 rfl rfl ?_
  refine r_iconst hG dL_law_602 ?_
  refine r_iadd hG dL_law_603 ?_
  refine r_sld hG hX (by omega) dL_law_604 ?_
  refine r_midi hG (c_X7_mates (g_l G) (g_D G) b Z K U R C hT (ar xs i 1) (iI_rng _)) (bwT (g_D G) a (s_mates (Z, K, R, C) (ar xs i 1)).2 Y2 J2) [] rfl gL_law_X7_mates rfl hyX7_mates rfl (by decide) (by decide) 0 rfl rfl rfl (Nat.le_of_ble_eq_true rfl) hf0 dL_law_605 ?_
  rintro w ⟨U2, rfl⟩
  refine V_ws (ws' := LW G a b (s_mates (Z, K, R, C) (ar xs i 1)).2 Y2 J2 U2) rfl ?_
  refine rr_icmp_eq (tgt := 1382) hG dL_law_608 (by decide) (fun c608 => ?_) (fun c608 => ?_)
  · exact K9 _ Y2 J2 U2 (ti_mates hT (ar xs i 1))
  · exact absurd rfl c608
