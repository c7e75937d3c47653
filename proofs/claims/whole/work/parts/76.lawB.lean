section LW9
variable {z : xk} {l : Launch} {D : va_G} {ca : Nat → ClassId} {ad : Nat → Nat} {V U : Nat → Nat} {sc : Nat → Int32} {ia : Nat → Nat → Int32} {la : Nat → Nat → Int64} {N0 : Nat} {sa : Nat → Nat} {b L it : Nat} {xs : Nat → Int32}
set_option maxHeartbeats 4000000 in
set_option maxRecDepth 100000 in
theorem lw_c5 (C : xC z cL_law RL 7) (F : xF z l room_1 D (xty ca)) (Y : xY0 z N0 sa) (S : xSc z b L xs) (hl : l.stackTraces = false) (hN0 : ∀ i, i < 187 → N0 ≤ ad i) (h : LIq V U sc ia la) (hit : 8 * it + 8 ≤ L) (hL : L ≤ 4096) (kk : ∀ V U sc ia la, LIq V U sc ia la → xK z (xw ad (cm ad ca (V, U, sc, ia, la)) 187) (187 + (it + 1)) (3613 + 6 * (it + 1)) 1586 [(4, .int (nI (8 * it))), (3, .ref (ad 186)), (2, .ref (ad 174)), (1, .ref (ad 0)), (0, .ref b)] []) : xK z (xw ad (cm ad ca (V, U, sc, ia, la)) 187) (187 + it) (3613 + 6 * it) 414 [(4, .int (nI (8 * it))), (3, .ref (ad 186)), (2, .ref (ad 174)), (1, .ref (ad 0)), (0, .ref b)] [] := by
  obtain ⟨hN, hF, hW, hU, hP, hO, hR, hS⟩ := h
  have hN9 := hN
  obtain ⟨T, hT, hM, hB⟩ := hN9
  have hcs : 187 + it ≤ room_1.cells ∧ 3613 + 6 * it ≤ room_1.slots := by show 187 + it ≤ 603072 ∧ 3613 + 6 * it ≤ 7215210; omega
  have hcs' : 187 + it + 1 ≤ room_1.cells ∧ 3613 + 6 * it + 6 ≤ room_1.slots := by show 187 + it + 1 ≤ 603072 ∧ 3613 + 6 * it + 6 ≤ 7215210; omega
  refine k_aload_n (pc := 414) C dL_law_414 rfl 3 rfl ?_
  refine k_arg (pc := 415) C S 1 4 0 rfl rfl (by omega) dL_law_415 dL_law_416 dL_law_418 (by decide) dL_law_419 dL_law_420 ?_
  refine k_arg (pc := 421) C S 2 4 0 rfl rfl (by omega) dL_law_421 dL_law_422 dL_law_424 (by decide) dL_law_425 dL_law_426 ?_
  refine k_arg (pc := 427) C S 3 4 0 rfl rfl (by omega) dL_law_427 dL_law_428 dL_law_430 (by decide) dL_law_431 dL_law_432 ?_
  refine k_i2l (pc := 433) C dL_law_433 rfl ?_
  refine k_bipush (pc := 434) (v := nI 32) C dL_law_434 (by decide) ?_
  refine k_lshl (pc := 436) C dL_law_436 rfl ?_
  refine k_arg (pc := 437) C S 4 4 0 rfl rfl (by omega) dL_law_437 dL_law_438 dL_law_440 (by decide) dL_law_441 dL_law_442 ?_
  refine k_i2l (pc := 443) C dL_law_443 rfl ?_
  refine k_ldc2 (pc := 444) C kc_L_33 dL_law_444 ?_
  refine k_land (pc := 447) C dL_law_447 ?_
  refine k_lor (pc := 448) C dL_law_448 ?_
  refine k_eql (y := LG (xs (8 * it + 3)) (xs (8 * it + 4))) rfl ?_
  refine k_arg (pc := 449) C S 5 4 0 rfl rfl (by omega) dL_law_449 dL_law_450 dL_law_452 (by decide) dL_law_453 dL_law_454 ?_
  refine k_i2l (pc := 455) C dL_law_455 rfl ?_
  refine k_bipush (pc := 456) (v := nI 32) C dL_law_456 (by decide) ?_
  refine k_lshl (pc := 458) C dL_law_458 rfl ?_
  refine k_argb (pc := 459) C S 6 4 0 rfl rfl (by omega) dL_law_459 dL_law_460 dL_law_462 (by decide) dL_law_464 dL_law_465 ?_
  refine k_i2l (pc := 466) C dL_law_466 rfl ?_
  refine k_ldc2 (pc := 467) C kc_L_33 dL_law_467 ?_
  refine k_land (pc := 470) C dL_law_470 ?_
  refine k_lor (pc := 471) C dL_law_471 ?_
  refine k_eql (y := LG (xs (8 * it + 5)) (xs (8 * it + 6))) rfl ?_
  refine k_argb (pc := 472) C S 7 4 0 rfl rfl (by omega) dL_law_472 dL_law_473 dL_law_475 (by decide) dL_law_477 dL_law_478 ?_
  refine k_aload_n (pc := 479) C dL_law_479 rfl 1 rfl ?_
  refine k_callSW (pc := 480) C F Y (sL_times hT hB hl hN0) wm_L_57 wst_yL_times thL_I thL_times thE_times (by decide) (by show 187 + it + 1 ≤ 603072 ∧ 3613 + 6 * it + 6 ≤ 7215210; omega) rfl (Nat.le_of_ble_eq_true rfl) dL_law_480 (fun r480 M480 h480 => ?_)
  obtain ⟨V1, h6, d6⟩ := h480
  obtain ⟨la1, rfl, L1, d6⟩ : ∃ la1, M480 = cm ad ca (V1, U, sc, ia, la1) ∧ (∀ j, j ≠ 186 → la1 j = la j) ∧ (((sTimes T (xs (8 * it + 1)) (xs (8 * it + 2)) (LG (xs (8 * it + 3)) (xs (8 * it + 4))) (LG (xs (8 * it + 5)) (xs (8 * it + 6))) (xs (8 * it + 7))).1 = -5 ∧ r480 = 1) ∨ (¬ (sTimes T (xs (8 * it + 1)) (xs (8 * it + 2)) (LG (xs (8 * it + 3)) (xs (8 * it + 4))) (LG (xs (8 * it + 5)) (xs (8 * it + 6))) (xs (8 * it + 7))).1 = -5 ∧ r480 = 0 ∧ la1 186 0 = (sTimes T (xs (8 * it + 1)) (xs (8 * it + 2)) (LG (xs (8 * it + 3)) (xs (8 * it + 4))) (LG (xs (8 * it + 5)) (xs (8 * it + 6))) (xs (8 * it + 7))).1.toInt64)) := by
    by_cases c5 : (sTimes T (xs (8 * it + 1)) (xs (8 * it + 2)) (LG (xs (8 * it + 3)) (xs (8 * it + 4))) (LG (xs (8 * it + 5)) (xs (8 * it + 6))) (xs (8 * it + 7))).1 = -5
    · rw [if_pos c5] at d6
      exact ⟨la, d6.2, fun _ _ => rfl, Or.inl ⟨c5, d6.1⟩⟩
    · rw [if_neg c5] at d6
      exact ⟨_, d6.2, fun j hj => va_up_ne _ _ hj, Or.inr ⟨c5, d6.1, by rw [va_up_self]; simp [vp_updL]⟩⟩
  obtain ⟨r6, hr6⟩ : ∃ r6, r6 = r480 := ⟨_, rfl⟩
  rw [← hr6] at d6 ⊢
  refine k_istore (pc := 483) (lv' := [(5, .int r6), (4, .int (nI (8 * it))), (3, .ref (ad 186)), (2, .ref (ad 174)), (1, .ref (ad 0)), (0, .ref b)]) C dL_law_483 (by decide) rfl ?_
  refine k_aload_n (pc := 485) C dL_law_485 rfl 3 rfl ?_
  refine k_arg (pc := 486) C S 1 5 1 rfl rfl (by omega) dL_law_486 dL_law_487 dL_law_489 (by decide) dL_law_490 dL_law_491 ?_
  refine k_arg (pc := 492) C S 2 5 1 rfl rfl (by omega) dL_law_492 dL_law_493 dL_law_495 (by decide) dL_law_496 dL_law_497 ?_
  refine k_arg (pc := 498) C S 3 5 1 rfl rfl (by omega) dL_law_498 dL_law_499 dL_law_501 (by decide) dL_law_502 dL_law_503 ?_
  refine k_i2l (pc := 504) C dL_law_504 rfl ?_
  refine k_bipush (pc := 505) (v := nI 32) C dL_law_505 (by decide) ?_
  refine k_lshl (pc := 507) C dL_law_507 rfl ?_
  refine k_arg (pc := 508) C S 4 5 1 rfl rfl (by omega) dL_law_508 dL_law_509 dL_law_511 (by decide) dL_law_512 dL_law_513 ?_
  refine k_i2l (pc := 514) C dL_law_514 rfl ?_
  refine k_ldc2 (pc := 515) C kc_L_33 dL_law_515 ?_
  refine k_land (pc := 518) C dL_law_518 ?_
  refine k_lor (pc := 519) C dL_law_519 ?_
  refine k_eql (y := LG (xs (8 * it + 3)) (xs (8 * it + 4))) rfl ?_
  refine k_arg (pc := 520) C S 5 5 1 rfl rfl (by omega) dL_law_520 dL_law_521 dL_law_523 (by decide) dL_law_524 dL_law_525 ?_
  refine k_i2l (pc := 526) C dL_law_526 rfl ?_
  refine k_bipush (pc := 527) (v := nI 32) C dL_law_527 (by decide) ?_
  refine k_lshl (pc := 529) C dL_law_529 rfl ?_
  refine k_argb (pc := 530) C S 6 5 1 rfl rfl (by omega) dL_law_530 dL_law_531 dL_law_533 (by decide) dL_law_535 dL_law_536 ?_
  refine k_i2l (pc := 537) C dL_law_537 rfl ?_
  refine k_ldc2 (pc := 538) C kc_L_33 dL_law_538 ?_
  refine k_land (pc := 541) C dL_law_541 ?_
  refine k_lor (pc := 542) C dL_law_542 ?_
  refine k_eql (y := LG (xs (8 * it + 5)) (xs (8 * it + 6))) rfl ?_
  refine k_argb (pc := 543) C S 7 5 1 rfl rfl (by omega) dL_law_543 dL_law_544 dL_law_546 (by decide) dL_law_548 dL_law_549 ?_
  refine cvF_L_62 (pc := 550) C F hcs' (c7_times hM hB) rfl (by decide) cm_174 ⟨by decide, by decide⟩ rfl (Nat.le_of_ble_eq_true rfl) dL_law_550 (fun r550 M550 h550 => ?_)
  obtain ⟨U1, rfl, e7, h7, -⟩ := h550
  have E1 : va_up sc 30 (if (sTimes T (xs (8 * it + 1)) (xs (8 * it + 2)) (LG (xs (8 * it + 3)) (xs (8 * it + 4))) (LG (xs (8 * it + 5)) (xs (8 * it + 6))) (xs (8 * it + 7))).1 = -5 then 1 else 0) 30 = r6 := by
    rw [va_up_self]
    rcases d6 with ⟨c5, e⟩ | ⟨c5, e, -⟩
    · rw [if_pos c5, e]
    · rw [if_neg c5, e]
  have E2 : r6 = 0 → la1 186 0 = (r550).toInt64 := by
    intro e0
    rcases d6 with ⟨c5, e⟩ | ⟨c5, e, e9⟩
    · rw [e] at e0
      exact absurd e0 (by decide)
    · rw [e9, e7, if_neg c5]
  have S1 : ∀ k, k ≠ 30 → va_up sc 30 (if (sTimes T (xs (8 * it + 1)) (xs (8 * it + 2)) (LG (xs (8 * it + 3)) (xs (8 * it + 4))) (LG (xs (8 * it + 5)) (xs (8 * it + 6))) (xs (8 * it + 7))).1 = -5 then 1 else 0) k = sc k := fun k hk => va_up_ne _ _ hk
  refine k_istore (pc := 553) (lv' := [(6, .int r550), (5, .int r6), (4, .int (nI (8 * it))), (3, .ref (ad 186)), (2, .ref (ad 174)), (1, .ref (ad 0)), (0, .ref b)]) C dL_law_553 (by decide) rfl ?_
  refine k_aload_n (pc := 555) C dL_law_555 rfl 4 rfl ?_
  refine cvF_L_63 (pc := 556) C F hcs' (c7_thrown) rfl (by decide) cm_174 ⟨by decide, by decide⟩ rfl (Nat.le_of_ble_eq_true rfl) dL_law_556 (fun r556 M556 h556 => ?_)
  obtain ⟨e8, rfl⟩ := h556
  refine k_iload (pc := 559) C dL_law_559 1 rfl ?_
  refine k_icmp_eq (pc := 561) (tgt := 566) C dL_law_561 (by decide) (fun _ => ?_) (fun c => absurd (e8.trans E1) c)
  refine k_iload (pc := 566) C dL_law_566 1 rfl ?_
  refine k_if_ne (pc := 568) (tgt := 583) C dL_law_568 (by decide) (fun _ => ?_) (fun c9 => ?_)
  · refine k_goto (pc := 583) (tgt := 1586) C dL_law_583 (by decide) ?_
    refine k_widen (cs' := 187 + (it + 1)) (ss' := 3613 + 6 * (it + 1)) (by omega) (by omega) ?_
    refine k_lvs (lv' := [(4, .int (nI (8 * it))), (3, .ref (ad 186)), (2, .ref (ad 174)), (1, .ref (ad 0)), (0, .ref b)]) (fun q hq => List.mem_cons_of_mem _ (List.mem_cons_of_mem _ (hq))) ?_
    exact kk V1 U1 _ ia la1 (⟨⟨_, h6, h7, sTimes_TB hB _ _ _ _ _⟩, (hF.to (fun k hk => S1 k (by omega)) rfl rfl), (hW.to (L1 159 (by omega)) (L1 176 (by omega))), (hU.to (S1 1 (by omega)) (S1 31 (by omega))), (hP.to (S1 20 (by omega)) (S1 32 (by omega)) rfl rfl), (hO.to (S1 11 (by omega)) (S1 34 (by omega)) rfl rfl), (hR.to (S1 0 (by omega)) (S1 35 (by omega)) (fun k hk => rfl) rfl rfl rfl rfl), (hS.to (S1 2 (by omega)) (S1 33 (by omega)) (S1 3 (by omega)) (S1 36 (by omega)) (S1 4 (by omega)) (S1 37 (by omega)))⟩)
  refine k_aload_n (pc := 571) C dL_law_571 rfl 3 rfl ?_
  refine k_iconst (pc := 572) (v := nI 0) C dL_law_572 (by decide) ?_
  refine k_laldF (pc := 573) C F 186 (by decide) cm_186 0 rfl (by decide) (by decide) dL_law_573 ?_
  refine k_iload (pc := 574) C dL_law_574 0 rfl ?_
  refine k_i2l (pc := 576) C dL_law_576 rfl ?_
  refine k_lcmp (pc := 577) C dL_law_577 ?_
  refine k_if_eq (pc := 578) (tgt := 583) C dL_law_578 (by decide) (fun _ => ?_) (fun c => absurd (by rw [E2 c9]; exact lg_cmp0 _) c)
  refine k_goto (pc := 583) (tgt := 1586) C dL_law_583 (by decide) ?_
  refine k_widen (cs' := 187 + (it + 1)) (ss' := 3613 + 6 * (it + 1)) (by omega) (by omega) ?_
  refine k_lvs (lv' := [(4, .int (nI (8 * it))), (3, .ref (ad 186)), (2, .ref (ad 174)), (1, .ref (ad 0)), (0, .ref b)]) (fun q hq => List.mem_cons_of_mem _ (List.mem_cons_of_mem _ (hq))) ?_
  exact kk V1 U1 _ ia la1 (⟨⟨_, h6, h7, sTimes_TB hB _ _ _ _ _⟩, (hF.to (fun k hk => S1 k (by omega)) rfl rfl), (hW.to (L1 159 (by omega)) (L1 176 (by omega))), (hU.to (S1 1 (by omega)) (S1 31 (by omega))), (hP.to (S1 20 (by omega)) (S1 32 (by omega)) rfl rfl), (hO.to (S1 11 (by omega)) (S1 34 (by omega)) rfl rfl), (hR.to (S1 0 (by omega)) (S1 35 (by omega)) (fun k hk => rfl) rfl rfl rfl rfl), (hS.to (S1 2 (by omega)) (S1 33 (by omega)) (S1 3 (by omega)) (S1 36 (by omega)) (S1 4 (by omega)) (S1 37 (by omega)))⟩)
set_option maxHeartbeats 4000000 in
set_option maxRecDepth 100000 in
theorem lw_c6 (C : xC z cL_law RL 7) (F : xF z l room_1 D (xty ca)) (Y : xY0 z N0 sa) (S : xSc z b L xs) (hl : l.stackTraces = false) (hN0 : ∀ i, i < 187 → N0 ≤ ad i) (h : LIq V U sc ia la) (hit : 8 * it + 8 ≤ L) (hL : L ≤ 4096) (kk : ∀ V U sc ia la, LIq V U sc ia la → xK z (xw ad (cm ad ca (V, U, sc, ia, la)) 187) (187 + (it + 1)) (3613 + 6 * (it + 1)) 1586 [(4, .int (nI (8 * it))), (3, .ref (ad 186)), (2, .ref (ad 174)), (1, .ref (ad 0)), (0, .ref b)] []) : xK z (xw ad (cm ad ca (V, U, sc, ia, la)) 187) (187 + it) (3613 + 6 * it) 586 [(4, .int (nI (8 * it))), (3, .ref (ad 186)), (2, .ref (ad 174)), (1, .ref (ad 0)), (0, .ref b)] [] := by
  obtain ⟨hN, hF, hW, hU, hP, hO, hR, hS⟩ := h
  have hN9 := hN
  obtain ⟨T, hT, hM, hB⟩ := hN9
  have hcs : 187 + it ≤ room_1.cells ∧ 3613 + 6 * it ≤ room_1.slots := by show 187 + it ≤ 603072 ∧ 3613 + 6 * it ≤ 7215210; omega
  have hcs' : 187 + it + 1 ≤ room_1.cells ∧ 3613 + 6 * it + 6 ≤ room_1.slots := by show 187 + it + 1 ≤ 603072 ∧ 3613 + 6 * it + 6 ≤ 7215210; omega
  refine k_aload_n (pc := 586) C dL_law_586 rfl 3 rfl ?_
  refine k_arg (pc := 587) C S 1 4 0 rfl rfl (by omega) dL_law_587 dL_law_588 dL_law_590 (by decide) dL_law_591 dL_law_592 ?_
  refine k_arg (pc := 593) C S 2 4 0 rfl rfl (by omega) dL_law_593 dL_law_594 dL_law_596 (by decide) dL_law_597 dL_law_598 ?_
  refine k_arg (pc := 599) C S 3 4 0 rfl rfl (by omega) dL_law_599 dL_law_600 dL_law_602 (by decide) dL_law_603 dL_law_604 ?_
  refine k_arg (pc := 605) C S 4 4 0 rfl rfl (by omega) dL_law_605 dL_law_606 dL_law_608 (by decide) dL_law_609 dL_law_610 ?_
  refine cvF_L_67 (pc := 611) C F hcs (c6_round hT hB) rfl (by decide) cm_0 ⟨by decide, by decide⟩ rfl (Nat.le_of_ble_eq_true rfl) dL_law_611 (fun r611 M611 h611 => ?_)
  obtain ⟨V1, rfl, e6, h6⟩ := h611
  refine k_aload_n (pc := 614) C dL_law_614 rfl 2 rfl ?_
  refine k_arg (pc := 615) C S 1 4 0 rfl rfl (by omega) dL_law_615 dL_law_616 dL_law_618 (by decide) dL_law_619 dL_law_620 ?_
  refine k_arg (pc := 621) C S 2 4 0 rfl rfl (by omega) dL_law_621 dL_law_622 dL_law_624 (by decide) dL_law_625 dL_law_626 ?_
  refine k_arg (pc := 627) C S 3 4 0 rfl rfl (by omega) dL_law_627 dL_law_628 dL_law_630 (by decide) dL_law_631 dL_law_632 ?_
  refine k_arg (pc := 633) C S 4 4 0 rfl rfl (by omega) dL_law_633 dL_law_634 dL_law_636 (by decide) dL_law_637 dL_law_638 ?_
  refine cvF_L_71 (pc := 639) C F hcs (c7_round hM hB) rfl (by decide) cm_174 ⟨by decide, by decide⟩ rfl (Nat.le_of_ble_eq_true rfl) dL_law_639 (fun r639 M639 h639 => ?_)
  obtain ⟨U1, rfl, e7, h7⟩ := h639
  refine k_icmp_eq (pc := 642) (tgt := 1586) C dL_law_642 (by decide) (fun _ => ?_) (fun c => absurd (e6.trans e7.symm) c)
  refine k_widen (cs' := 187 + (it + 1)) (ss' := 3613 + 6 * (it + 1)) (by omega) (by omega) ?_
  exact kk V1 U1 sc ia la (⟨⟨_, h6, h7, sRound_TB hB _ _ _ _⟩, hF, hW, hU, hP, hO, hR, hS⟩)
set_option maxHeartbeats 4000000 in
set_option maxRecDepth 100000 in
theorem lw_c7 (C : xC z cL_law RL 7) (F : xF z l room_1 D (xty ca)) (Y : xY0 z N0 sa) (S : xSc z b L xs) (hl : l.stackTraces = false) (hN0 : ∀ i, i < 187 → N0 ≤ ad i) (h : LIq V U sc ia la) (hit : 8 * it + 8 ≤ L) (hL : L ≤ 4096) (kk : ∀ V U sc ia la, LIq V U sc ia la → xK z (xw ad (cm ad ca (V, U, sc, ia, la)) 187) (187 + (it + 1)) (3613 + 6 * (it + 1)) 1586 [(4, .int (nI (8 * it))), (3, .ref (ad 186)), (2, .ref (ad 174)), (1, .ref (ad 0)), (0, .ref b)] []) : xK z (xw ad (cm ad ca (V, U, sc, ia, la)) 187) (187 + it) (3613 + 6 * it) 647 [(4, .int (nI (8 * it))), (3, .ref (ad 186)), (2, .ref (ad 174)), (1, .ref (ad 0)), (0, .ref b)] [] := by
  obtain ⟨hN, hF, hW, hU, hP, hO, hR, hS⟩ := h
  have hN9 := hN
  obtain ⟨T, hT, hM, hB⟩ := hN9
  have hcs : 187 + it ≤ room_1.cells ∧ 3613 + 6 * it ≤ room_1.slots := by show 187 + it ≤ 603072 ∧ 3613 + 6 * it ≤ 7215210; omega
  have hcs' : 187 + it + 1 ≤ room_1.cells ∧ 3613 + 6 * it + 6 ≤ room_1.slots := by show 187 + it + 1 ≤ 603072 ∧ 3613 + 6 * it + 6 ≤ 7215210; omega
  refine k_aload_n (pc := 647) C dL_law_647 rfl 3 rfl ?_
  refine k_arg (pc := 648) C S 1 4 0 rfl rfl (by omega) dL_law_648 dL_law_649 dL_law_651 (by decide) dL_law_652 dL_law_653 ?_
  refine k_arg (pc := 654) C S 2 4 0 rfl rfl (by omega) dL_law_654 dL_law_655 dL_law_657 (by decide) dL_law_658 dL_law_659 ?_
  refine k_arg (pc := 660) C S 3 4 0 rfl rfl (by omega) dL_law_660 dL_law_661 dL_law_663 (by decide) dL_law_664 dL_law_665 ?_
  refine k_aload_n (pc := 666) C dL_law_666 rfl 1 rfl ?_
  refine k_callSW (pc := 667) C F Y (sL_divide hT hB hl hN0) wm_L_72 wst_yL_divide thL_I thL_divide thE_divide (by decide) (by show 187 + it + 1 ≤ 603072 ∧ 3613 + 6 * it + 6 ≤ 7215210; omega) rfl (Nat.le_of_ble_eq_true rfl) dL_law_667 (fun r667 M667 h667 => ?_)
  obtain ⟨V1, h6, d6⟩ := h667
  obtain ⟨la1, rfl, L1, d6⟩ : ∃ la1, M667 = cm ad ca (V1, U, sc, ia, la1) ∧ (∀ j, j ≠ 186 → la1 j = la j) ∧ (((sDiv T (xs (8 * it + 1)) (xs (8 * it + 2)) (xs (8 * it + 3))).1 = -5 ∧ r667 = 1) ∨ (¬ (sDiv T (xs (8 * it + 1)) (xs (8 * it + 2)) (xs (8 * it + 3))).1 = -5 ∧ r667 = 0 ∧ la1 186 0 = (sDiv T (xs (8 * it + 1)) (xs (8 * it + 2)) (xs (8 * it + 3))).1.toInt64)) := by
    by_cases c5 : (sDiv T (xs (8 * it + 1)) (xs (8 * it + 2)) (xs (8 * it + 3))).1 = -5
    · rw [if_pos c5] at d6
      exact ⟨la, d6.2, fun _ _ => rfl, Or.inl ⟨c5, d6.1⟩⟩
    · rw [if_neg c5] at d6
      exact ⟨_, d6.2, fun j hj => va_up_ne _ _ hj, Or.inr ⟨c5, d6.1, by rw [va_up_self]; simp [vp_updL]⟩⟩
  obtain ⟨r6, hr6⟩ : ∃ r6, r6 = r667 := ⟨_, rfl⟩
  rw [← hr6] at d6 ⊢
  refine k_istore (pc := 670) (lv' := [(5, .int r6), (4, .int (nI (8 * it))), (3, .ref (ad 186)), (2, .ref (ad 174)), (1, .ref (ad 0)), (0, .ref b)]) C dL_law_670 (by decide) rfl ?_
  refine k_aload_n (pc := 672) C dL_law_672 rfl 3 rfl ?_
  refine k_arg (pc := 673) C S 1 5 1 rfl rfl (by omega) dL_law_673 dL_law_674 dL_law_676 (by decide) dL_law_677 dL_law_678 ?_
  refine k_arg (pc := 679) C S 2 5 1 rfl rfl (by omega) dL_law_679 dL_law_680 dL_law_682 (by decide) dL_law_683 dL_law_684 ?_
  refine k_arg (pc := 685) C S 3 5 1 rfl rfl (by omega) dL_law_685 dL_law_686 dL_law_688 (by decide) dL_law_689 dL_law_690 ?_
  refine cvF_L_75 (pc := 691) C F hcs' (c7_divide hM hB) rfl (by decide) cm_174 ⟨by decide, by decide⟩ rfl (Nat.le_of_ble_eq_true rfl) dL_law_691 (fun r691 M691 h691 => ?_)
  obtain ⟨U1, rfl, e7, h7, -⟩ := h691
  have E1 : va_up sc 30 (if (sDiv T (xs (8 * it + 1)) (xs (8 * it + 2)) (xs (8 * it + 3))).1 = -5 then 1 else 0) 30 = r6 := by
    rw [va_up_self]
    rcases d6 with ⟨c5, e⟩ | ⟨c5, e, -⟩
    · rw [if_pos c5, e]
    · rw [if_neg c5, e]
  have E2 : r6 = 0 → la1 186 0 = (r691).toInt64 := by
    intro e0
    rcases d6 with ⟨c5, e⟩ | ⟨c5, e, e9⟩
    · rw [e] at e0
      exact absurd e0 (by decide)
    · rw [e9, e7, if_neg c5]
  have S1 : ∀ k, k ≠ 30 → va_up sc 30 (if (sDiv T (xs (8 * it + 1)) (xs (8 * it + 2)) (xs (8 * it + 3))).1 = -5 then 1 else 0) k = sc k := fun k hk => va_up_ne _ _ hk
  refine k_istore (pc := 694) (lv' := [(6, .int r691), (5, .int r6), (4, .int (nI (8 * it))), (3, .ref (ad 186)), (2, .ref (ad 174)), (1, .ref (ad 0)), (0, .ref b)]) C dL_law_694 (by decide) rfl ?_
  refine k_aload_n (pc := 696) C dL_law_696 rfl 4 rfl ?_
  refine cvF_L_63 (pc := 697) C F hcs' (c7_thrown) rfl (by decide) cm_174 ⟨by decide, by decide⟩ rfl (Nat.le_of_ble_eq_true rfl) dL_law_697 (fun r697 M697 h697 => ?_)
  obtain ⟨e8, rfl⟩ := h697
  refine k_iload (pc := 700) C dL_law_700 1 rfl ?_
  refine k_icmp_eq (pc := 702) (tgt := 707) C dL_law_702 (by decide) (fun _ => ?_) (fun c => absurd (e8.trans E1) c)
  refine k_iload (pc := 707) C dL_law_707 1 rfl ?_
  refine k_if_ne (pc := 709) (tgt := 724) C dL_law_709 (by decide) (fun _ => ?_) (fun c9 => ?_)
  · refine k_goto (pc := 724) (tgt := 1586) C dL_law_724 (by decide) ?_
    refine k_widen (cs' := 187 + (it + 1)) (ss' := 3613 + 6 * (it + 1)) (by omega) (by omega) ?_
    refine k_lvs (lv' := [(4, .int (nI (8 * it))), (3, .ref (ad 186)), (2, .ref (ad 174)), (1, .ref (ad 0)), (0, .ref b)]) (fun q hq => List.mem_cons_of_mem _ (List.mem_cons_of_mem _ (hq))) ?_
    exact kk V1 U1 _ ia la1 (⟨⟨_, h6, h7, sDiv_TB hB _ _ _⟩, (hF.to (fun k hk => S1 k (by omega)) rfl rfl), (hW.to (L1 159 (by omega)) (L1 176 (by omega))), (hU.to (S1 1 (by omega)) (S1 31 (by omega))), (hP.to (S1 20 (by omega)) (S1 32 (by omega)) rfl rfl), (hO.to (S1 11 (by omega)) (S1 34 (by omega)) rfl rfl), (hR.to (S1 0 (by omega)) (S1 35 (by omega)) (fun k hk => rfl) rfl rfl rfl rfl), (hS.to (S1 2 (by omega)) (S1 33 (by omega)) (S1 3 (by omega)) (S1 36 (by omega)) (S1 4 (by omega)) (S1 37 (by omega)))⟩)
  refine k_aload_n (pc := 712) C dL_law_712 rfl 3 rfl ?_
  refine k_iconst (pc := 713) (v := nI 0) C dL_law_713 (by decide) ?_
  refine k_laldF (pc := 714) C F 186 (by decide) cm_186 0 rfl (by decide) (by decide) dL_law_714 ?_
  refine k_iload (pc := 715) C dL_law_715 0 rfl ?_
  refine k_i2l (pc := 717) C dL_law_717 rfl ?_
  refine k_lcmp (pc := 718) C dL_law_718 ?_
  refine k_if_eq (pc := 719) (tgt := 724) C dL_law_719 (by decide) (fun _ => ?_) (fun c => absurd (by rw [E2 c9]; exact lg_cmp0 _) c)
  refine k_goto (pc := 724) (tgt := 1586) C dL_law_724 (by decide) ?_
  refine k_widen (cs' := 187 + (it + 1)) (ss' := 3613 + 6 * (it + 1)) (by omega) (by omega) ?_
  refine k_lvs (lv' := [(4, .int (nI (8 * it))), (3, .ref (ad 186)), (2, .ref (ad 174)), (1, .ref (ad 0)), (0, .ref b)]) (fun q hq => List.mem_cons_of_mem _ (List.mem_cons_of_mem _ (hq))) ?_
  exact kk V1 U1 _ ia la1 (⟨⟨_, h6, h7, sDiv_TB hB _ _ _⟩, (hF.to (fun k hk => S1 k (by omega)) rfl rfl), (hW.to (L1 159 (by omega)) (L1 176 (by omega))), (hU.to (S1 1 (by omega)) (S1 31 (by omega))), (hP.to (S1 20 (by omega)) (S1 32 (by omega)) rfl rfl), (hO.to (S1 11 (by omega)) (S1 34 (by omega)) rfl rfl), (hR.to (S1 0 (by omega)) (S1 35 (by omega)) (fun k hk => rfl) rfl rfl rfl rfl), (hS.to (S1 2 (by omega)) (S1 33 (by omega)) (S1 3 (by omega)) (S1 36 (by omega)) (S1 4 (by omega)) (S1 37 (by omega)))⟩)
set_option maxHeartbeats 4000000 in
set_option maxRecDepth 100000 in
theorem lw_c8 (C : xC z cL_law RL 7) (F : xF z l room_1 D (xty ca)) (Y : xY0 z N0 sa) (S : xSc z b L xs) (hl : l.stackTraces = false) (hN0 : ∀ i, i < 187 → N0 ≤ ad i) (h : LIq V U sc ia la) (hit : 8 * it + 8 ≤ L) (hL : L ≤ 4096) (kk : ∀ V U sc ia la, LIq V U sc ia la → xK z (xw ad (cm ad ca (V, U, sc, ia, la)) 187) (187 + (it + 1)) (3613 + 6 * (it + 1)) 1586 [(4, .int (nI (8 * it))), (3, .ref (ad 186)), (2, .ref (ad 174)), (1, .ref (ad 0)), (0, .ref b)] []) : xK z (xw ad (cm ad ca (V, U, sc, ia, la)) 187) (187 + it) (3613 + 6 * it) 727 [(4, .int (nI (8 * it))), (3, .ref (ad 186)), (2, .ref (ad 174)), (1, .ref (ad 0)), (0, .ref b)] [] := by
  obtain ⟨hN, hF, hW, hU, hP, hO, hR, hS⟩ := h
  have hN9 := hN
  obtain ⟨T, hT, hM, hB⟩ := hN9
  have hcs : 187 + it ≤ room_1.cells ∧ 3613 + 6 * it ≤ room_1.slots := by show 187 + it ≤ 603072 ∧ 3613 + 6 * it ≤ 7215210; omega
  have hcs' : 187 + it + 1 ≤ room_1.cells ∧ 3613 + 6 * it + 6 ≤ room_1.slots := by show 187 + it + 1 ≤ 603072 ∧ 3613 + 6 * it + 6 ≤ 7215210; omega
  refine k_aload_n (pc := 727) C dL_law_727 rfl 3 rfl ?_
  refine k_arg (pc := 728) C S 1 4 0 rfl rfl (by omega) dL_law_728 dL_law_729 dL_law_731 (by decide) dL_law_732 dL_law_733 ?_
  refine k_arg (pc := 734) C S 2 4 0 rfl rfl (by omega) dL_law_734 dL_law_735 dL_law_737 (by decide) dL_law_738 dL_law_739 ?_
  refine cvF_L_76 (pc := 740) C F hcs (c6_order hT hB) rfl (by decide) cm_0 ⟨by decide, by decide⟩ rfl (Nat.le_of_ble_eq_true rfl) dL_law_740 (fun r740 M740 h740 => ?_)
  obtain ⟨rfl, e6⟩ := h740
  refine k_aload_n (pc := 743) C dL_law_743 rfl 2 rfl ?_
  refine k_arg (pc := 744) C S 1 4 0 rfl rfl (by omega) dL_law_744 dL_law_745 dL_law_747 (by decide) dL_law_748 dL_law_749 ?_
  refine k_arg (pc := 750) C S 2 4 0 rfl rfl (by omega) dL_law_750 dL_law_751 dL_law_753 (by decide) dL_law_754 dL_law_755 ?_
  refine cvF_L_79 (pc := 756) C F hcs (c7_order hM hB) rfl (by decide) cm_174 ⟨by decide, by decide⟩ rfl (Nat.le_of_ble_eq_true rfl) dL_law_756 (fun r756 M756 h756 => ?_)
  obtain ⟨rfl, e7⟩ := h756
  refine k_icmp_eq (pc := 759) (tgt := 1586) C dL_law_759 (by decide) (fun _ => ?_) (fun c => absurd (e6.trans e7.symm) c)
  refine k_widen (cs' := 187 + (it + 1)) (ss' := 3613 + 6 * (it + 1)) (by omega) (by omega) ?_
  exact kk V U sc ia la (⟨hN, hF, hW, hU, hP, hO, hR, hS⟩)
set_option maxHeartbeats 4000000 in
set_option maxRecDepth 100000 in
theorem lw_c9 (C : xC z cL_law RL 7) (F : xF z l room_1 D (xty ca)) (Y : xY0 z N0 sa) (S : xSc z b L xs) (hl : l.stackTraces = false) (hN0 : ∀ i, i < 187 → N0 ≤ ad i) (h : LIq V U sc ia la) (hit : 8 * it + 8 ≤ L) (hL : L ≤ 4096) (kk : ∀ V U sc ia la, LIq V U sc ia la → xK z (xw ad (cm ad ca (V, U, sc, ia, la)) 187) (187 + (it + 1)) (3613 + 6 * (it + 1)) 1586 [(4, .int (nI (8 * it))), (3, .ref (ad 186)), (2, .ref (ad 174)), (1, .ref (ad 0)), (0, .ref b)] []) : xK z (xw ad (cm ad ca (V, U, sc, ia, la)) 187) (187 + it) (3613 + 6 * it) 764 [(4, .int (nI (8 * it))), (3, .ref (ad 186)), (2, .ref (ad 174)), (1, .ref (ad 0)), (0, .ref b)] [] := by
  obtain ⟨hN, hF, hW, hU, hP, hO, hR, hS⟩ := h
  have hN9 := hN
  obtain ⟨T, hT, hM, hB⟩ := hN9
  have hcs : 187 + it ≤ room_1.cells ∧ 3613 + 6 * it ≤ room_1.slots := by show 187 + it ≤ 603072 ∧ 3613 + 6 * it ≤ 7215210; omega
  have hcs' : 187 + it + 1 ≤ room_1.cells ∧ 3613 + 6 * it + 6 ≤ room_1.slots := by show 187 + it + 1 ≤ 603072 ∧ 3613 + 6 * it + 6 ≤ 7215210; omega
  by_cases cw : okW (xs (8 * it + 1)) (LG (xs (8 * it + 2)) (xs (8 * it + 3)))
  · refine k_aload_n (pc := 764) C dL_law_764 rfl 3 rfl ?_
    refine k_arg (pc := 765) C S 1 4 0 rfl rfl (by omega) dL_law_765 dL_law_766 dL_law_768 (by decide) dL_law_769 dL_law_770 ?_
    refine k_arg (pc := 771) C S 2 4 0 rfl rfl (by omega) dL_law_771 dL_law_772 dL_law_774 (by decide) dL_law_775 dL_law_776 ?_
    refine k_i2l (pc := 777) C dL_law_777 rfl ?_
    refine k_bipush (pc := 778) (v := nI 32) C dL_law_778 (by decide) ?_
    refine k_lshl (pc := 780) C dL_law_780 rfl ?_
    refine k_arg (pc := 781) C S 3 4 0 rfl rfl (by omega) dL_law_781 dL_law_782 dL_law_784 (by decide) dL_law_785 dL_law_786 ?_
    refine k_i2l (pc := 787) C dL_law_787 rfl ?_
    refine k_ldc2 (pc := 788) C kc_L_33 dL_law_788 ?_
    refine k_land (pc := 791) C dL_law_791 ?_
    refine k_lor (pc := 792) C dL_law_792 ?_
    refine k_eql (y := LG (xs (8 * it + 2)) (xs (8 * it + 3))) rfl ?_
    refine cvF_L_80 (pc := 793) C F hcs (c6_weight) rfl (by decide) cm_0 ⟨by decide, by decide⟩ rfl (Nat.le_of_ble_eq_true rfl) dL_law_793 (fun r793 M793 h793 => ?_)
    rw [if_pos cw] at h793
    obtain ⟨e6, rfl⟩ := h793
    refine k_aload_n (pc := 796) C dL_law_796 rfl 2 rfl ?_
    refine k_arg (pc := 797) C S 1 4 0 rfl rfl (by omega) dL_law_797 dL_law_798 dL_law_800 (by decide) dL_law_801 dL_law_802 ?_
    refine k_arg (pc := 803) C S 2 4 0 rfl rfl (by omega) dL_law_803 dL_law_804 dL_law_806 (by decide) dL_law_807 dL_law_808 ?_
    refine k_i2l (pc := 809) C dL_law_809 rfl ?_
    refine k_bipush (pc := 810) (v := nI 32) C dL_law_810 (by decide) ?_
    refine k_lshl (pc := 812) C dL_law_812 rfl ?_
    refine k_arg (pc := 813) C S 3 4 0 rfl rfl (by omega) dL_law_813 dL_law_814 dL_law_816 (by decide) dL_law_817 dL_law_818 ?_
    refine k_i2l (pc := 819) C dL_law_819 rfl ?_
    refine k_ldc2 (pc := 820) C kc_L_33 dL_law_820 ?_
    refine k_land (pc := 823) C dL_law_823 ?_
    refine k_lor (pc := 824) C dL_law_824 ?_
    refine k_eql (y := LG (xs (8 * it + 2)) (xs (8 * it + 3))) rfl ?_
    refine cvF_L_83 (pc := 825) C F hcs (c7_weight) rfl (by decide) cm_174 ⟨by decide, by decide⟩ rfl (Nat.le_of_ble_eq_true rfl) dL_law_825 (fun r825 M825 h825 => ?_)
    rw [if_pos cw] at h825
    obtain ⟨e7, rfl⟩ := h825
    refine k_icmp_eq (pc := 828) (tgt := 1586) C dL_law_828 (by decide) (fun _ => ?_) (fun c => absurd (e6.trans e7.symm) c)
    refine k_widen (cs' := 187 + (it + 1)) (ss' := 3613 + 6 * (it + 1)) (by omega) (by omega) ?_
    obtain ⟨w, hw1, hw2, hwb⟩ := hW
    exact kk V U sc ia _ (⟨hN, hF, ⟨va_up w (rI (xs (8 * it + 1))) (LG (xs (8 * it + 2)) (xs (8 * it + 3))).toInt.toNat, by rw [va_up_ne _ _ (by decide), va_up_self]; exact WL_up cw hw1, by rw [va_up_self, va_up_ne _ _ (by decide)]; exact WL_up cw hw2, WB_up cw hwb⟩, hU, hP, hO, hR, hS⟩)
  · refine k_aload_n (pc := 764) C dL_law_764 rfl 3 rfl ?_
    refine k_arg (pc := 765) C S 1 4 0 rfl rfl (by omega) dL_law_765 dL_law_766 dL_law_768 (by decide) dL_law_769 dL_law_770 ?_
    refine k_arg (pc := 771) C S 2 4 0 rfl rfl (by omega) dL_law_771 dL_law_772 dL_law_774 (by decide) dL_law_775 dL_law_776 ?_
    refine k_i2l (pc := 777) C dL_law_777 rfl ?_
    refine k_bipush (pc := 778) (v := nI 32) C dL_law_778 (by decide) ?_
    refine k_lshl (pc := 780) C dL_law_780 rfl ?_
    refine k_arg (pc := 781) C S 3 4 0 rfl rfl (by omega) dL_law_781 dL_law_782 dL_law_784 (by decide) dL_law_785 dL_law_786 ?_
    refine k_i2l (pc := 787) C dL_law_787 rfl ?_
    refine k_ldc2 (pc := 788) C kc_L_33 dL_law_788 ?_
    refine k_land (pc := 791) C dL_law_791 ?_
    refine k_lor (pc := 792) C dL_law_792 ?_
    refine k_eql (y := LG (xs (8 * it + 2)) (xs (8 * it + 3))) rfl ?_
    refine cvF_L_80 (pc := 793) C F hcs (c6_weight) rfl (by decide) cm_0 ⟨by decide, by decide⟩ rfl (Nat.le_of_ble_eq_true rfl) dL_law_793 (fun r793 M793 h793 => ?_)
    rw [if_neg cw] at h793
    obtain ⟨e6, rfl⟩ := h793
    refine k_aload_n (pc := 796) C dL_law_796 rfl 2 rfl ?_
    refine k_arg (pc := 797) C S 1 4 0 rfl rfl (by omega) dL_law_797 dL_law_798 dL_law_800 (by decide) dL_law_801 dL_law_802 ?_
    refine k_arg (pc := 803) C S 2 4 0 rfl rfl (by omega) dL_law_803 dL_law_804 dL_law_806 (by decide) dL_law_807 dL_law_808 ?_
    refine k_i2l (pc := 809) C dL_law_809 rfl ?_
    refine k_bipush (pc := 810) (v := nI 32) C dL_law_810 (by decide) ?_
    refine k_lshl (pc := 812) C dL_law_812 rfl ?_
    refine k_arg (pc := 813) C S 3 4 0 rfl rfl (by omega) dL_law_813 dL_law_814 dL_law_816 (by decide) dL_law_817 dL_law_818 ?_
    refine k_i2l (pc := 819) C dL_law_819 rfl ?_
    refine k_ldc2 (pc := 820) C kc_L_33 dL_law_820 ?_
    refine k_land (pc := 823) C dL_law_823 ?_
    refine k_lor (pc := 824) C dL_law_824 ?_
    refine k_eql (y := LG (xs (8 * it + 2)) (xs (8 * it + 3))) rfl ?_
    refine cvF_L_83 (pc := 825) C F hcs (c7_weight) rfl (by decide) cm_174 ⟨by decide, by decide⟩ rfl (Nat.le_of_ble_eq_true rfl) dL_law_825 (fun r825 M825 h825 => ?_)
    rw [if_neg cw] at h825
    obtain ⟨e7, rfl⟩ := h825
    refine k_icmp_eq (pc := 828) (tgt := 1586) C dL_law_828 (by decide) (fun _ => ?_) (fun c => absurd (e6.trans e7.symm) c)
    refine k_widen (cs' := 187 + (it + 1)) (ss' := 3613 + 6 * (it + 1)) (by omega) (by omega) ?_
    exact kk V U sc ia la (⟨hN, hF, hW, hU, hP, hO, hR, hS⟩)
end LW9
