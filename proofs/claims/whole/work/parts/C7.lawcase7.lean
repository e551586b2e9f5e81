/-! ===== the law's cases, part 7 ===== -/
theorem dL_law_498 : decode cL_law 498 = .ok (.aload_n 1, 1) := by decide +kernel
theorem dL_law_499 : decode cL_law 499 = .ok (.aload_n 0, 1) := by decide +kernel
theorem dL_law_500 : decode cL_law 500 = .ok (.iload_n 3, 1) := by decide +kernel
theorem dL_law_501 : decode cL_law 501 = .ok (.iconst 1, 1) := by decide +kernel
theorem dL_law_502 : decode cL_law 502 = .ok (.iadd, 1) := by decide +kernel
theorem dL_law_503 : decode cL_law 503 = .ok (.iaload, 1) := by decide +kernel
theorem dL_law_504 : decode cL_law 504 = .ok (.aload_n 0, 1) := by decide +kernel
theorem dL_law_505 : decode cL_law 505 = .ok (.iload_n 3, 1) := by decide +kernel
theorem dL_law_506 : decode cL_law 506 = .ok (.iconst 2, 1) := by decide +kernel
theorem dL_law_507 : decode cL_law 507 = .ok (.iadd, 1) := by decide +kernel
theorem dL_law_508 : decode cL_law 508 = .ok (.iaload, 1) := by decide +kernel
theorem dL_law_509 : decode cL_law 509 = .ok (.invokevirtual 51, 3) := by decide +kernel
theorem dL_law_512 : decode cL_law 512 = .ok (.aload_n 2, 1) := by decide +kernel
theorem dL_law_513 : decode cL_law 513 = .ok (.aload_n 0, 1) := by decide +kernel
theorem dL_law_514 : decode cL_law 514 = .ok (.iload_n 3, 1) := by decide +kernel
theorem dL_law_515 : decode cL_law 515 = .ok (.iconst 1, 1) := by decide +kernel
theorem dL_law_516 : decode cL_law 516 = .ok (.iadd, 1) := by decide +kernel
theorem dL_law_517 : decode cL_law 517 = .ok (.iaload, 1) := by decide +kernel
theorem dL_law_518 : decode cL_law 518 = .ok (.aload_n 0, 1) := by decide +kernel
theorem dL_law_519 : decode cL_law 519 = .ok (.iload_n 3, 1) := by decide +kernel
theorem dL_law_520 : decode cL_law 520 = .ok (.iconst 2, 1) := by decide +kernel
theorem dL_law_521 : decode cL_law 521 = .ok (.iadd, 1) := by decide +kernel
theorem dL_law_522 : decode cL_law 522 = .ok (.iaload, 1) := by decide +kernel
theorem dL_law_523 : decode cL_law 523 = .ok (.invokevirtual 54, 3) := by decide +kernel
theorem dL_law_526 : decode cL_law 526 = .ok (.if_icmp .eq 638, 3) := by decide +kernel
theorem dL_law_529 : decode cL_law 529 = .ok (.iconst 0, 1) := by decide +kernel
theorem dL_law_530 : decode cL_law 530 = .ok (.ireturn, 1) := by decide +kernel
theorem lw_k_length {g : GX} {nm : String} {sb Ls b i : Nat} {xs : Nat → Int32} {V : AH} {sz : Nat} {Z : Nat → Int} {P L : Nat → Nat} {zs : Nat → Int} {S : TSt} {A : ASt} (hL : Ls ≤ 4096) (hi : i + 8 ≤ Ls) (h : LI g b V sz Z P L zs S A) (nx : Lnx g nm sb Ls xs b i) : AW g (mLw nm sb Ls xs) 13 498 (lwv sb b i) [] V sz (LwQ b L) := by
  have hb := h.2.1.1.1
  obtain ⟨rk, kn, hm⟩ := h.2.2.1
  refine aw_aload_n dL_law_498 (by rfl) (Or.inr ⟨_, rfl⟩) ?_
  refine aw_aload_n dL_law_499 (by rfl) (Or.inr ⟨_, rfl⟩) ?_
  refine aw_iload_n dL_law_500 (by rfl) ?_
  refine aw_iconstZ dL_law_501 ?_
  refine aw_iaddZ dL_law_502 ?_
  refine aw_sld (i + 1) dL_law_503 (by omega) (by omega) (by omega) ?_
  refine aw_aload_n dL_law_504 (by rfl) (Or.inr ⟨_, rfl⟩) ?_
  refine aw_iload_n dL_law_505 (by rfl) ?_
  refine aw_iconstZ dL_law_506 ?_
  refine aw_iaddZ dL_law_507 ?_
  refine aw_sld (i + 2) dL_law_508 (by omega) (by omega) (by omega) ?_
  refine aw_callv vL_51 dL_law_509 hb (c_length 10 h.1 h.2.1 (xz_R xs (i + 1)) (xz_R xs (i + 2))) (by rfl) (by rfl) (by omega) (Nat.le_of_ble_eq_true rfl) ?_
  rintro _ _ _ _ _ ⟨⟨q1, hq1, -, -, rfl⟩, rfl, rfl, rfl, rfl⟩ -
  refine aw_aload_n dL_law_512 (by rfl) (Or.inr ⟨_, rfl⟩) ?_
  refine aw_aload_n dL_law_513 (by rfl) (Or.inr ⟨_, rfl⟩) ?_
  refine aw_iload_n dL_law_514 (by rfl) ?_
  refine aw_iconstZ dL_law_515 ?_
  refine aw_iaddZ dL_law_516 ?_
  refine aw_sld (i + 1) dL_law_517 (by omega) (by omega) (by omega) ?_
  refine aw_aload_n dL_law_518 (by rfl) (Or.inr ⟨_, rfl⟩) ?_
  refine aw_iload_n dL_law_519 (by rfl) ?_
  refine aw_iconstZ dL_law_520 ?_
  refine aw_iaddZ dL_law_521 ?_
  refine aw_sld (i + 2) dL_law_522 (by omega) (by omega) (by omega) ?_
  refine aw_callv vL_54 dL_law_523 hm (m_length g 10 h.2.2 (xz_R xs (i + 1)) (xz_R xs (i + 2))) (by rfl) (by rfl) (by omega) (Nat.le_of_ble_eq_true rfl) ?_
  rintro _ _ _ _ _ ⟨⟨q2, hq2, -, -, rfl⟩, rfl, rfl, rfl, rfl⟩ -
  obtain rfl := spl_uq hq1 hq2
  refine aw_icmp_eq (tgt := 1164) dL_law_526 (by decide) (fun _ => ?_) (fun q => absurd rfl q)
  exact lw_cls (mc := 0) (ms := 0) nx h (by omega) (by omega) (fun _ _ _ _ _ q => q)
theorem dL_law_455 : decode cL_law 455 = .ok (.aload_n 1, 1) := by decide +kernel
theorem dL_law_456 : decode cL_law 456 = .ok (.aload_n 0, 1) := by decide +kernel
theorem dL_law_457 : decode cL_law 457 = .ok (.iload_n 3, 1) := by decide +kernel
theorem dL_law_458 : decode cL_law 458 = .ok (.iconst 1, 1) := by decide +kernel
theorem dL_law_459 : decode cL_law 459 = .ok (.iadd, 1) := by decide +kernel
theorem dL_law_460 : decode cL_law 460 = .ok (.iaload, 1) := by decide +kernel
theorem dL_law_461 : decode cL_law 461 = .ok (.aload_n 0, 1) := by decide +kernel
theorem dL_law_462 : decode cL_law 462 = .ok (.iload_n 3, 1) := by decide +kernel
theorem dL_law_463 : decode cL_law 463 = .ok (.iconst 2, 1) := by decide +kernel
theorem dL_law_464 : decode cL_law 464 = .ok (.iadd, 1) := by decide +kernel
theorem dL_law_465 : decode cL_law 465 = .ok (.iaload, 1) := by decide +kernel
theorem dL_law_466 : decode cL_law 466 = .ok (.aload_n 0, 1) := by decide +kernel
theorem dL_law_467 : decode cL_law 467 = .ok (.iload_n 3, 1) := by decide +kernel
theorem dL_law_468 : decode cL_law 468 = .ok (.iconst 3, 1) := by decide +kernel
theorem dL_law_469 : decode cL_law 469 = .ok (.iadd, 1) := by decide +kernel
theorem dL_law_470 : decode cL_law 470 = .ok (.iaload, 1) := by decide +kernel
theorem dL_law_471 : decode cL_law 471 = .ok (.invokevirtual 47, 3) := by decide +kernel
theorem dL_law_474 : decode cL_law 474 = .ok (.aload_n 2, 1) := by decide +kernel
theorem dL_law_475 : decode cL_law 475 = .ok (.aload_n 0, 1) := by decide +kernel
theorem dL_law_476 : decode cL_law 476 = .ok (.iload_n 3, 1) := by decide +kernel
theorem dL_law_477 : decode cL_law 477 = .ok (.iconst 1, 1) := by decide +kernel
theorem dL_law_478 : decode cL_law 478 = .ok (.iadd, 1) := by decide +kernel
theorem dL_law_479 : decode cL_law 479 = .ok (.iaload, 1) := by decide +kernel
theorem dL_law_480 : decode cL_law 480 = .ok (.aload_n 0, 1) := by decide +kernel
theorem dL_law_481 : decode cL_law 481 = .ok (.iload_n 3, 1) := by decide +kernel
theorem dL_law_482 : decode cL_law 482 = .ok (.iconst 2, 1) := by decide +kernel
theorem dL_law_483 : decode cL_law 483 = .ok (.iadd, 1) := by decide +kernel
theorem dL_law_484 : decode cL_law 484 = .ok (.iaload, 1) := by decide +kernel
theorem dL_law_485 : decode cL_law 485 = .ok (.aload_n 0, 1) := by decide +kernel
theorem dL_law_486 : decode cL_law 486 = .ok (.iload_n 3, 1) := by decide +kernel
theorem dL_law_487 : decode cL_law 487 = .ok (.iconst 3, 1) := by decide +kernel
theorem dL_law_488 : decode cL_law 488 = .ok (.iadd, 1) := by decide +kernel
theorem dL_law_489 : decode cL_law 489 = .ok (.iaload, 1) := by decide +kernel
theorem dL_law_490 : decode cL_law 490 = .ok (.invokevirtual 50, 3) := by decide +kernel
theorem dL_law_493 : decode cL_law 493 = .ok (.if_icmp .eq 671, 3) := by decide +kernel
theorem dL_law_496 : decode cL_law 496 = .ok (.iconst 0, 1) := by decide +kernel
theorem dL_law_497 : decode cL_law 497 = .ok (.ireturn, 1) := by decide +kernel
theorem lw_k_bits {g : GX} {nm : String} {sb Ls b i : Nat} {xs : Nat → Int32} {V : AH} {sz : Nat} {Z : Nat → Int} {P L : Nat → Nat} {zs : Nat → Int} {S : TSt} {A : ASt} (hL : Ls ≤ 4096) (hi : i + 8 ≤ Ls) (h : LI g b V sz Z P L zs S A) (nx : Lnx g nm sb Ls xs b i) : AW g (mLw nm sb Ls xs) 13 455 (lwv sb b i) [] V sz (LwQ b L) := by
  have hb := h.2.1.1.1
  obtain ⟨rk, kn, hm⟩ := h.2.2.1
  refine aw_aload_n dL_law_455 (by rfl) (Or.inr ⟨_, rfl⟩) ?_
  refine aw_aload_n dL_law_456 (by rfl) (Or.inr ⟨_, rfl⟩) ?_
  refine aw_iload_n dL_law_457 (by rfl) ?_
  refine aw_iconstZ dL_law_458 ?_
  refine aw_iaddZ dL_law_459 ?_
  refine aw_sld (i + 1) dL_law_460 (by omega) (by omega) (by omega) ?_
  refine aw_aload_n dL_law_461 (by rfl) (Or.inr ⟨_, rfl⟩) ?_
  refine aw_iload_n dL_law_462 (by rfl) ?_
  refine aw_iconstZ dL_law_463 ?_
  refine aw_iaddZ dL_law_464 ?_
  refine aw_sld (i + 2) dL_law_465 (by omega) (by omega) (by omega) ?_
  refine aw_aload_n dL_law_466 (by rfl) (Or.inr ⟨_, rfl⟩) ?_
  refine aw_iload_n dL_law_467 (by rfl) ?_
  refine aw_iconstZ dL_law_468 ?_
  refine aw_iaddZ dL_law_469 ?_
  refine aw_sld (i + 3) dL_law_470 (by omega) (by omega) (by omega) ?_
  refine aw_callv vL_47 dL_law_471 hb (c_bits 10 h.1 h.2.1 (xz_R xs (i + 1)) (xz_R xs (i + 2)) (xz_R xs (i + 3))) (by rfl) (by rfl) (by omega) (Nat.le_of_ble_eq_true rfl) ?_
  rintro _ _ _ _ _ ⟨rfl, rfl, rfl, rfl, rfl⟩ -
  refine aw_aload_n dL_law_474 (by rfl) (Or.inr ⟨_, rfl⟩) ?_
  refine aw_aload_n dL_law_475 (by rfl) (Or.inr ⟨_, rfl⟩) ?_
  refine aw_iload_n dL_law_476 (by rfl) ?_
  refine aw_iconstZ dL_law_477 ?_
  refine aw_iaddZ dL_law_478 ?_
  refine aw_sld (i + 1) dL_law_479 (by omega) (by omega) (by omega) ?_
  refine aw_aload_n dL_law_480 (by rfl) (Or.inr ⟨_, rfl⟩) ?_
  refine aw_iload_n dL_law_481 (by rfl) ?_
  refine aw_iconstZ dL_law_482 ?_
  refine aw_iaddZ dL_law_483 ?_
  refine aw_sld (i + 2) dL_law_484 (by omega) (by omega) (by omega) ?_
  refine aw_aload_n dL_law_485 (by rfl) (Or.inr ⟨_, rfl⟩) ?_
  refine aw_iload_n dL_law_486 (by rfl) ?_
  refine aw_iconstZ dL_law_487 ?_
  refine aw_iaddZ dL_law_488 ?_
  refine aw_sld (i + 3) dL_law_489 (by omega) (by omega) (by omega) ?_
  refine aw_callv vL_50 dL_law_490 hm (m_bits g 10 h.2.2 (xz_R xs (i + 1)) (xz_R xs (i + 2)) (xz_R xs (i + 3))) (by rfl) (by rfl) (by omega) (Nat.le_of_ble_eq_true rfl) ?_
  rintro _ _ _ _ _ ⟨rfl, rfl, rfl, rfl, rfl⟩ -
  refine aw_icmp_eq (tgt := 1164) dL_law_493 (by decide) (fun _ => ?_) (fun q => absurd rfl q)
  exact lw_cls (mc := 0) (ms := 0) nx h (by omega) (by omega) (fun _ _ _ _ _ q => q)
theorem dL_law_531 : decode cL_law 531 = .ok (.aload_n 1, 1) := by decide +kernel
theorem dL_law_532 : decode cL_law 532 = .ok (.aload_n 0, 1) := by decide +kernel
theorem dL_law_533 : decode cL_law 533 = .ok (.iload_n 3, 1) := by decide +kernel
theorem dL_law_534 : decode cL_law 534 = .ok (.iconst 1, 1) := by decide +kernel
theorem dL_law_535 : decode cL_law 535 = .ok (.iadd, 1) := by decide +kernel
theorem dL_law_536 : decode cL_law 536 = .ok (.iaload, 1) := by decide +kernel
theorem dL_law_537 : decode cL_law 537 = .ok (.aload_n 0, 1) := by decide +kernel
theorem dL_law_538 : decode cL_law 538 = .ok (.iload_n 3, 1) := by decide +kernel
theorem dL_law_539 : decode cL_law 539 = .ok (.iconst 2, 1) := by decide +kernel
theorem dL_law_540 : decode cL_law 540 = .ok (.iadd, 1) := by decide +kernel
theorem dL_law_541 : decode cL_law 541 = .ok (.iaload, 1) := by decide +kernel
theorem dL_law_542 : decode cL_law 542 = .ok (.aload_n 0, 1) := by decide +kernel
theorem dL_law_543 : decode cL_law 543 = .ok (.iload_n 3, 1) := by decide +kernel
theorem dL_law_544 : decode cL_law 544 = .ok (.iconst 3, 1) := by decide +kernel
theorem dL_law_545 : decode cL_law 545 = .ok (.iadd, 1) := by decide +kernel
theorem dL_law_546 : decode cL_law 546 = .ok (.iaload, 1) := by decide +kernel
theorem dL_law_547 : decode cL_law 547 = .ok (.ifCond .eq 7, 3) := by decide +kernel
theorem dL_law_550 : decode cL_law 550 = .ok (.iconst 1, 1) := by decide +kernel
theorem dL_law_551 : decode cL_law 551 = .ok (.goto 4, 3) := by decide +kernel
theorem dL_law_554 : decode cL_law 554 = .ok (.iconst 0, 1) := by decide +kernel
theorem dL_law_555 : decode cL_law 555 = .ok (.aload_n 0, 1) := by decide +kernel
theorem dL_law_556 : decode cL_law 556 = .ok (.iload_n 3, 1) := by decide +kernel
theorem dL_law_557 : decode cL_law 557 = .ok (.iconst 4, 1) := by decide +kernel
theorem dL_law_558 : decode cL_law 558 = .ok (.iadd, 1) := by decide +kernel
theorem dL_law_559 : decode cL_law 559 = .ok (.iaload, 1) := by decide +kernel
theorem dL_law_560 : decode cL_law 560 = .ok (.invokevirtual 55, 3) := by decide +kernel
theorem dL_law_563 : decode cL_law 563 = .ok (.aload_n 2, 1) := by decide +kernel
theorem dL_law_564 : decode cL_law 564 = .ok (.aload_n 0, 1) := by decide +kernel
theorem dL_law_565 : decode cL_law 565 = .ok (.iload_n 3, 1) := by decide +kernel
theorem dL_law_566 : decode cL_law 566 = .ok (.iconst 1, 1) := by decide +kernel
theorem dL_law_567 : decode cL_law 567 = .ok (.iadd, 1) := by decide +kernel
theorem dL_law_568 : decode cL_law 568 = .ok (.iaload, 1) := by decide +kernel
theorem dL_law_569 : decode cL_law 569 = .ok (.aload_n 0, 1) := by decide +kernel
theorem dL_law_570 : decode cL_law 570 = .ok (.iload_n 3, 1) := by decide +kernel
theorem dL_law_571 : decode cL_law 571 = .ok (.iconst 2, 1) := by decide +kernel
theorem dL_law_572 : decode cL_law 572 = .ok (.iadd, 1) := by decide +kernel
theorem dL_law_573 : decode cL_law 573 = .ok (.iaload, 1) := by decide +kernel
theorem dL_law_574 : decode cL_law 574 = .ok (.aload_n 0, 1) := by decide +kernel
theorem dL_law_575 : decode cL_law 575 = .ok (.iload_n 3, 1) := by decide +kernel
theorem dL_law_576 : decode cL_law 576 = .ok (.iconst 3, 1) := by decide +kernel
theorem dL_law_577 : decode cL_law 577 = .ok (.iadd, 1) := by decide +kernel
theorem dL_law_578 : decode cL_law 578 = .ok (.iaload, 1) := by decide +kernel
theorem dL_law_579 : decode cL_law 579 = .ok (.ifCond .eq 7, 3) := by decide +kernel
theorem dL_law_582 : decode cL_law 582 = .ok (.iconst 1, 1) := by decide +kernel
theorem dL_law_583 : decode cL_law 583 = .ok (.goto 4, 3) := by decide +kernel
theorem dL_law_586 : decode cL_law 586 = .ok (.iconst 0, 1) := by decide +kernel
theorem dL_law_587 : decode cL_law 587 = .ok (.aload_n 0, 1) := by decide +kernel
theorem dL_law_588 : decode cL_law 588 = .ok (.iload_n 3, 1) := by decide +kernel
theorem dL_law_589 : decode cL_law 589 = .ok (.iconst 4, 1) := by decide +kernel
theorem dL_law_590 : decode cL_law 590 = .ok (.iadd, 1) := by decide +kernel
theorem dL_law_591 : decode cL_law 591 = .ok (.iaload, 1) := by decide +kernel
theorem dL_law_592 : decode cL_law 592 = .ok (.invokevirtual 59, 3) := by decide +kernel
theorem dL_law_595 : decode cL_law 595 = .ok (.if_icmp .eq 569, 3) := by decide +kernel
theorem dL_law_598 : decode cL_law 598 = .ok (.iconst 0, 1) := by decide +kernel
theorem dL_law_599 : decode cL_law 599 = .ok (.ireturn, 1) := by decide +kernel
theorem lw_q_add {S : TSt} {A : ASt} {t u lz to : Int} : IQ (fun q S' A' => (∃ x y tn : Nat, x < 12 ∧ y < 12 ∧ t = (x : Int) ∧ u = (y : Int) ∧ 0 < S.r x ∧ 0 < S.r y ∧ tn < 12 ∧ to = (tn : Int) ∧ S.r x = S.r y ∧ S.c x = S.c y ∧ RK S A tn (S.r x) (S.c x) (fun i j => S.N x (5 * i + j) + (if lz = 0 then S.N y (5 * i + j) else - S.N y (5 * i + j))) q S' A') ∨ (¬ (∃ x y : Nat, x < 12 ∧ y < 12 ∧ t = (x : Int) ∧ u = (y : Int) ∧ 0 < S.r x ∧ 0 < S.r y ∧ 0 ≤ to ∧ to < 12 ∧ S.r x = S.r y ∧ S.c x = S.c y) ∧ some (.int (iZ 0)) = q ∧ S' = S ∧ A' = A)) := by
  rintro q S1 A1 (⟨x, y, tn, -, -, -, -, -, -, -, -, -, -, h⟩ | ⟨-, h, -⟩)
  · exact iq_rk _ _ _ h
  · exact ⟨_, h⟩
theorem lw_k_add {g : GX} {nm : String} {sb Ls b i : Nat} {xs : Nat → Int32} {V : AH} {sz : Nat} {Z : Nat → Int} {P L : Nat → Nat} {zs : Nat → Int} {S : TSt} {A : ASt} (hL : Ls ≤ 4096) (hi : i + 8 ≤ Ls) (h : LI g b V sz Z P L zs S A) (nx : Lnx g nm sb Ls xs b i) : AW g (mLw nm sb Ls xs) 13 531 (lwv sb b i) [] V sz (LwQ b L) := by
  have hb := h.2.1.1.1
  obtain ⟨rk, kn, hm⟩ := h.2.2.1
  by_cases hz : xz xs (i + 3) = 0
  · refine aw_aload_n dL_law_531 (by rfl) (Or.inr ⟨_, rfl⟩) ?_
    refine aw_aload_n dL_law_532 (by rfl) (Or.inr ⟨_, rfl⟩) ?_
    refine aw_iload_n dL_law_533 (by rfl) ?_
    refine aw_iconstZ dL_law_534 ?_
    refine aw_iaddZ dL_law_535 ?_
    refine aw_sld (i + 1) dL_law_536 (by omega) (by omega) (by omega) ?_
    refine aw_aload_n dL_law_537 (by rfl) (Or.inr ⟨_, rfl⟩) ?_
    refine aw_iload_n dL_law_538 (by rfl) ?_
    refine aw_iconstZ dL_law_539 ?_
    refine aw_iaddZ dL_law_540 ?_
    refine aw_sld (i + 2) dL_law_541 (by omega) (by omega) (by omega) ?_
    refine aw_aload_n dL_law_542 (by rfl) (Or.inr ⟨_, rfl⟩) ?_
    refine aw_iload_n dL_law_543 (by rfl) ?_
    refine aw_iconstZ dL_law_544 ?_
    refine aw_iaddZ dL_law_545 ?_
    refine aw_sld (i + 3) dL_law_546 (by omega) (by omega) (by omega) ?_
    refine aw_if_eqZ (tgt := 554) dL_law_547 (by decide) (xz_R xs (i + 3)) (fun _ => ?_) (fun q => absurd hz q)
    refine aw_iconstZ dL_law_554 ?_
    refine aw_aload_n dL_law_555 (by rfl) (Or.inr ⟨_, rfl⟩) ?_
    refine aw_iload_n dL_law_556 (by rfl) ?_
    refine aw_iconstZ dL_law_557 ?_
    refine aw_iaddZ dL_law_558 ?_
    refine aw_sld (i + 4) dL_law_559 (by omega) (by omega) (by omega) ?_
    refine aw_callv vL_55 dL_law_560 hb (c_add 9 h.1 h.2.1 (xz_R xs (i + 1)) (xz_R xs (i + 2)) (xz_R xs (i + 4)) (lz := 0) (Or.inl rfl)) (by rfl) (by rfl) (by omega) (Nat.le_of_ble_eq_true rfl) ?_
    rintro r1 V1 sz1 mc1 ms1 ⟨Z1, P1, L1, ⟨S1, A1, hC1, hR1⟩, hW1⟩ -
    have hX1 := lw_rx h hW1
    obtain ⟨rk1, kn1, hm1⟩ := hX1.1
    obtain ⟨x1, rfl⟩ := lw_q_add _ _ _ hR1
    refine aw_aload_n dL_law_563 (by rfl) (Or.inr ⟨_, rfl⟩) ?_
    refine aw_aload_n dL_law_564 (by rfl) (Or.inr ⟨_, rfl⟩) ?_
    refine aw_iload_n dL_law_565 (by rfl) ?_
    refine aw_iconstZ dL_law_566 ?_
    refine aw_iaddZ dL_law_567 ?_
    refine aw_sld (i + 1) dL_law_568 (by omega) (by omega) (by omega) ?_
    refine aw_aload_n dL_law_569 (by rfl) (Or.inr ⟨_, rfl⟩) ?_
    refine aw_iload_n dL_law_570 (by rfl) ?_
    refine aw_iconstZ dL_law_571 ?_
    refine aw_iaddZ dL_law_572 ?_
    refine aw_sld (i + 2) dL_law_573 (by omega) (by omega) (by omega) ?_
    refine aw_aload_n dL_law_574 (by rfl) (Or.inr ⟨_, rfl⟩) ?_
    refine aw_iload_n dL_law_575 (by rfl) ?_
    refine aw_iconstZ dL_law_576 ?_
    refine aw_iaddZ dL_law_577 ?_
    refine aw_sld (i + 3) dL_law_578 (by omega) (by omega) (by omega) ?_
    refine aw_if_eqZ (tgt := 586) dL_law_579 (by decide) (xz_R xs (i + 3)) (fun _ => ?_) (fun q => absurd hz q)
    refine aw_iconstZ dL_law_586 ?_
    refine aw_aload_n dL_law_587 (by rfl) (Or.inr ⟨_, rfl⟩) ?_
    refine aw_iload_n dL_law_588 (by rfl) ?_
    refine aw_iconstZ dL_law_589 ?_
    refine aw_iaddZ dL_law_590 ?_
    refine aw_sld (i + 4) dL_law_591 (by omega) (by omega) (by omega) ?_
    refine aw_callv vL_59 dL_law_592 hm1 (m_add g 10 hX1 (xz_R xs (i + 1)) (xz_R xs (i + 2)) (xz_R xs (i + 4)) (lz := 0) (Or.inl rfl)) (by rfl) (by rfl) (by omega) (Nat.le_of_ble_eq_true rfl) ?_
    rintro r2 V2 sz2 mc2 ms2 ⟨rfl, rfl, rfl, hV2, z2, S2, A2, hX2, hR2⟩ -
    obtain ⟨x2, e1, rfl, hL2⟩ := lw_two uq_add lw_q_add hW1 hC1 hR1 hV2 hX2 hR2
    cases e1
    refine aw_icmp_eq (tgt := 1164) dL_law_595 (by decide) (fun _ => ?_) (fun q => absurd rfl q)
    exact lw_cls nx hL2 hW1.2.2.2.2.1 hW1.2.2.2.2.2 (fun _ _ _ _ _ q => q)
  · refine aw_aload_n dL_law_531 (by rfl) (Or.inr ⟨_, rfl⟩) ?_
    refine aw_aload_n dL_law_532 (by rfl) (Or.inr ⟨_, rfl⟩) ?_
    refine aw_iload_n dL_law_533 (by rfl) ?_
    refine aw_iconstZ dL_law_534 ?_
    refine aw_iaddZ dL_law_535 ?_
    refine aw_sld (i + 1) dL_law_536 (by omega) (by omega) (by omega) ?_
    refine aw_aload_n dL_law_537 (by rfl) (Or.inr ⟨_, rfl⟩) ?_
    refine aw_iload_n dL_law_538 (by rfl) ?_
    refine aw_iconstZ dL_law_539 ?_
    refine aw_iaddZ dL_law_540 ?_
    refine aw_sld (i + 2) dL_law_541 (by omega) (by omega) (by omega) ?_
    refine aw_aload_n dL_law_542 (by rfl) (Or.inr ⟨_, rfl⟩) ?_
    refine aw_iload_n dL_law_543 (by rfl) ?_
    refine aw_iconstZ dL_law_544 ?_
    refine aw_iaddZ dL_law_545 ?_
    refine aw_sld (i + 3) dL_law_546 (by omega) (by omega) (by omega) ?_
    refine aw_if_eqZ (tgt := 554) dL_law_547 (by decide) (xz_R xs (i + 3)) (fun q => absurd q hz) (fun _ => ?_)
    refine aw_iconstZ dL_law_550 ?_
    refine aw_goto (tgt := 555) dL_law_551 (by decide) ?_
    refine aw_aload_n dL_law_555 (by rfl) (Or.inr ⟨_, rfl⟩) ?_
    refine aw_iload_n dL_law_556 (by rfl) ?_
    refine aw_iconstZ dL_law_557 ?_
    refine aw_iaddZ dL_law_558 ?_
    refine aw_sld (i + 4) dL_law_559 (by omega) (by omega) (by omega) ?_
    refine aw_callv vL_55 dL_law_560 hb (c_add 9 h.1 h.2.1 (xz_R xs (i + 1)) (xz_R xs (i + 2)) (xz_R xs (i + 4)) (lz := 1) (Or.inr rfl)) (by rfl) (by rfl) (by omega) (Nat.le_of_ble_eq_true rfl) ?_
    rintro r1 V1 sz1 mc1 ms1 ⟨Z1, P1, L1, ⟨S1, A1, hC1, hR1⟩, hW1⟩ -
    have hX1 := lw_rx h hW1
    obtain ⟨rk1, kn1, hm1⟩ := hX1.1
    obtain ⟨x1, rfl⟩ := lw_q_add _ _ _ hR1
    refine aw_aload_n dL_law_563 (by rfl) (Or.inr ⟨_, rfl⟩) ?_
    refine aw_aload_n dL_law_564 (by rfl) (Or.inr ⟨_, rfl⟩) ?_
    refine aw_iload_n dL_law_565 (by rfl) ?_
    refine aw_iconstZ dL_law_566 ?_
    refine aw_iaddZ dL_law_567 ?_
    refine aw_sld (i + 1) dL_law_568 (by omega) (by omega) (by omega) ?_
    refine aw_aload_n dL_law_569 (by rfl) (Or.inr ⟨_, rfl⟩) ?_
    refine aw_iload_n dL_law_570 (by rfl) ?_
    refine aw_iconstZ dL_law_571 ?_
    refine aw_iaddZ dL_law_572 ?_
    refine aw_sld (i + 2) dL_law_573 (by omega) (by omega) (by omega) ?_
    refine aw_aload_n dL_law_574 (by rfl) (Or.inr ⟨_, rfl⟩) ?_
    refine aw_iload_n dL_law_575 (by rfl) ?_
    refine aw_iconstZ dL_law_576 ?_
    refine aw_iaddZ dL_law_577 ?_
    refine aw_sld (i + 3) dL_law_578 (by omega) (by omega) (by omega) ?_
    refine aw_if_eqZ (tgt := 586) dL_law_579 (by decide) (xz_R xs (i + 3)) (fun q => absurd q hz) (fun _ => ?_)
    refine aw_iconstZ dL_law_582 ?_
    refine aw_goto (tgt := 587) dL_law_583 (by decide) ?_
    refine aw_aload_n dL_law_587 (by rfl) (Or.inr ⟨_, rfl⟩) ?_
    refine aw_iload_n dL_law_588 (by rfl) ?_
    refine aw_iconstZ dL_law_589 ?_
    refine aw_iaddZ dL_law_590 ?_
    refine aw_sld (i + 4) dL_law_591 (by omega) (by omega) (by omega) ?_
    refine aw_callv vL_59 dL_law_592 hm1 (m_add g 10 hX1 (xz_R xs (i + 1)) (xz_R xs (i + 2)) (xz_R xs (i + 4)) (lz := 1) (Or.inr rfl)) (by rfl) (by rfl) (by omega) (Nat.le_of_ble_eq_true rfl) ?_
    rintro r2 V2 sz2 mc2 ms2 ⟨rfl, rfl, rfl, hV2, z2, S2, A2, hX2, hR2⟩ -
    obtain ⟨x2, e1, rfl, hL2⟩ := lw_two uq_add lw_q_add hW1 hC1 hR1 hV2 hX2 hR2
    cases e1
    refine aw_icmp_eq (tgt := 1164) dL_law_595 (by decide) (fun _ => ?_) (fun q => absurd rfl q)
    exact lw_cls nx hL2 hW1.2.2.2.2.1 hW1.2.2.2.2.2 (fun _ _ _ _ _ q => q)
theorem dL_law_600 : decode cL_law 600 = .ok (.aload_n 1, 1) := by decide +kernel
theorem dL_law_601 : decode cL_law 601 = .ok (.aload_n 0, 1) := by decide +kernel
theorem dL_law_602 : decode cL_law 602 = .ok (.iload_n 3, 1) := by decide +kernel
theorem dL_law_603 : decode cL_law 603 = .ok (.iconst 1, 1) := by decide +kernel
theorem dL_law_604 : decode cL_law 604 = .ok (.iadd, 1) := by decide +kernel
theorem dL_law_605 : decode cL_law 605 = .ok (.iaload, 1) := by decide +kernel
theorem dL_law_606 : decode cL_law 606 = .ok (.aload_n 0, 1) := by decide +kernel
theorem dL_law_607 : decode cL_law 607 = .ok (.iload_n 3, 1) := by decide +kernel
theorem dL_law_608 : decode cL_law 608 = .ok (.iconst 2, 1) := by decide +kernel
theorem dL_law_609 : decode cL_law 609 = .ok (.iadd, 1) := by decide +kernel
theorem dL_law_610 : decode cL_law 610 = .ok (.iaload, 1) := by decide +kernel
theorem dL_law_611 : decode cL_law 611 = .ok (.aload_n 0, 1) := by decide +kernel
theorem dL_law_612 : decode cL_law 612 = .ok (.iload_n 3, 1) := by decide +kernel
theorem dL_law_613 : decode cL_law 613 = .ok (.iconst 3, 1) := by decide +kernel
theorem dL_law_614 : decode cL_law 614 = .ok (.iadd, 1) := by decide +kernel
theorem dL_law_615 : decode cL_law 615 = .ok (.iaload, 1) := by decide +kernel
theorem dL_law_616 : decode cL_law 616 = .ok (.invokevirtual 60, 3) := by decide +kernel
theorem dL_law_619 : decode cL_law 619 = .ok (.aload_n 2, 1) := by decide +kernel
theorem dL_law_620 : decode cL_law 620 = .ok (.aload_n 0, 1) := by decide +kernel
theorem dL_law_621 : decode cL_law 621 = .ok (.iload_n 3, 1) := by decide +kernel
theorem dL_law_622 : decode cL_law 622 = .ok (.iconst 1, 1) := by decide +kernel
theorem dL_law_623 : decode cL_law 623 = .ok (.iadd, 1) := by decide +kernel
theorem dL_law_624 : decode cL_law 624 = .ok (.iaload, 1) := by decide +kernel
theorem dL_law_625 : decode cL_law 625 = .ok (.aload_n 0, 1) := by decide +kernel
theorem dL_law_626 : decode cL_law 626 = .ok (.iload_n 3, 1) := by decide +kernel
theorem dL_law_627 : decode cL_law 627 = .ok (.iconst 2, 1) := by decide +kernel
theorem dL_law_628 : decode cL_law 628 = .ok (.iadd, 1) := by decide +kernel
theorem dL_law_629 : decode cL_law 629 = .ok (.iaload, 1) := by decide +kernel
theorem dL_law_630 : decode cL_law 630 = .ok (.aload_n 0, 1) := by decide +kernel
theorem dL_law_631 : decode cL_law 631 = .ok (.iload_n 3, 1) := by decide +kernel
theorem dL_law_632 : decode cL_law 632 = .ok (.iconst 3, 1) := by decide +kernel
theorem dL_law_633 : decode cL_law 633 = .ok (.iadd, 1) := by decide +kernel
theorem dL_law_634 : decode cL_law 634 = .ok (.iaload, 1) := by decide +kernel
theorem dL_law_635 : decode cL_law 635 = .ok (.invokevirtual 63, 3) := by decide +kernel
theorem dL_law_638 : decode cL_law 638 = .ok (.if_icmp .eq 526, 3) := by decide +kernel
theorem dL_law_641 : decode cL_law 641 = .ok (.iconst 0, 1) := by decide +kernel
theorem dL_law_642 : decode cL_law 642 = .ok (.ireturn, 1) := by decide +kernel
theorem lw_q_times {S : TSt} {A : ASt} {t u to : Int} : IQ (fun q S' A' => (∃ x y tn : Nat, x < 12 ∧ y < 12 ∧ t = (x : Int) ∧ u = (y : Int) ∧ 0 < S.r x ∧ 0 < S.r y ∧ tn < 12 ∧ to = (tn : Int) ∧ S.c x = S.r y ∧ RK S A tn (S.r x) (S.c y) (fun i j => Sg (fun k => S.N x (5 * i + k) * S.N y (5 * k + j)) (S.r y)) q S' A') ∨ (¬ (∃ x y : Nat, x < 12 ∧ y < 12 ∧ t = (x : Int) ∧ u = (y : Int) ∧ 0 < S.r x ∧ 0 < S.r y ∧ 0 ≤ to ∧ to < 12 ∧ S.c x = S.r y) ∧ some (.int (iZ 0)) = q ∧ S' = S ∧ A' = A)) := by
  rintro q S1 A1 (⟨x, y, tn, -, -, -, -, -, -, -, -, -, h⟩ | ⟨-, h, -⟩)
  · exact iq_rk _ _ _ h
  · exact ⟨_, h⟩
theorem lw_k_times {g : GX} {nm : String} {sb Ls b i : Nat} {xs : Nat → Int32} {V : AH} {sz : Nat} {Z : Nat → Int} {P L : Nat → Nat} {zs : Nat → Int} {S : TSt} {A : ASt} (hL : Ls ≤ 4096) (hi : i + 8 ≤ Ls) (h : LI g b V sz Z P L zs S A) (nx : Lnx g nm sb Ls xs b i) : AW g (mLw nm sb Ls xs) 13 600 (lwv sb b i) [] V sz (LwQ b L) := by
  have hb := h.2.1.1.1
  obtain ⟨rk, kn, hm⟩ := h.2.2.1
  refine aw_aload_n dL_law_600 (by rfl) (Or.inr ⟨_, rfl⟩) ?_
  refine aw_aload_n dL_law_601 (by rfl) (Or.inr ⟨_, rfl⟩) ?_
  refine aw_iload_n dL_law_602 (by rfl) ?_
  refine aw_iconstZ dL_law_603 ?_
  refine aw_iaddZ dL_law_604 ?_
  refine aw_sld (i + 1) dL_law_605 (by omega) (by omega) (by omega) ?_
  refine aw_aload_n dL_law_606 (by rfl) (Or.inr ⟨_, rfl⟩) ?_
  refine aw_iload_n dL_law_607 (by rfl) ?_
  refine aw_iconstZ dL_law_608 ?_
  refine aw_iaddZ dL_law_609 ?_
  refine aw_sld (i + 2) dL_law_610 (by omega) (by omega) (by omega) ?_
  refine aw_aload_n dL_law_611 (by rfl) (Or.inr ⟨_, rfl⟩) ?_
  refine aw_iload_n dL_law_612 (by rfl) ?_
  refine aw_iconstZ dL_law_613 ?_
  refine aw_iaddZ dL_law_614 ?_
  refine aw_sld (i + 3) dL_law_615 (by omega) (by omega) (by omega) ?_
  refine aw_callv vL_60 dL_law_616 hb (c_times 9 h.1 h.2.1 (xz_R xs (i + 1)) (xz_R xs (i + 2)) (xz_R xs (i + 3))) (by rfl) (by rfl) (by omega) (Nat.le_of_ble_eq_true rfl) ?_
  rintro r1 V1 sz1 mc1 ms1 ⟨Z1, P1, L1, ⟨S1, A1, hC1, hR1⟩, hW1⟩ -
  have hX1 := lw_rx h hW1
  obtain ⟨rk1, kn1, hm1⟩ := hX1.1
  obtain ⟨x1, rfl⟩ := lw_q_times _ _ _ hR1
  refine aw_aload_n dL_law_619 (by rfl) (Or.inr ⟨_, rfl⟩) ?_
  refine aw_aload_n dL_law_620 (by rfl) (Or.inr ⟨_, rfl⟩) ?_
  refine aw_iload_n dL_law_621 (by rfl) ?_
  refine aw_iconstZ dL_law_622 ?_
  refine aw_iaddZ dL_law_623 ?_
  refine aw_sld (i + 1) dL_law_624 (by omega) (by omega) (by omega) ?_
  refine aw_aload_n dL_law_625 (by rfl) (Or.inr ⟨_, rfl⟩) ?_
  refine aw_iload_n dL_law_626 (by rfl) ?_
  refine aw_iconstZ dL_law_627 ?_
  refine aw_iaddZ dL_law_628 ?_
  refine aw_sld (i + 2) dL_law_629 (by omega) (by omega) (by omega) ?_
  refine aw_aload_n dL_law_630 (by rfl) (Or.inr ⟨_, rfl⟩) ?_
  refine aw_iload_n dL_law_631 (by rfl) ?_
  refine aw_iconstZ dL_law_632 ?_
  refine aw_iaddZ dL_law_633 ?_
  refine aw_sld (i + 3) dL_law_634 (by omega) (by omega) (by omega) ?_
  refine aw_callv vL_63 dL_law_635 hm1 (m_times g 10 hX1 (xz_R xs (i + 1)) (xz_R xs (i + 2)) (xz_R xs (i + 3))) (by rfl) (by rfl) (by omega) (Nat.le_of_ble_eq_true rfl) ?_
  rintro r2 V2 sz2 mc2 ms2 ⟨rfl, rfl, rfl, hV2, z2, S2, A2, hX2, hR2⟩ -
  obtain ⟨x2, e1, rfl, hL2⟩ := lw_two uq_times lw_q_times hW1 hC1 hR1 hV2 hX2 hR2
  cases e1
  refine aw_icmp_eq (tgt := 1164) dL_law_638 (by decide) (fun _ => ?_) (fun q => absurd rfl q)
  exact lw_cls nx hL2 hW1.2.2.2.2.1 hW1.2.2.2.2.2 (fun _ _ _ _ _ q => q)
theorem dL_law_643 : decode cL_law 643 = .ok (.aload_n 1, 1) := by decide +kernel
theorem dL_law_644 : decode cL_law 644 = .ok (.aload_n 0, 1) := by decide +kernel
theorem dL_law_645 : decode cL_law 645 = .ok (.iload_n 3, 1) := by decide +kernel
theorem dL_law_646 : decode cL_law 646 = .ok (.iconst 1, 1) := by decide +kernel
theorem dL_law_647 : decode cL_law 647 = .ok (.iadd, 1) := by decide +kernel
theorem dL_law_648 : decode cL_law 648 = .ok (.iaload, 1) := by decide +kernel
theorem dL_law_649 : decode cL_law 649 = .ok (.aload_n 0, 1) := by decide +kernel
theorem dL_law_650 : decode cL_law 650 = .ok (.iload_n 3, 1) := by decide +kernel
theorem dL_law_651 : decode cL_law 651 = .ok (.iconst 2, 1) := by decide +kernel
theorem dL_law_652 : decode cL_law 652 = .ok (.iadd, 1) := by decide +kernel
theorem dL_law_653 : decode cL_law 653 = .ok (.iaload, 1) := by decide +kernel
theorem dL_law_654 : decode cL_law 654 = .ok (.invokevirtual 64, 3) := by decide +kernel
theorem dL_law_657 : decode cL_law 657 = .ok (.aload_n 2, 1) := by decide +kernel
theorem dL_law_658 : decode cL_law 658 = .ok (.aload_n 0, 1) := by decide +kernel
theorem dL_law_659 : decode cL_law 659 = .ok (.iload_n 3, 1) := by decide +kernel
theorem dL_law_660 : decode cL_law 660 = .ok (.iconst 1, 1) := by decide +kernel
theorem dL_law_661 : decode cL_law 661 = .ok (.iadd, 1) := by decide +kernel
theorem dL_law_662 : decode cL_law 662 = .ok (.iaload, 1) := by decide +kernel
theorem dL_law_663 : decode cL_law 663 = .ok (.aload_n 0, 1) := by decide +kernel
theorem dL_law_664 : decode cL_law 664 = .ok (.iload_n 3, 1) := by decide +kernel
theorem dL_law_665 : decode cL_law 665 = .ok (.iconst 2, 1) := by decide +kernel
theorem dL_law_666 : decode cL_law 666 = .ok (.iadd, 1) := by decide +kernel
theorem dL_law_667 : decode cL_law 667 = .ok (.iaload, 1) := by decide +kernel
theorem dL_law_668 : decode cL_law 668 = .ok (.invokevirtual 67, 3) := by decide +kernel
theorem dL_law_671 : decode cL_law 671 = .ok (.if_icmp .eq 493, 3) := by decide +kernel
theorem dL_law_674 : decode cL_law 674 = .ok (.iconst 0, 1) := by decide +kernel
theorem dL_law_675 : decode cL_law 675 = .ok (.ireturn, 1) := by decide +kernel
theorem lw_q_turn {S : TSt} {A : ASt} {t to : Int} : IQ (fun q S' A' => (∃ a tn : Nat, a < 12 ∧ t = (a : Int) ∧ 0 < S.r a ∧ tn < 12 ∧ to = (tn : Int) ∧ RK S A tn (S.c a) (S.r a) (fun i j => S.N a (5 * j + i)) q S' A') ∨ (¬ (∃ a : Nat, a < 12 ∧ t = (a : Int) ∧ 0 < S.r a ∧ 0 ≤ to ∧ to < 12) ∧ some (.int (iZ 0)) = q ∧ S' = S ∧ A' = A)) := by
  rintro q S1 A1 (⟨x, tn, -, -, -, -, -, h⟩ | ⟨-, h, -⟩)
  · exact iq_rk _ _ _ h
  · exact ⟨_, h⟩
theorem lw_k_turn {g : GX} {nm : String} {sb Ls b i : Nat} {xs : Nat → Int32} {V : AH} {sz : Nat} {Z : Nat → Int} {P L : Nat → Nat} {zs : Nat → Int} {S : TSt} {A : ASt} (hL : Ls ≤ 4096) (hi : i + 8 ≤ Ls) (h : LI g b V sz Z P L zs S A) (nx : Lnx g nm sb Ls xs b i) : AW g (mLw nm sb Ls xs) 13 643 (lwv sb b i) [] V sz (LwQ b L) := by
  have hb := h.2.1.1.1
  obtain ⟨rk, kn, hm⟩ := h.2.2.1
  refine aw_aload_n dL_law_643 (by rfl) (Or.inr ⟨_, rfl⟩) ?_
  refine aw_aload_n dL_law_644 (by rfl) (Or.inr ⟨_, rfl⟩) ?_
  refine aw_iload_n dL_law_645 (by rfl) ?_
  refine aw_iconstZ dL_law_646 ?_
  refine aw_iaddZ dL_law_647 ?_
  refine aw_sld (i + 1) dL_law_648 (by omega) (by omega) (by omega) ?_
  refine aw_aload_n dL_law_649 (by rfl) (Or.inr ⟨_, rfl⟩) ?_
  refine aw_iload_n dL_law_650 (by rfl) ?_
  refine aw_iconstZ dL_law_651 ?_
  refine aw_iaddZ dL_law_652 ?_
  refine aw_sld (i + 2) dL_law_653 (by omega) (by omega) (by omega) ?_
  refine aw_callv vL_64 dL_law_654 hb (c_turn 9 h.1 h.2.1 (xz_R xs (i + 1)) (xz_R xs (i + 2))) (by rfl) (by rfl) (by omega) (Nat.le_of_ble_eq_true rfl) ?_
  rintro r1 V1 sz1 mc1 ms1 ⟨Z1, P1, L1, ⟨S1, A1, hC1, hR1⟩, hW1⟩ -
  have hX1 := lw_rx h hW1
  obtain ⟨rk1, kn1, hm1⟩ := hX1.1
  obtain ⟨x1, rfl⟩ := lw_q_turn _ _ _ hR1
  refine aw_aload_n dL_law_657 (by rfl) (Or.inr ⟨_, rfl⟩) ?_
  refine aw_aload_n dL_law_658 (by rfl) (Or.inr ⟨_, rfl⟩) ?_
  refine aw_iload_n dL_law_659 (by rfl) ?_
  refine aw_iconstZ dL_law_660 ?_
  refine aw_iaddZ dL_law_661 ?_
  refine aw_sld (i + 1) dL_law_662 (by omega) (by omega) (by omega) ?_
  refine aw_aload_n dL_law_663 (by rfl) (Or.inr ⟨_, rfl⟩) ?_
  refine aw_iload_n dL_law_664 (by rfl) ?_
  refine aw_iconstZ dL_law_665 ?_
  refine aw_iaddZ dL_law_666 ?_
  refine aw_sld (i + 2) dL_law_667 (by omega) (by omega) (by omega) ?_
  refine aw_callv vL_67 dL_law_668 hm1 (m_turn g 10 hX1 (xz_R xs (i + 1)) (xz_R xs (i + 2))) (by rfl) (by rfl) (by omega) (Nat.le_of_ble_eq_true rfl) ?_
  rintro r2 V2 sz2 mc2 ms2 ⟨rfl, rfl, rfl, hV2, z2, S2, A2, hX2, hR2⟩ -
  obtain ⟨x2, e1, rfl, hL2⟩ := lw_two uq_turn lw_q_turn hW1 hC1 hR1 hV2 hX2 hR2
  cases e1
  refine aw_icmp_eq (tgt := 1164) dL_law_671 (by decide) (fun _ => ?_) (fun q => absurd rfl q)
  exact lw_cls nx hL2 hW1.2.2.2.2.1 hW1.2.2.2.2.2 (fun _ _ _ _ _ q => q)
theorem dL_law_676 : decode cL_law 676 = .ok (.aload_n 1, 1) := by decide +kernel
theorem dL_law_677 : decode cL_law 677 = .ok (.aload_n 0, 1) := by decide +kernel
theorem dL_law_678 : decode cL_law 678 = .ok (.iload_n 3, 1) := by decide +kernel
theorem dL_law_679 : decode cL_law 679 = .ok (.iconst 1, 1) := by decide +kernel
theorem dL_law_680 : decode cL_law 680 = .ok (.iadd, 1) := by decide +kernel
theorem dL_law_681 : decode cL_law 681 = .ok (.iaload, 1) := by decide +kernel
theorem dL_law_682 : decode cL_law 682 = .ok (.aload_n 0, 1) := by decide +kernel
theorem dL_law_683 : decode cL_law 683 = .ok (.iload_n 3, 1) := by decide +kernel
theorem dL_law_684 : decode cL_law 684 = .ok (.iconst 2, 1) := by decide +kernel
theorem dL_law_685 : decode cL_law 685 = .ok (.iadd, 1) := by decide +kernel
theorem dL_law_686 : decode cL_law 686 = .ok (.iaload, 1) := by decide +kernel
theorem dL_law_687 : decode cL_law 687 = .ok (.invokevirtual 68, 3) := by decide +kernel
theorem dL_law_690 : decode cL_law 690 = .ok (.aload_n 2, 1) := by decide +kernel
theorem dL_law_691 : decode cL_law 691 = .ok (.aload_n 0, 1) := by decide +kernel
theorem dL_law_692 : decode cL_law 692 = .ok (.iload_n 3, 1) := by decide +kernel
theorem dL_law_693 : decode cL_law 693 = .ok (.iconst 1, 1) := by decide +kernel
theorem dL_law_694 : decode cL_law 694 = .ok (.iadd, 1) := by decide +kernel
theorem dL_law_695 : decode cL_law 695 = .ok (.iaload, 1) := by decide +kernel
theorem dL_law_696 : decode cL_law 696 = .ok (.aload_n 0, 1) := by decide +kernel
theorem dL_law_697 : decode cL_law 697 = .ok (.iload_n 3, 1) := by decide +kernel
theorem dL_law_698 : decode cL_law 698 = .ok (.iconst 2, 1) := by decide +kernel
theorem dL_law_699 : decode cL_law 699 = .ok (.iadd, 1) := by decide +kernel
theorem dL_law_700 : decode cL_law 700 = .ok (.iaload, 1) := by decide +kernel
theorem dL_law_701 : decode cL_law 701 = .ok (.invokevirtual 71, 3) := by decide +kernel
theorem dL_law_704 : decode cL_law 704 = .ok (.if_icmp .eq 460, 3) := by decide +kernel
theorem dL_law_707 : decode cL_law 707 = .ok (.iconst 0, 1) := by decide +kernel
theorem dL_law_708 : decode cL_law 708 = .ok (.ireturn, 1) := by decide +kernel
theorem lw_u_over {S : TSt} {A : ASt} {t u no : Int} : UQ (AlkR S A t u no (OvR S)) := uq_alk (fun _ _ _ _ _ _ _ _ _ h k => u_ov h k)
theorem lw_q_over {S : TSt} {A : ASt} {t u no : Int} : IQ (AlkR S A t u no (OvR S)) := iq_alk (fun _ _ _ _ h => i_ov h)
theorem lw_k_over {g : GX} {nm : String} {sb Ls b i : Nat} {xs : Nat → Int32} {V : AH} {sz : Nat} {Z : Nat → Int} {P L : Nat → Nat} {zs : Nat → Int} {S : TSt} {A : ASt} (hL : Ls ≤ 4096) (hi : i + 8 ≤ Ls) (h : LI g b V sz Z P L zs S A) (nx : Lnx g nm sb Ls xs b i) : AW g (mLw nm sb Ls xs) 13 676 (lwv sb b i) [] V sz (LwQ b L) := by
  have hb := h.2.1.1.1
  obtain ⟨rk, kn, hm⟩ := h.2.2.1
  refine aw_aload_n dL_law_676 (by rfl) (Or.inr ⟨_, rfl⟩) ?_
  refine aw_aload_n dL_law_677 (by rfl) (Or.inr ⟨_, rfl⟩) ?_
  refine aw_iload_n dL_law_678 (by rfl) ?_
  refine aw_iconstZ dL_law_679 ?_
  refine aw_iaddZ dL_law_680 ?_
  refine aw_sld (i + 1) dL_law_681 (by omega) (by omega) (by omega) ?_
  refine aw_aload_n dL_law_682 (by rfl) (Or.inr ⟨_, rfl⟩) ?_
  refine aw_iload_n dL_law_683 (by rfl) ?_
  refine aw_iconstZ dL_law_684 ?_
  refine aw_iaddZ dL_law_685 ?_
  refine aw_sld (i + 2) dL_law_686 (by omega) (by omega) (by omega) ?_
  refine aw_callv vL_68 dL_law_687 hb (c_over 8 h.1 h.2.1 (xz_R xs (i + 1)) (xz_R xs (i + 2))) (by rfl) (by rfl) (by omega) (Nat.le_of_ble_eq_true rfl) ?_
  rintro r1 V1 sz1 mc1 ms1 ⟨Z1, P1, L1, ⟨S1, A1, hC1, hR1⟩, hW1⟩ -
  have hX1 := lw_rx h hW1
  obtain ⟨rk1, kn1, hm1⟩ := hX1.1
  obtain ⟨x1, rfl⟩ := lw_q_over _ _ _ hR1
  refine aw_aload_n dL_law_690 (by rfl) (Or.inr ⟨_, rfl⟩) ?_
  refine aw_aload_n dL_law_691 (by rfl) (Or.inr ⟨_, rfl⟩) ?_
  refine aw_iload_n dL_law_692 (by rfl) ?_
  refine aw_iconstZ dL_law_693 ?_
  refine aw_iaddZ dL_law_694 ?_
  refine aw_sld (i + 1) dL_law_695 (by omega) (by omega) (by omega) ?_
  refine aw_aload_n dL_law_696 (by rfl) (Or.inr ⟨_, rfl⟩) ?_
  refine aw_iload_n dL_law_697 (by rfl) ?_
  refine aw_iconstZ dL_law_698 ?_
  refine aw_iaddZ dL_law_699 ?_
  refine aw_sld (i + 2) dL_law_700 (by omega) (by omega) (by omega) ?_
  refine aw_callv vL_71 dL_law_701 hm1 (m_over g 10 hX1 (xz_R xs (i + 1)) (xz_R xs (i + 2))) (by rfl) (by rfl) (by omega) (Nat.le_of_ble_eq_true rfl) ?_
  rintro r2 V2 sz2 mc2 ms2 ⟨rfl, rfl, rfl, hV2, z2, S2, A2, hX2, hR2⟩ -
  obtain ⟨x2, e1, rfl, hL2⟩ := lw_two lw_u_over lw_q_over hW1 hC1 hR1 hV2 hX2 hR2
  cases e1
  refine aw_icmp_eq (tgt := 1164) dL_law_704 (by decide) (fun _ => ?_) (fun q => absurd rfl q)
  exact lw_cls nx hL2 hW1.2.2.2.2.1 hW1.2.2.2.2.2 (fun _ _ _ _ _ q => q)
theorem dL_law_709 : decode cL_law 709 = .ok (.aload_n 1, 1) := by decide +kernel
theorem dL_law_710 : decode cL_law 710 = .ok (.aload_n 0, 1) := by decide +kernel
theorem dL_law_711 : decode cL_law 711 = .ok (.iload_n 3, 1) := by decide +kernel
theorem dL_law_712 : decode cL_law 712 = .ok (.iconst 1, 1) := by decide +kernel
theorem dL_law_713 : decode cL_law 713 = .ok (.iadd, 1) := by decide +kernel
theorem dL_law_714 : decode cL_law 714 = .ok (.iaload, 1) := by decide +kernel
theorem dL_law_715 : decode cL_law 715 = .ok (.invokevirtual 72, 3) := by decide +kernel
theorem dL_law_718 : decode cL_law 718 = .ok (.aload_n 2, 1) := by decide +kernel
theorem dL_law_719 : decode cL_law 719 = .ok (.aload_n 0, 1) := by decide +kernel
theorem dL_law_720 : decode cL_law 720 = .ok (.iload_n 3, 1) := by decide +kernel
theorem dL_law_721 : decode cL_law 721 = .ok (.iconst 1, 1) := by decide +kernel
theorem dL_law_722 : decode cL_law 722 = .ok (.iadd, 1) := by decide +kernel
theorem dL_law_723 : decode cL_law 723 = .ok (.iaload, 1) := by decide +kernel
theorem dL_law_724 : decode cL_law 724 = .ok (.invokevirtual 75, 3) := by decide +kernel
theorem dL_law_727 : decode cL_law 727 = .ok (.if_icmp .eq 437, 3) := by decide +kernel
theorem dL_law_730 : decode cL_law 730 = .ok (.iconst 0, 1) := by decide +kernel
theorem dL_law_731 : decode cL_law 731 = .ok (.ireturn, 1) := by decide +kernel
theorem lw_k_worth {g : GX} {nm : String} {sb Ls b i : Nat} {xs : Nat → Int32} {V : AH} {sz : Nat} {Z : Nat → Int} {P L : Nat → Nat} {zs : Nat → Int} {S : TSt} {A : ASt} (hL : Ls ≤ 4096) (hi : i + 8 ≤ Ls) (h : LI g b V sz Z P L zs S A) (nx : Lnx g nm sb Ls xs b i) : AW g (mLw nm sb Ls xs) 13 709 (lwv sb b i) [] V sz (LwQ b L) := by
  have hb := h.2.1.1.1
  obtain ⟨rk, kn, hm⟩ := h.2.2.1
  refine aw_aload_n dL_law_709 (by rfl) (Or.inr ⟨_, rfl⟩) ?_
  refine aw_aload_n dL_law_710 (by rfl) (Or.inr ⟨_, rfl⟩) ?_
  refine aw_iload_n dL_law_711 (by rfl) ?_
  refine aw_iconstZ dL_law_712 ?_
  refine aw_iaddZ dL_law_713 ?_
  refine aw_sld (i + 1) dL_law_714 (by omega) (by omega) (by omega) ?_
  refine aw_callv vL_72 dL_law_715 hb (c_worth 4 h.1 h.2.1 (xz_R xs (i + 1))) (by rfl) (by rfl) (by omega) (Nat.le_of_ble_eq_true rfl) ?_
  rintro r1 V1 sz1 mc1 ms1 ⟨Z1, P1, L1, ⟨S1, A1, hC1, hR1⟩, hW1⟩ -
  have hX1 := lw_rx h hW1
  obtain ⟨rk1, kn1, hm1⟩ := hX1.1
  obtain ⟨x1, rfl⟩ := iq_wor _ _ _ hR1
  refine aw_aload_n dL_law_718 (by rfl) (Or.inr ⟨_, rfl⟩) ?_
  refine aw_aload_n dL_law_719 (by rfl) (Or.inr ⟨_, rfl⟩) ?_
  refine aw_iload_n dL_law_720 (by rfl) ?_
  refine aw_iconstZ dL_law_721 ?_
  refine aw_iaddZ dL_law_722 ?_
  refine aw_sld (i + 1) dL_law_723 (by omega) (by omega) (by omega) ?_
  refine aw_callv vL_75 dL_law_724 hm1 (m_worth g 9 hX1 (xz_R xs (i + 1))) (by rfl) (by rfl) (by omega) (Nat.le_of_ble_eq_true rfl) ?_
  rintro r2 V2 sz2 mc2 ms2 ⟨rfl, rfl, rfl, hV2, z2, S2, A2, hX2, hR2⟩ -
  obtain ⟨x2, e1, rfl, hL2⟩ := lw_two uq_wor iq_wor hW1 hC1 hR1 hV2 hX2 hR2
  cases e1
  refine aw_icmp_eq (tgt := 1164) dL_law_727 (by decide) (fun _ => ?_) (fun q => absurd rfl q)
  exact lw_cls nx hL2 hW1.2.2.2.2.1 hW1.2.2.2.2.2 (fun _ _ _ _ _ q => q)
