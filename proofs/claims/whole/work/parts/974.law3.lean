/-! LAW: number, copy, size, key, tag -/
theorem dc_L_law_478 : decode code 478 = .ok (.aload_n 1, 1) := by decide +kernel
theorem dc_L_law_479 : decode code 479 = .ok (.aload_n 0, 1) := by decide +kernel
theorem dc_L_law_480 : decode code 480 = .ok (.iload 4, 2) := by decide +kernel
theorem dc_L_law_482 : decode code 482 = .ok (.iconst 1, 1) := by decide +kernel
theorem dc_L_law_483 : decode code 483 = .ok (.iadd, 1) := by decide +kernel
theorem dc_L_law_484 : decode code 484 = .ok (.iaload, 1) := by decide +kernel
theorem dc_L_law_485 : decode code 485 = .ok (.invokestatic 116, 3) := by decide +kernel
theorem dc_L_law_488 : decode code 488 = .ok (.istore 5, 2) := by decide +kernel
theorem dc_L_law_490 : decode code 490 = .ok (.aload_n 2, 1) := by decide +kernel
theorem dc_L_law_491 : decode code 491 = .ok (.aload_n 0, 1) := by decide +kernel
theorem dc_L_law_492 : decode code 492 = .ok (.iload 4, 2) := by decide +kernel
theorem dc_L_law_494 : decode code 494 = .ok (.iconst 1, 1) := by decide +kernel
theorem dc_L_law_495 : decode code 495 = .ok (.iadd, 1) := by decide +kernel
theorem dc_L_law_496 : decode code 496 = .ok (.iaload, 1) := by decide +kernel
theorem dc_L_law_497 : decode code 497 = .ok (.invokevirtual 119, 3) := by decide +kernel
theorem dc_L_law_500 : decode code 500 = .ok (.aload_n 2, 1) := by decide +kernel
theorem dc_L_law_501 : decode code 501 = .ok (.invokevirtual 100, 3) := by decide +kernel
theorem dc_L_law_504 : decode code 504 = .ok (.iload 5, 2) := by decide +kernel
theorem dc_L_law_506 : decode code 506 = .ok (.if_icmp .eq 5, 3) := by decide +kernel
theorem dc_L_law_509 : decode code 509 = .ok (.iconst 0, 1) := by decide +kernel
theorem dc_L_law_510 : decode code 510 = .ok (.ireturn, 1) := by decide +kernel
theorem dc_L_law_511 : decode code 511 = .ok (.goto 1089, 3) := by decide +kernel
theorem dc_L_law_514 : decode code 514 = .ok (.aload_n 1, 1) := by decide +kernel
theorem dc_L_law_515 : decode code 515 = .ok (.aload_n 0, 1) := by decide +kernel
theorem dc_L_law_516 : decode code 516 = .ok (.iload 4, 2) := by decide +kernel
theorem dc_L_law_518 : decode code 518 = .ok (.iconst 1, 1) := by decide +kernel
theorem dc_L_law_519 : decode code 519 = .ok (.iadd, 1) := by decide +kernel
theorem dc_L_law_520 : decode code 520 = .ok (.iaload, 1) := by decide +kernel
theorem dc_L_law_521 : decode code 521 = .ok (.aload_n 0, 1) := by decide +kernel
theorem dc_L_law_522 : decode code 522 = .ok (.iload 4, 2) := by decide +kernel
theorem dc_L_law_524 : decode code 524 = .ok (.iconst 2, 1) := by decide +kernel
theorem dc_L_law_525 : decode code 525 = .ok (.iadd, 1) := by decide +kernel
theorem dc_L_law_526 : decode code 526 = .ok (.iaload, 1) := by decide +kernel
theorem dc_L_law_527 : decode code 527 = .ok (.invokestatic 120, 3) := by decide +kernel
theorem dc_L_law_530 : decode code 530 = .ok (.istore 5, 2) := by decide +kernel
theorem dc_L_law_532 : decode code 532 = .ok (.aload_n 2, 1) := by decide +kernel
theorem dc_L_law_533 : decode code 533 = .ok (.aload_n 0, 1) := by decide +kernel
theorem dc_L_law_534 : decode code 534 = .ok (.iload 4, 2) := by decide +kernel
theorem dc_L_law_536 : decode code 536 = .ok (.iconst 1, 1) := by decide +kernel
theorem dc_L_law_537 : decode code 537 = .ok (.iadd, 1) := by decide +kernel
theorem dc_L_law_538 : decode code 538 = .ok (.iaload, 1) := by decide +kernel
theorem dc_L_law_539 : decode code 539 = .ok (.aload_n 0, 1) := by decide +kernel
theorem dc_L_law_540 : decode code 540 = .ok (.iload 4, 2) := by decide +kernel
theorem dc_L_law_542 : decode code 542 = .ok (.iconst 2, 1) := by decide +kernel
theorem dc_L_law_543 : decode code 543 = .ok (.iadd, 1) := by decide +kernel
theorem dc_L_law_544 : decode code 544 = .ok (.iaload, 1) := by decide +kernel
theorem dc_L_law_545 : decode code 545 = .ok (.invokevirtual 122, 3) := by decide +kernel
theorem dc_L_law_548 : decode code 548 = .ok (.aload_n 2, 1) := by decide +kernel
theorem dc_L_law_549 : decode code 549 = .ok (.invokevirtual 100, 3) := by decide +kernel
theorem dc_L_law_552 : decode code 552 = .ok (.iload 5, 2) := by decide +kernel
theorem dc_L_law_554 : decode code 554 = .ok (.if_icmp .eq 5, 3) := by decide +kernel
theorem dc_L_law_557 : decode code 557 = .ok (.iconst 0, 1) := by decide +kernel
theorem dc_L_law_558 : decode code 558 = .ok (.ireturn, 1) := by decide +kernel
theorem dc_L_law_559 : decode code 559 = .ok (.goto 1041, 3) := by decide +kernel
theorem dc_L_law_562 : decode code 562 = .ok (.aload_n 1, 1) := by decide +kernel
theorem dc_L_law_563 : decode code 563 = .ok (.aload_n 0, 1) := by decide +kernel
theorem dc_L_law_564 : decode code 564 = .ok (.iload 4, 2) := by decide +kernel
theorem dc_L_law_566 : decode code 566 = .ok (.iconst 1, 1) := by decide +kernel
theorem dc_L_law_567 : decode code 567 = .ok (.iadd, 1) := by decide +kernel
theorem dc_L_law_568 : decode code 568 = .ok (.iaload, 1) := by decide +kernel
theorem dc_L_law_569 : decode code 569 = .ok (.aload_n 3, 1) := by decide +kernel
theorem dc_L_law_570 : decode code 570 = .ok (.invokestatic 123, 3) := by decide +kernel
theorem dc_L_law_573 : decode code 573 = .ok (.istore 5, 2) := by decide +kernel
theorem dc_L_law_575 : decode code 575 = .ok (.aload_n 2, 1) := by decide +kernel
theorem dc_L_law_576 : decode code 576 = .ok (.aload_n 0, 1) := by decide +kernel
theorem dc_L_law_577 : decode code 577 = .ok (.iload 4, 2) := by decide +kernel
theorem dc_L_law_579 : decode code 579 = .ok (.iconst 1, 1) := by decide +kernel
theorem dc_L_law_580 : decode code 580 = .ok (.iadd, 1) := by decide +kernel
theorem dc_L_law_581 : decode code 581 = .ok (.iaload, 1) := by decide +kernel
theorem dc_L_law_582 : decode code 582 = .ok (.invokevirtual 126, 3) := by decide +kernel
theorem dc_L_law_585 : decode code 585 = .ok (.istore 6, 2) := by decide +kernel
theorem dc_L_law_587 : decode code 587 = .ok (.aload_n 2, 1) := by decide +kernel
theorem dc_L_law_588 : decode code 588 = .ok (.invokevirtual 100, 3) := by decide +kernel
theorem dc_L_law_591 : decode code 591 = .ok (.iload 5, 2) := by decide +kernel
theorem dc_L_law_593 : decode code 593 = .ok (.if_icmp .eq 5, 3) := by decide +kernel
theorem dc_L_law_596 : decode code 596 = .ok (.iconst 0, 1) := by decide +kernel
theorem dc_L_law_597 : decode code 597 = .ok (.ireturn, 1) := by decide +kernel
theorem dc_L_law_598 : decode code 598 = .ok (.iload 5, 2) := by decide +kernel
theorem dc_L_law_600 : decode code 600 = .ok (.ifCond .ne 15, 3) := by decide +kernel
theorem dc_L_law_603 : decode code 603 = .ok (.aload_n 3, 1) := by decide +kernel
theorem dc_L_law_604 : decode code 604 = .ok (.iconst 0, 1) := by decide +kernel
theorem dc_L_law_605 : decode code 605 = .ok (.laload, 1) := by decide +kernel
theorem dc_L_law_606 : decode code 606 = .ok (.iload 6, 2) := by decide +kernel
theorem dc_L_law_608 : decode code 608 = .ok (.i2l, 1) := by decide +kernel
theorem dc_L_law_609 : decode code 609 = .ok (.lcmp, 1) := by decide +kernel
theorem dc_L_law_610 : decode code 610 = .ok (.ifCond .eq 5, 3) := by decide +kernel
theorem dc_L_law_613 : decode code 613 = .ok (.iconst 0, 1) := by decide +kernel
theorem dc_L_law_614 : decode code 614 = .ok (.ireturn, 1) := by decide +kernel
theorem dc_L_law_615 : decode code 615 = .ok (.goto 985, 3) := by decide +kernel
theorem dc_L_law_618 : decode code 618 = .ok (.aload_n 1, 1) := by decide +kernel
theorem dc_L_law_619 : decode code 619 = .ok (.aload_n 0, 1) := by decide +kernel
theorem dc_L_law_620 : decode code 620 = .ok (.iload 4, 2) := by decide +kernel
theorem dc_L_law_622 : decode code 622 = .ok (.iconst 1, 1) := by decide +kernel
theorem dc_L_law_623 : decode code 623 = .ok (.iadd, 1) := by decide +kernel
theorem dc_L_law_624 : decode code 624 = .ok (.iaload, 1) := by decide +kernel
theorem dc_L_law_625 : decode code 625 = .ok (.aload_n 0, 1) := by decide +kernel
theorem dc_L_law_626 : decode code 626 = .ok (.iload 4, 2) := by decide +kernel
theorem dc_L_law_628 : decode code 628 = .ok (.iconst 2, 1) := by decide +kernel
theorem dc_L_law_629 : decode code 629 = .ok (.iadd, 1) := by decide +kernel
theorem dc_L_law_630 : decode code 630 = .ok (.iaload, 1) := by decide +kernel
theorem dc_L_law_631 : decode code 631 = .ok (.aload_n 3, 1) := by decide +kernel
theorem dc_L_law_632 : decode code 632 = .ok (.invokestatic 127, 3) := by decide +kernel
theorem dc_L_law_635 : decode code 635 = .ok (.istore 5, 2) := by decide +kernel
theorem dc_L_law_637 : decode code 637 = .ok (.aload_n 2, 1) := by decide +kernel
theorem dc_L_law_638 : decode code 638 = .ok (.aload_n 0, 1) := by decide +kernel
theorem dc_L_law_639 : decode code 639 = .ok (.iload 4, 2) := by decide +kernel
theorem dc_L_law_641 : decode code 641 = .ok (.iconst 1, 1) := by decide +kernel
theorem dc_L_law_642 : decode code 642 = .ok (.iadd, 1) := by decide +kernel
theorem dc_L_law_643 : decode code 643 = .ok (.iaload, 1) := by decide +kernel
theorem dc_L_law_644 : decode code 644 = .ok (.aload_n 0, 1) := by decide +kernel
theorem dc_L_law_645 : decode code 645 = .ok (.iload 4, 2) := by decide +kernel
theorem dc_L_law_647 : decode code 647 = .ok (.iconst 2, 1) := by decide +kernel
theorem dc_L_law_648 : decode code 648 = .ok (.iadd, 1) := by decide +kernel
theorem dc_L_law_649 : decode code 649 = .ok (.iaload, 1) := by decide +kernel
theorem dc_L_law_650 : decode code 650 = .ok (.invokevirtual 130, 3) := by decide +kernel
theorem dc_L_law_653 : decode code 653 = .ok (.lstore 6, 2) := by decide +kernel
theorem dc_L_law_655 : decode code 655 = .ok (.aload_n 2, 1) := by decide +kernel
theorem dc_L_law_656 : decode code 656 = .ok (.invokevirtual 100, 3) := by decide +kernel
theorem dc_L_law_659 : decode code 659 = .ok (.iload 5, 2) := by decide +kernel
theorem dc_L_law_661 : decode code 661 = .ok (.if_icmp .eq 5, 3) := by decide +kernel
theorem dc_L_law_664 : decode code 664 = .ok (.iconst 0, 1) := by decide +kernel
theorem dc_L_law_665 : decode code 665 = .ok (.ireturn, 1) := by decide +kernel
theorem dc_L_law_666 : decode code 666 = .ok (.iload 5, 2) := by decide +kernel
theorem dc_L_law_668 : decode code 668 = .ok (.ifCond .ne 14, 3) := by decide +kernel
theorem dc_L_law_671 : decode code 671 = .ok (.aload_n 3, 1) := by decide +kernel
theorem dc_L_law_672 : decode code 672 = .ok (.iconst 0, 1) := by decide +kernel
theorem dc_L_law_673 : decode code 673 = .ok (.laload, 1) := by decide +kernel
theorem dc_L_law_674 : decode code 674 = .ok (.lload 6, 2) := by decide +kernel
theorem dc_L_law_676 : decode code 676 = .ok (.lcmp, 1) := by decide +kernel
theorem dc_L_law_677 : decode code 677 = .ok (.ifCond .eq 5, 3) := by decide +kernel
theorem dc_L_law_680 : decode code 680 = .ok (.iconst 0, 1) := by decide +kernel
theorem dc_L_law_681 : decode code 681 = .ok (.ireturn, 1) := by decide +kernel
theorem dc_L_law_682 : decode code 682 = .ok (.goto 918, 3) := by decide +kernel
theorem dc_L_law_685 : decode code 685 = .ok (.aload_n 1, 1) := by decide +kernel
theorem dc_L_law_686 : decode code 686 = .ok (.aload_n 0, 1) := by decide +kernel
theorem dc_L_law_687 : decode code 687 = .ok (.iload 4, 2) := by decide +kernel
theorem dc_L_law_689 : decode code 689 = .ok (.iconst 1, 1) := by decide +kernel
theorem dc_L_law_690 : decode code 690 = .ok (.iadd, 1) := by decide +kernel
theorem dc_L_law_691 : decode code 691 = .ok (.iaload, 1) := by decide +kernel
theorem dc_L_law_692 : decode code 692 = .ok (.aload_n 0, 1) := by decide +kernel
theorem dc_L_law_693 : decode code 693 = .ok (.iload 4, 2) := by decide +kernel
theorem dc_L_law_695 : decode code 695 = .ok (.iconst 2, 1) := by decide +kernel
theorem dc_L_law_696 : decode code 696 = .ok (.iadd, 1) := by decide +kernel
theorem dc_L_law_697 : decode code 697 = .ok (.iaload, 1) := by decide +kernel
theorem dc_L_law_698 : decode code 698 = .ok (.aload_n 3, 1) := by decide +kernel
theorem dc_L_law_699 : decode code 699 = .ok (.invokestatic 131, 3) := by decide +kernel
theorem dc_L_law_702 : decode code 702 = .ok (.istore 5, 2) := by decide +kernel
theorem dc_L_law_704 : decode code 704 = .ok (.aload_n 2, 1) := by decide +kernel
theorem dc_L_law_705 : decode code 705 = .ok (.aload_n 0, 1) := by decide +kernel
theorem dc_L_law_706 : decode code 706 = .ok (.iload 4, 2) := by decide +kernel
theorem dc_L_law_708 : decode code 708 = .ok (.iconst 1, 1) := by decide +kernel
theorem dc_L_law_709 : decode code 709 = .ok (.iadd, 1) := by decide +kernel
theorem dc_L_law_710 : decode code 710 = .ok (.iaload, 1) := by decide +kernel
theorem dc_L_law_711 : decode code 711 = .ok (.aload_n 0, 1) := by decide +kernel
theorem dc_L_law_712 : decode code 712 = .ok (.iload 4, 2) := by decide +kernel
theorem dc_L_law_714 : decode code 714 = .ok (.iconst 2, 1) := by decide +kernel
theorem dc_L_law_715 : decode code 715 = .ok (.iadd, 1) := by decide +kernel
theorem dc_L_law_716 : decode code 716 = .ok (.iaload, 1) := by decide +kernel
theorem dc_L_law_717 : decode code 717 = .ok (.invokevirtual 133, 3) := by decide +kernel
theorem dc_L_law_720 : decode code 720 = .ok (.istore 6, 2) := by decide +kernel
theorem dc_L_law_722 : decode code 722 = .ok (.aload_n 2, 1) := by decide +kernel
theorem dc_L_law_723 : decode code 723 = .ok (.invokevirtual 100, 3) := by decide +kernel
theorem dc_L_law_726 : decode code 726 = .ok (.iload 5, 2) := by decide +kernel
theorem dc_L_law_728 : decode code 728 = .ok (.if_icmp .eq 5, 3) := by decide +kernel
theorem dc_L_law_731 : decode code 731 = .ok (.iconst 0, 1) := by decide +kernel
theorem dc_L_law_732 : decode code 732 = .ok (.ireturn, 1) := by decide +kernel
theorem dc_L_law_733 : decode code 733 = .ok (.iload 5, 2) := by decide +kernel
theorem dc_L_law_735 : decode code 735 = .ok (.ifCond .ne 15, 3) := by decide +kernel
theorem dc_L_law_738 : decode code 738 = .ok (.aload_n 3, 1) := by decide +kernel
theorem dc_L_law_739 : decode code 739 = .ok (.iconst 0, 1) := by decide +kernel
theorem dc_L_law_740 : decode code 740 = .ok (.laload, 1) := by decide +kernel
theorem dc_L_law_741 : decode code 741 = .ok (.iload 6, 2) := by decide +kernel
theorem dc_L_law_743 : decode code 743 = .ok (.i2l, 1) := by decide +kernel
theorem dc_L_law_744 : decode code 744 = .ok (.lcmp, 1) := by decide +kernel
theorem dc_L_law_745 : decode code 745 = .ok (.ifCond .eq 5, 3) := by decide +kernel
theorem dc_L_law_748 : decode code 748 = .ok (.iconst 0, 1) := by decide +kernel
theorem dc_L_law_749 : decode code 749 = .ok (.ireturn, 1) := by decide +kernel
theorem dc_L_law_750 : decode code 750 = .ok (.goto 850, 3) := by decide +kernel
set_option maxHeartbeats 4000000 in
set_option maxRecDepth 100000 in
theorem lh_number {o : YO} {b L : Nat} {xs : Nat → Int32} (hLw : yLw o b L xs) (hR : yRm o 0 0) (i : Nat) (hi : i + 7 ≤ L) (S1 : YS) (c : Nat) (hc4 : c < 4) (lev : Nat) (hlev : lev ≤ 30) (H : yC o.l mn_M_number mb_M_number 3 none lev o.G [.ref (o.G.ad (24)), .int (xs (i + 1))] S1 (fun v S2 => dV v (gL S2 31 0) c ∧ gF S2 24 0 = nI c ∧ yInv S2)) (kk : ∀ S2 : YS, yInv S2 → yW o S2 1600 [(4, .int (nI (i))), (3, .ref (o.G.ad (31))), (2, .ref (o.G.ad (24))), (1, .ref (o.G.ad (0))), (0, .ref (b))] []) : yW o S1 488 [(4, .int (nI (i))), (3, .ref (o.G.ad (31))), (2, .ref (o.G.ad (24))), (1, .ref (o.G.ad (0))), (0, .ref (b))] [.int (nI c)] := by
  have hB := hLw.1
  have hm := hLw.2.1
  have hL := hLw.2.2.2.2.2.2.1
  refine y_istore (pc' := 490) (lv' := [(5, .int (nI (c))), (4, .int (nI (i))), (3, .ref (o.G.ad (31))), (2, .ref (o.G.ad (24))), (1, .ref (o.G.ad (0))), (0, .ref (b))]) hB hm dc_L_law_488 rfl (by decide) rfl ?_
  refine y_aload_n (pc' := 491) hB dc_L_law_490 rfl rfl 3 rfl ?_
  refine y_aload_n (pc' := 492) hB dc_L_law_491 rfl rfl 5 rfl ?_
  refine y_iload (pc' := 494) hB dc_L_law_492 rfl 1 rfl ?_
  refine y_iconst (v := nI 1) (pc' := 495) hB dc_L_law_494 rfl rfl ?_
  refine n_iadd (x := i) (y := 1) (pc' := 496) hB dc_L_law_495 rfl ?_
  refine y_sld (j := i + 1) (pc' := 497) hLw dc_L_law_496 rfl (by omega) ?_
  refine y_gV (c := 24) (ci := 4) (As := [.int (xs (i + 1))]) (rest := []) (pc' := 500) hB (hLw.2.2.1 _ _ (by omega) (by decide)) hR (H) mm_M_number q_696 q_697 q_698 (by decide) rfl rfl dc_L_law_497 rfl rfl rfl (Nat.le_of_ble_eq_true rfl) (fun v S' hpost => ?_)
  obtain ⟨hd0, hcode, hI2⟩ := hpost
  obtain rfl : v = none := hd0
  show yW o (S') 500 [(5, .int (nI (c))), (4, .int (nI (i))), (3, .ref (o.G.ad (31))), (2, .ref (o.G.ad (24))), (1, .ref (o.G.ad (0))), (0, .ref (b))] []
  refine y_aload_n (pc' := 501) hB dc_L_law_500 rfl rfl 3 rfl ?_
  refine y_gV (c := 24) (ci := 4) (As := []) (rest := []) (pc' := 504) hB (hLw.2.2.1 _ _ (by decide) (by decide)) hR (ct_M_thrown o.l o.G S') mm_M_thrown q_664 q_665 q_666 (by decide) rfl rfl dc_L_law_501 rfl rfl rfl (Nat.le_of_ble_eq_true rfl) (fun v S' hpost => ?_)
  obtain ⟨rfl, hSS⟩ := hpost
  subst hSS
  show yW o (S') 504 [(5, .int (nI (c))), (4, .int (nI (i))), (3, .ref (o.G.ad (31))), (2, .ref (o.G.ad (24))), (1, .ref (o.G.ad (0))), (0, .ref (b))] [.int (gF S' 24 0)]
  refine y_topi (y := nI (c)) (hcode) ?_
  refine y_iload (pc' := 506) hB dc_L_law_504 rfl 0 rfl ?_
  refine n_icmp_eq (pc' := 509) (tg := 511) hB dc_L_law_506 rfl rfl (by omega) (by omega) (fun b2 => ?_) (fun b2 => ?_)
  · refine y_goto (tg := 1600) hB dc_L_law_511 rfl ?_
    refine y_sub [1, 2, 3, 4, 5] rfl ?_
    exact kk _ hI2
  · omega
set_option maxHeartbeats 4000000 in
set_option maxRecDepth 100000 in
theorem lg_number {o : YO} {b L : Nat} {xs : Nat → Int32} (hLw : yLw o b L xs) (hR : yRm o 1 6) (i : Nat) (hi : i + 7 ≤ L) (S : YS) (hI : yInv S) (kk : ∀ S2 : YS, yInv S2 → yW (yat o (o.cells + 1) (o.slots + 6)) S2 1600 [(4, .int (nI (i))), (3, .ref (o.G.ad (31))), (2, .ref (o.G.ad (24))), (1, .ref (o.G.ad (0))), (0, .ref (b))] []) : yW o S 478 [(4, .int (nI (i))), (3, .ref (o.G.ad (31))), (2, .ref (o.G.ad (24))), (1, .ref (o.G.ad (0))), (0, .ref (b))] [] := by
  have hB := hLw.1
  have hm := hLw.2.1
  have hL := hLw.2.2.2.2.2.2.1
  refine y_aload_n (pc' := 479) hB dc_L_law_478 rfl rfl 3 rfl ?_
  refine y_aload_n (pc' := 480) hB dc_L_law_479 rfl rfl 4 rfl ?_
  refine y_iload (pc' := 482) hB dc_L_law_480 rfl 0 rfl ?_
  refine y_iconst (v := nI 1) (pc' := 483) hB dc_L_law_482 rfl rfl ?_
  refine n_iadd (x := i) (y := 1) (pc' := 484) hB dc_L_law_483 rfl ?_
  refine y_sld (j := i + 1) (pc' := 485) hLw dc_L_law_484 rfl (by omega) ?_
  obtain ⟨c, P, hc4, hH, hM⟩ := duo_number o.l hLw.2.2.2.2.2.2.2 o.G S hI (xs (i + 1))
  refine y_hS (k := 2) (As := [.ref (o.G.ad (0)), .int (xs (i + 1))]) (rest := []) (pc' := 488) hB (hLw.2.2.1 _ _ (by omega) (by decide)) hR hH q_298 q_0 ⟨by decide, by decide⟩ (by decide +kernel) q_296 q_297 dc_L_law_485 rfl rfl rfl (Nat.le_of_ble_eq_true rfl) (fun v S1 hpost => ?_)
  obtain ⟨rfl, hP⟩ := hpost
  obtain ⟨lev, hlev, hC⟩ := hM S1 hP
  exact lh_number (o := (yat o (o.cells + 1) (o.slots + 6))) hLw ⟨hR.1, hR.2⟩ i hi S1 c hc4 lev hlev hC kk
set_option maxHeartbeats 4000000 in
set_option maxRecDepth 100000 in
theorem lh_copy {o : YO} {b L : Nat} {xs : Nat → Int32} (hLw : yLw o b L xs) (hR : yRm o 0 0) (i : Nat) (hi : i + 7 ≤ L) (S1 : YS) (c : Nat) (hc4 : c < 4) (lev : Nat) (hlev : lev ≤ 30) (H : yC o.l mn_M_copy mb_M_copy 4 none lev o.G [.ref (o.G.ad (24)), .int (xs (i + 1)), .int (xs (i + 2))] S1 (fun v S2 => dV v (gL S2 31 0) c ∧ gF S2 24 0 = nI c ∧ yInv S2)) (kk : ∀ S2 : YS, yInv S2 → yW o S2 1600 [(4, .int (nI (i))), (3, .ref (o.G.ad (31))), (2, .ref (o.G.ad (24))), (1, .ref (o.G.ad (0))), (0, .ref (b))] []) : yW o S1 530 [(4, .int (nI (i))), (3, .ref (o.G.ad (31))), (2, .ref (o.G.ad (24))), (1, .ref (o.G.ad (0))), (0, .ref (b))] [.int (nI c)] := by
  have hB := hLw.1
  have hm := hLw.2.1
  have hL := hLw.2.2.2.2.2.2.1
  refine y_istore (pc' := 532) (lv' := [(5, .int (nI (c))), (4, .int (nI (i))), (3, .ref (o.G.ad (31))), (2, .ref (o.G.ad (24))), (1, .ref (o.G.ad (0))), (0, .ref (b))]) hB hm dc_L_law_530 rfl (by decide) rfl ?_
  refine y_aload_n (pc' := 533) hB dc_L_law_532 rfl rfl 3 rfl ?_
  refine y_aload_n (pc' := 534) hB dc_L_law_533 rfl rfl 5 rfl ?_
  refine y_iload (pc' := 536) hB dc_L_law_534 rfl 1 rfl ?_
  refine y_iconst (v := nI 1) (pc' := 537) hB dc_L_law_536 rfl rfl ?_
  refine n_iadd (x := i) (y := 1) (pc' := 538) hB dc_L_law_537 rfl ?_
  refine y_sld (j := i + 1) (pc' := 539) hLw dc_L_law_538 rfl (by omega) ?_
  refine y_aload_n (pc' := 540) hB dc_L_law_539 rfl rfl 5 rfl ?_
  refine y_iload (pc' := 542) hB dc_L_law_540 rfl 1 rfl ?_
  refine y_iconst (v := nI 2) (pc' := 543) hB dc_L_law_542 rfl rfl ?_
  refine n_iadd (x := i) (y := 2) (pc' := 544) hB dc_L_law_543 rfl ?_
  refine y_sld (j := i + 2) (pc' := 545) hLw dc_L_law_544 rfl (by omega) ?_
  refine y_gV (c := 24) (ci := 4) (As := [.int (xs (i + 1)), .int (xs (i + 2))]) (rest := []) (pc' := 548) hB (hLw.2.2.1 _ _ (by omega) (by decide)) hR (H) mm_M_copy q_700 q_701 q_702 (by decide) rfl rfl dc_L_law_545 rfl rfl rfl (Nat.le_of_ble_eq_true rfl) (fun v S' hpost => ?_)
  obtain ⟨hd0, hcode, hI2⟩ := hpost
  obtain rfl : v = none := hd0
  show yW o (S') 548 [(5, .int (nI (c))), (4, .int (nI (i))), (3, .ref (o.G.ad (31))), (2, .ref (o.G.ad (24))), (1, .ref (o.G.ad (0))), (0, .ref (b))] []
  refine y_aload_n (pc' := 549) hB dc_L_law_548 rfl rfl 3 rfl ?_
  refine y_gV (c := 24) (ci := 4) (As := []) (rest := []) (pc' := 552) hB (hLw.2.2.1 _ _ (by decide) (by decide)) hR (ct_M_thrown o.l o.G S') mm_M_thrown q_664 q_665 q_666 (by decide) rfl rfl dc_L_law_549 rfl rfl rfl (Nat.le_of_ble_eq_true rfl) (fun v S' hpost => ?_)
  obtain ⟨rfl, hSS⟩ := hpost
  subst hSS
  show yW o (S') 552 [(5, .int (nI (c))), (4, .int (nI (i))), (3, .ref (o.G.ad (31))), (2, .ref (o.G.ad (24))), (1, .ref (o.G.ad (0))), (0, .ref (b))] [.int (gF S' 24 0)]
  refine y_topi (y := nI (c)) (hcode) ?_
  refine y_iload (pc' := 554) hB dc_L_law_552 rfl 0 rfl ?_
  refine n_icmp_eq (pc' := 557) (tg := 559) hB dc_L_law_554 rfl rfl (by omega) (by omega) (fun b2 => ?_) (fun b2 => ?_)
  · refine y_goto (tg := 1600) hB dc_L_law_559 rfl ?_
    refine y_sub [1, 2, 3, 4, 5] rfl ?_
    exact kk _ hI2
  · omega
set_option maxHeartbeats 4000000 in
set_option maxRecDepth 100000 in
theorem lg_copy {o : YO} {b L : Nat} {xs : Nat → Int32} (hLw : yLw o b L xs) (hR : yRm o 1 6) (i : Nat) (hi : i + 7 ≤ L) (S : YS) (hI : yInv S) (kk : ∀ S2 : YS, yInv S2 → yW (yat o (o.cells + 1) (o.slots + 6)) S2 1600 [(4, .int (nI (i))), (3, .ref (o.G.ad (31))), (2, .ref (o.G.ad (24))), (1, .ref (o.G.ad (0))), (0, .ref (b))] []) : yW o S 514 [(4, .int (nI (i))), (3, .ref (o.G.ad (31))), (2, .ref (o.G.ad (24))), (1, .ref (o.G.ad (0))), (0, .ref (b))] [] := by
  have hB := hLw.1
  have hm := hLw.2.1
  have hL := hLw.2.2.2.2.2.2.1
  refine y_aload_n (pc' := 515) hB dc_L_law_514 rfl rfl 3 rfl ?_
  refine y_aload_n (pc' := 516) hB dc_L_law_515 rfl rfl 4 rfl ?_
  refine y_iload (pc' := 518) hB dc_L_law_516 rfl 0 rfl ?_
  refine y_iconst (v := nI 1) (pc' := 519) hB dc_L_law_518 rfl rfl ?_
  refine n_iadd (x := i) (y := 1) (pc' := 520) hB dc_L_law_519 rfl ?_
  refine y_sld (j := i + 1) (pc' := 521) hLw dc_L_law_520 rfl (by omega) ?_
  refine y_aload_n (pc' := 522) hB dc_L_law_521 rfl rfl 4 rfl ?_
  refine y_iload (pc' := 524) hB dc_L_law_522 rfl 0 rfl ?_
  refine y_iconst (v := nI 2) (pc' := 525) hB dc_L_law_524 rfl rfl ?_
  refine n_iadd (x := i) (y := 2) (pc' := 526) hB dc_L_law_525 rfl ?_
  refine y_sld (j := i + 2) (pc' := 527) hLw dc_L_law_526 rfl (by omega) ?_
  obtain ⟨c, P, hc4, hH, hM⟩ := duo_copy o.l hLw.2.2.2.2.2.2.2 o.G S hI (xs (i + 1)) (xs (i + 2))
  refine y_hS (k := 3) (As := [.ref (o.G.ad (0)), .int (xs (i + 1)), .int (xs (i + 2))]) (rest := []) (pc' := 530) hB (hLw.2.2.1 _ _ (by omega) (by decide)) hR hH q_305 q_0 ⟨by decide, by decide⟩ (by decide +kernel) q_303 q_304 dc_L_law_527 rfl rfl rfl (Nat.le_of_ble_eq_true rfl) (fun v S1 hpost => ?_)
  obtain ⟨rfl, hP⟩ := hpost
  obtain ⟨lev, hlev, hC⟩ := hM S1 hP
  exact lh_copy (o := (yat o (o.cells + 1) (o.slots + 6))) hLw ⟨hR.1, hR.2⟩ i hi S1 c hc4 lev hlev hC kk
set_option maxHeartbeats 4000000 in
set_option maxRecDepth 100000 in
theorem lh_size {o : YO} {b L : Nat} {xs : Nat → Int32} (hLw : yLw o b L xs) (hR : yRm o 0 0) (i : Nat) (hi : i + 7 ≤ L) (S1 : YS) (c : Nat) (hc4 : c < 4) (lev : Nat) (hlev : lev ≤ 30) (H : yC o.l mn_M_size mb_M_size 2 (some .int) lev o.G [.ref (o.G.ad (24)), .int (xs (i + 1))] S1 (fun v S2 => dI v (gL S2 31 0) c ∧ gF S2 24 0 = nI c ∧ yInv S2)) (kk : ∀ S2 : YS, yInv S2 → yW o S2 1600 [(4, .int (nI (i))), (3, .ref (o.G.ad (31))), (2, .ref (o.G.ad (24))), (1, .ref (o.G.ad (0))), (0, .ref (b))] []) : yW o S1 573 [(4, .int (nI (i))), (3, .ref (o.G.ad (31))), (2, .ref (o.G.ad (24))), (1, .ref (o.G.ad (0))), (0, .ref (b))] [.int (nI c)] := by
  have hB := hLw.1
  have hm := hLw.2.1
  have hL := hLw.2.2.2.2.2.2.1
  refine y_istore (pc' := 575) (lv' := [(5, .int (nI (c))), (4, .int (nI (i))), (3, .ref (o.G.ad (31))), (2, .ref (o.G.ad (24))), (1, .ref (o.G.ad (0))), (0, .ref (b))]) hB hm dc_L_law_573 rfl (by decide) rfl ?_
  refine y_aload_n (pc' := 576) hB dc_L_law_575 rfl rfl 3 rfl ?_
  refine y_aload_n (pc' := 577) hB dc_L_law_576 rfl rfl 5 rfl ?_
  refine y_iload (pc' := 579) hB dc_L_law_577 rfl 1 rfl ?_
  refine y_iconst (v := nI 1) (pc' := 580) hB dc_L_law_579 rfl rfl ?_
  refine n_iadd (x := i) (y := 1) (pc' := 581) hB dc_L_law_580 rfl ?_
  refine y_sld (j := i + 1) (pc' := 582) hLw dc_L_law_581 rfl (by omega) ?_
  refine y_gV (c := 24) (ci := 4) (As := [.int (xs (i + 1))]) (rest := []) (pc' := 585) hB (hLw.2.2.1 _ _ (by omega) (by decide)) hR (H) mm_M_size q_704 q_705 q_706 (by decide) rfl rfl dc_L_law_582 rfl rfl rfl (Nat.le_of_ble_eq_true rfl) (fun v S' hpost => ?_)
  obtain ⟨hd0, hcode, hI2⟩ := hpost
  obtain ⟨r, rfl, hr⟩ := hd0
  show yW o (S') 585 [(5, .int (nI (c))), (4, .int (nI (i))), (3, .ref (o.G.ad (31))), (2, .ref (o.G.ad (24))), (1, .ref (o.G.ad (0))), (0, .ref (b))] [.int (r)]
  refine y_istore (pc' := 587) (lv' := [(6, .int (r)), (5, .int (nI (c))), (4, .int (nI (i))), (3, .ref (o.G.ad (31))), (2, .ref (o.G.ad (24))), (1, .ref (o.G.ad (0))), (0, .ref (b))]) hB hm dc_L_law_585 rfl (by decide) rfl ?_
  refine y_aload_n (pc' := 588) hB dc_L_law_587 rfl rfl 4 rfl ?_
  refine y_gV (c := 24) (ci := 4) (As := []) (rest := []) (pc' := 591) hB (hLw.2.2.1 _ _ (by decide) (by decide)) hR (ct_M_thrown o.l o.G S') mm_M_thrown q_664 q_665 q_666 (by decide) rfl rfl dc_L_law_588 rfl rfl rfl (Nat.le_of_ble_eq_true rfl) (fun v S' hpost => ?_)
  obtain ⟨rfl, hSS⟩ := hpost
  subst hSS
  show yW o (S') 591 [(6, .int (r)), (5, .int (nI (c))), (4, .int (nI (i))), (3, .ref (o.G.ad (31))), (2, .ref (o.G.ad (24))), (1, .ref (o.G.ad (0))), (0, .ref (b))] [.int (gF S' 24 0)]
  refine y_topi (y := nI (c)) (hcode) ?_
  refine y_iload (pc' := 593) hB dc_L_law_591 rfl 1 rfl ?_
  refine n_icmp_eq (pc' := 596) (tg := 598) hB dc_L_law_593 rfl rfl (by omega) (by omega) (fun b2 => ?_) (fun b2 => ?_)
  · refine y_iload (pc' := 600) hB dc_L_law_598 rfl 1 rfl ?_
    refine n_if_ne (pc' := 603) (tg := 615) hB dc_L_law_600 rfl rfl (by omega) (fun b3 => ?_) (fun b3 => ?_)
    · refine y_goto (tg := 1600) hB dc_L_law_615 rfl ?_
      refine y_sub [2, 3, 4, 5, 6] rfl ?_
      exact kk _ hI2
    · have e0 : c = 0 := by omega
      refine y_aload_n (pc' := 604) hB dc_L_law_603 rfl rfl 3 rfl ?_
      refine y_iconst (v := nI 0) (pc' := 605) hB dc_L_law_604 rfl rfl ?_
      refine y_lald (c := 31) (n := 1) (j := 0) (pc' := 606) hB dc_L_law_605 rfl (by decide) rfl (by omega) (by decide) ?_
      refine y_iload (pc' := 608) hB dc_L_law_606 rfl 0 rfl ?_
      refine y_i2l (v := Int32.toInt64 (r)) (pc' := 609) hB dc_L_law_608 rfl rfl ?_
      refine y_lcmp (pc' := 610) hB dc_L_law_609 rfl ?_
      refine y_if_eq (x := lg_cmp (gL (S') (31) (0)) (Int32.toInt64 (r))) (pc' := 613) (tg := 615) hB dc_L_law_610 rfl rfl (fun b4 => ?_) (fun b4 => ?_)
      · refine y_goto (tg := 1600) hB dc_L_law_615 rfl ?_
        refine y_sub [2, 3, 4, 5, 6] rfl ?_
        exact kk _ hI2
      · exact absurd (lg_0.mpr (hr e0)) b4
  · omega
set_option maxHeartbeats 4000000 in
set_option maxRecDepth 100000 in
theorem lg_size {o : YO} {b L : Nat} {xs : Nat → Int32} (hLw : yLw o b L xs) (hR : yRm o 1 6) (i : Nat) (hi : i + 7 ≤ L) (S : YS) (hI : yInv S) (kk : ∀ S2 : YS, yInv S2 → yW (yat o (o.cells + 1) (o.slots + 6)) S2 1600 [(4, .int (nI (i))), (3, .ref (o.G.ad (31))), (2, .ref (o.G.ad (24))), (1, .ref (o.G.ad (0))), (0, .ref (b))] []) : yW o S 562 [(4, .int (nI (i))), (3, .ref (o.G.ad (31))), (2, .ref (o.G.ad (24))), (1, .ref (o.G.ad (0))), (0, .ref (b))] [] := by
  have hB := hLw.1
  have hm := hLw.2.1
  have hL := hLw.2.2.2.2.2.2.1
  refine y_aload_n (pc' := 563) hB dc_L_law_562 rfl rfl 3 rfl ?_
  refine y_aload_n (pc' := 564) hB dc_L_law_563 rfl rfl 4 rfl ?_
  refine y_iload (pc' := 566) hB dc_L_law_564 rfl 0 rfl ?_
  refine y_iconst (v := nI 1) (pc' := 567) hB dc_L_law_566 rfl rfl ?_
  refine n_iadd (x := i) (y := 1) (pc' := 568) hB dc_L_law_567 rfl ?_
  refine y_sld (j := i + 1) (pc' := 569) hLw dc_L_law_568 rfl (by omega) ?_
  refine y_aload_n (pc' := 570) hB dc_L_law_569 rfl rfl 1 rfl ?_
  obtain ⟨c, P, hc4, hH, hM⟩ := duo_size o.l hLw.2.2.2.2.2.2.2 o.G S hI (xs (i + 1))
  refine y_hS (k := 3) (As := [.ref (o.G.ad (0)), .int (xs (i + 1)), .ref (o.G.ad (31))]) (rest := []) (pc' := 573) hB (hLw.2.2.1 _ _ (by omega) (by decide)) hR hH q_323 q_0 ⟨by decide, by decide⟩ (by decide +kernel) q_321 q_322 dc_L_law_570 rfl rfl rfl (Nat.le_of_ble_eq_true rfl) (fun v S1 hpost => ?_)
  obtain ⟨rfl, hP⟩ := hpost
  obtain ⟨lev, hlev, hC⟩ := hM S1 hP
  exact lh_size (o := (yat o (o.cells + 1) (o.slots + 6))) hLw ⟨hR.1, hR.2⟩ i hi S1 c hc4 lev hlev hC kk
set_option maxHeartbeats 4000000 in
set_option maxRecDepth 100000 in
theorem lh_key {o : YO} {b L : Nat} {xs : Nat → Int32} (hLw : yLw o b L xs) (hR : yRm o 0 0) (i : Nat) (hi : i + 7 ≤ L) (S1 : YS) (c : Nat) (hc4 : c < 4) (lev : Nat) (hlev : lev ≤ 30) (H : yC o.l mn_M_key mb_M_key 3 (some .long) lev o.G [.ref (o.G.ad (24)), .int (xs (i + 1)), .int (xs (i + 2))] S1 (fun v S2 => dJ v (gL S2 31 0) c ∧ gF S2 24 0 = nI c ∧ yInv S2)) (kk : ∀ S2 : YS, yInv S2 → yW o S2 1600 [(4, .int (nI (i))), (3, .ref (o.G.ad (31))), (2, .ref (o.G.ad (24))), (1, .ref (o.G.ad (0))), (0, .ref (b))] []) : yW o S1 635 [(4, .int (nI (i))), (3, .ref (o.G.ad (31))), (2, .ref (o.G.ad (24))), (1, .ref (o.G.ad (0))), (0, .ref (b))] [.int (nI c)] := by
  have hB := hLw.1
  have hm := hLw.2.1
  have hL := hLw.2.2.2.2.2.2.1
  refine y_istore (pc' := 637) (lv' := [(5, .int (nI (c))), (4, .int (nI (i))), (3, .ref (o.G.ad (31))), (2, .ref (o.G.ad (24))), (1, .ref (o.G.ad (0))), (0, .ref (b))]) hB hm dc_L_law_635 rfl (by decide) rfl ?_
  refine y_aload_n (pc' := 638) hB dc_L_law_637 rfl rfl 3 rfl ?_
  refine y_aload_n (pc' := 639) hB dc_L_law_638 rfl rfl 5 rfl ?_
  refine y_iload (pc' := 641) hB dc_L_law_639 rfl 1 rfl ?_
  refine y_iconst (v := nI 1) (pc' := 642) hB dc_L_law_641 rfl rfl ?_
  refine n_iadd (x := i) (y := 1) (pc' := 643) hB dc_L_law_642 rfl ?_
  refine y_sld (j := i + 1) (pc' := 644) hLw dc_L_law_643 rfl (by omega) ?_
  refine y_aload_n (pc' := 645) hB dc_L_law_644 rfl rfl 5 rfl ?_
  refine y_iload (pc' := 647) hB dc_L_law_645 rfl 1 rfl ?_
  refine y_iconst (v := nI 2) (pc' := 648) hB dc_L_law_647 rfl rfl ?_
  refine n_iadd (x := i) (y := 2) (pc' := 649) hB dc_L_law_648 rfl ?_
  refine y_sld (j := i + 2) (pc' := 650) hLw dc_L_law_649 rfl (by omega) ?_
  refine y_gV (c := 24) (ci := 4) (As := [.int (xs (i + 1)), .int (xs (i + 2))]) (rest := []) (pc' := 653) hB (hLw.2.2.1 _ _ (by omega) (by decide)) hR (H) mm_M_key q_708 q_709 q_710 (by decide) rfl rfl dc_L_law_650 rfl rfl rfl (Nat.le_of_ble_eq_true rfl) (fun v S' hpost => ?_)
  obtain ⟨hd0, hcode, hI2⟩ := hpost
  obtain ⟨r, rfl, hr⟩ := hd0
  show yW o (S') 653 [(5, .int (nI (c))), (4, .int (nI (i))), (3, .ref (o.G.ad (31))), (2, .ref (o.G.ad (24))), (1, .ref (o.G.ad (0))), (0, .ref (b))] [.long (r)]
  refine y_lstore (pc' := 655) (lv' := [(6, .long (r)), (5, .int (nI (c))), (4, .int (nI (i))), (3, .ref (o.G.ad (31))), (2, .ref (o.G.ad (24))), (1, .ref (o.G.ad (0))), (0, .ref (b))]) hB hm dc_L_law_653 rfl (by decide) rfl ?_
  refine y_aload_n (pc' := 656) hB dc_L_law_655 rfl rfl 4 rfl ?_
  refine y_gV (c := 24) (ci := 4) (As := []) (rest := []) (pc' := 659) hB (hLw.2.2.1 _ _ (by decide) (by decide)) hR (ct_M_thrown o.l o.G S') mm_M_thrown q_664 q_665 q_666 (by decide) rfl rfl dc_L_law_656 rfl rfl rfl (Nat.le_of_ble_eq_true rfl) (fun v S' hpost => ?_)
  obtain ⟨rfl, hSS⟩ := hpost
  subst hSS
  show yW o (S') 659 [(6, .long (r)), (5, .int (nI (c))), (4, .int (nI (i))), (3, .ref (o.G.ad (31))), (2, .ref (o.G.ad (24))), (1, .ref (o.G.ad (0))), (0, .ref (b))] [.int (gF S' 24 0)]
  refine y_topi (y := nI (c)) (hcode) ?_
  refine y_iload (pc' := 661) hB dc_L_law_659 rfl 1 rfl ?_
  refine n_icmp_eq (pc' := 664) (tg := 666) hB dc_L_law_661 rfl rfl (by omega) (by omega) (fun b2 => ?_) (fun b2 => ?_)
  · refine y_iload (pc' := 668) hB dc_L_law_666 rfl 1 rfl ?_
    refine n_if_ne (pc' := 671) (tg := 682) hB dc_L_law_668 rfl rfl (by omega) (fun b3 => ?_) (fun b3 => ?_)
    · refine y_goto (tg := 1600) hB dc_L_law_682 rfl ?_
      refine y_sub [2, 3, 4, 5, 6] rfl ?_
      exact kk _ hI2
    · have e0 : c = 0 := by omega
      refine y_aload_n (pc' := 672) hB dc_L_law_671 rfl rfl 3 rfl ?_
      refine y_iconst (v := nI 0) (pc' := 673) hB dc_L_law_672 rfl rfl ?_
      refine y_lald (c := 31) (n := 1) (j := 0) (pc' := 674) hB dc_L_law_673 rfl (by decide) rfl (by omega) (by decide) ?_
      refine y_lload (pc' := 676) hB dc_L_law_674 rfl 0 rfl ?_
      refine y_lcmp (pc' := 677) hB dc_L_law_676 rfl ?_
      refine y_if_eq (x := lg_cmp (gL (S') (31) (0)) (r)) (pc' := 680) (tg := 682) hB dc_L_law_677 rfl rfl (fun b4 => ?_) (fun b4 => ?_)
      · refine y_goto (tg := 1600) hB dc_L_law_682 rfl ?_
        refine y_sub [2, 3, 4, 5, 6] rfl ?_
        exact kk _ hI2
      · exact absurd (lg_0.mpr (hr e0)) b4
  · omega
set_option maxHeartbeats 4000000 in
set_option maxRecDepth 100000 in
theorem lg_key {o : YO} {b L : Nat} {xs : Nat → Int32} (hLw : yLw o b L xs) (hR : yRm o 1 6) (i : Nat) (hi : i + 7 ≤ L) (S : YS) (hI : yInv S) (kk : ∀ S2 : YS, yInv S2 → yW (yat o (o.cells + 1) (o.slots + 6)) S2 1600 [(4, .int (nI (i))), (3, .ref (o.G.ad (31))), (2, .ref (o.G.ad (24))), (1, .ref (o.G.ad (0))), (0, .ref (b))] []) : yW o S 618 [(4, .int (nI (i))), (3, .ref (o.G.ad (31))), (2, .ref (o.G.ad (24))), (1, .ref (o.G.ad (0))), (0, .ref (b))] [] := by
  have hB := hLw.1
  have hm := hLw.2.1
  have hL := hLw.2.2.2.2.2.2.1
  refine y_aload_n (pc' := 619) hB dc_L_law_618 rfl rfl 3 rfl ?_
  refine y_aload_n (pc' := 620) hB dc_L_law_619 rfl rfl 4 rfl ?_
  refine y_iload (pc' := 622) hB dc_L_law_620 rfl 0 rfl ?_
  refine y_iconst (v := nI 1) (pc' := 623) hB dc_L_law_622 rfl rfl ?_
  refine n_iadd (x := i) (y := 1) (pc' := 624) hB dc_L_law_623 rfl ?_
  refine y_sld (j := i + 1) (pc' := 625) hLw dc_L_law_624 rfl (by omega) ?_
  refine y_aload_n (pc' := 626) hB dc_L_law_625 rfl rfl 4 rfl ?_
  refine y_iload (pc' := 628) hB dc_L_law_626 rfl 0 rfl ?_
  refine y_iconst (v := nI 2) (pc' := 629) hB dc_L_law_628 rfl rfl ?_
  refine n_iadd (x := i) (y := 2) (pc' := 630) hB dc_L_law_629 rfl ?_
  refine y_sld (j := i + 2) (pc' := 631) hLw dc_L_law_630 rfl (by omega) ?_
  refine y_aload_n (pc' := 632) hB dc_L_law_631 rfl rfl 1 rfl ?_
  obtain ⟨c, P, hc4, hH, hM⟩ := duo_key o.l hLw.2.2.2.2.2.2.2 o.G S hI (xs (i + 1)) (xs (i + 2))
  refine y_hS (k := 4) (As := [.ref (o.G.ad (0)), .int (xs (i + 1)), .int (xs (i + 2)), .ref (o.G.ad (31))]) (rest := []) (pc' := 635) hB (hLw.2.2.1 _ _ (by omega) (by decide)) hR hH q_330 q_0 ⟨by decide, by decide⟩ (by decide +kernel) q_328 q_329 dc_L_law_632 rfl rfl rfl (Nat.le_of_ble_eq_true rfl) (fun v S1 hpost => ?_)
  obtain ⟨rfl, hP⟩ := hpost
  obtain ⟨lev, hlev, hC⟩ := hM S1 hP
  exact lh_key (o := (yat o (o.cells + 1) (o.slots + 6))) hLw ⟨hR.1, hR.2⟩ i hi S1 c hc4 lev hlev hC kk
set_option maxHeartbeats 4000000 in
set_option maxRecDepth 100000 in
theorem lh_tag {o : YO} {b L : Nat} {xs : Nat → Int32} (hLw : yLw o b L xs) (hR : yRm o 0 0) (i : Nat) (hi : i + 7 ≤ L) (S1 : YS) (c : Nat) (hc4 : c < 4) (lev : Nat) (hlev : lev ≤ 30) (H : yC o.l mn_M_tag mb_M_tag 3 (some .int) lev o.G [.ref (o.G.ad (24)), .int (xs (i + 1)), .int (xs (i + 2))] S1 (fun v S2 => dI v (gL S2 31 0) c ∧ gF S2 24 0 = nI c ∧ yInv S2)) (kk : ∀ S2 : YS, yInv S2 → yW o S2 1600 [(4, .int (nI (i))), (3, .ref (o.G.ad (31))), (2, .ref (o.G.ad (24))), (1, .ref (o.G.ad (0))), (0, .ref (b))] []) : yW o S1 702 [(4, .int (nI (i))), (3, .ref (o.G.ad (31))), (2, .ref (o.G.ad (24))), (1, .ref (o.G.ad (0))), (0, .ref (b))] [.int (nI c)] := by
  have hB := hLw.1
  have hm := hLw.2.1
  have hL := hLw.2.2.2.2.2.2.1
  refine y_istore (pc' := 704) (lv' := [(5, .int (nI (c))), (4, .int (nI (i))), (3, .ref (o.G.ad (31))), (2, .ref (o.G.ad (24))), (1, .ref (o.G.ad (0))), (0, .ref (b))]) hB hm dc_L_law_702 rfl (by decide) rfl ?_
  refine y_aload_n (pc' := 705) hB dc_L_law_704 rfl rfl 3 rfl ?_
  refine y_aload_n (pc' := 706) hB dc_L_law_705 rfl rfl 5 rfl ?_
  refine y_iload (pc' := 708) hB dc_L_law_706 rfl 1 rfl ?_
  refine y_iconst (v := nI 1) (pc' := 709) hB dc_L_law_708 rfl rfl ?_
  refine n_iadd (x := i) (y := 1) (pc' := 710) hB dc_L_law_709 rfl ?_
  refine y_sld (j := i + 1) (pc' := 711) hLw dc_L_law_710 rfl (by omega) ?_
  refine y_aload_n (pc' := 712) hB dc_L_law_711 rfl rfl 5 rfl ?_
  refine y_iload (pc' := 714) hB dc_L_law_712 rfl 1 rfl ?_
  refine y_iconst (v := nI 2) (pc' := 715) hB dc_L_law_714 rfl rfl ?_
  refine n_iadd (x := i) (y := 2) (pc' := 716) hB dc_L_law_715 rfl ?_
  refine y_sld (j := i + 2) (pc' := 717) hLw dc_L_law_716 rfl (by omega) ?_
  refine y_gV (c := 24) (ci := 4) (As := [.int (xs (i + 1)), .int (xs (i + 2))]) (rest := []) (pc' := 720) hB (hLw.2.2.1 _ _ (by omega) (by decide)) hR (H) mm_M_tag q_712 q_713 q_714 (by decide) rfl rfl dc_L_law_717 rfl rfl rfl (Nat.le_of_ble_eq_true rfl) (fun v S' hpost => ?_)
  obtain ⟨hd0, hcode, hI2⟩ := hpost
  obtain ⟨r, rfl, hr⟩ := hd0
  show yW o (S') 720 [(5, .int (nI (c))), (4, .int (nI (i))), (3, .ref (o.G.ad (31))), (2, .ref (o.G.ad (24))), (1, .ref (o.G.ad (0))), (0, .ref (b))] [.int (r)]
  refine y_istore (pc' := 722) (lv' := [(6, .int (r)), (5, .int (nI (c))), (4, .int (nI (i))), (3, .ref (o.G.ad (31))), (2, .ref (o.G.ad (24))), (1, .ref (o.G.ad (0))), (0, .ref (b))]) hB hm dc_L_law_720 rfl (by decide) rfl ?_
  refine y_aload_n (pc' := 723) hB dc_L_law_722 rfl rfl 4 rfl ?_
  refine y_gV (c := 24) (ci := 4) (As := []) (rest := []) (pc' := 726) hB (hLw.2.2.1 _ _ (by decide) (by decide)) hR (ct_M_thrown o.l o.G S') mm_M_thrown q_664 q_665 q_666 (by decide) rfl rfl dc_L_law_723 rfl rfl rfl (Nat.le_of_ble_eq_true rfl) (fun v S' hpost => ?_)
  obtain ⟨rfl, hSS⟩ := hpost
  subst hSS
  show yW o (S') 726 [(6, .int (r)), (5, .int (nI (c))), (4, .int (nI (i))), (3, .ref (o.G.ad (31))), (2, .ref (o.G.ad (24))), (1, .ref (o.G.ad (0))), (0, .ref (b))] [.int (gF S' 24 0)]
  refine y_topi (y := nI (c)) (hcode) ?_
  refine y_iload (pc' := 728) hB dc_L_law_726 rfl 1 rfl ?_
  refine n_icmp_eq (pc' := 731) (tg := 733) hB dc_L_law_728 rfl rfl (by omega) (by omega) (fun b2 => ?_) (fun b2 => ?_)
  · refine y_iload (pc' := 735) hB dc_L_law_733 rfl 1 rfl ?_
    refine n_if_ne (pc' := 738) (tg := 750) hB dc_L_law_735 rfl rfl (by omega) (fun b3 => ?_) (fun b3 => ?_)
    · refine y_goto (tg := 1600) hB dc_L_law_750 rfl ?_
      refine y_sub [2, 3, 4, 5, 6] rfl ?_
      exact kk _ hI2
    · have e0 : c = 0 := by omega
      refine y_aload_n (pc' := 739) hB dc_L_law_738 rfl rfl 3 rfl ?_
      refine y_iconst (v := nI 0) (pc' := 740) hB dc_L_law_739 rfl rfl ?_
      refine y_lald (c := 31) (n := 1) (j := 0) (pc' := 741) hB dc_L_law_740 rfl (by decide) rfl (by omega) (by decide) ?_
      refine y_iload (pc' := 743) hB dc_L_law_741 rfl 0 rfl ?_
      refine y_i2l (v := Int32.toInt64 (r)) (pc' := 744) hB dc_L_law_743 rfl rfl ?_
      refine y_lcmp (pc' := 745) hB dc_L_law_744 rfl ?_
      refine y_if_eq (x := lg_cmp (gL (S') (31) (0)) (Int32.toInt64 (r))) (pc' := 748) (tg := 750) hB dc_L_law_745 rfl rfl (fun b4 => ?_) (fun b4 => ?_)
      · refine y_goto (tg := 1600) hB dc_L_law_750 rfl ?_
        refine y_sub [2, 3, 4, 5, 6] rfl ?_
        exact kk _ hI2
      · exact absurd (lg_0.mpr (hr e0)) b4
  · omega
set_option maxHeartbeats 4000000 in
set_option maxRecDepth 100000 in
theorem lg_tag {o : YO} {b L : Nat} {xs : Nat → Int32} (hLw : yLw o b L xs) (hR : yRm o 1 6) (i : Nat) (hi : i + 7 ≤ L) (S : YS) (hI : yInv S) (kk : ∀ S2 : YS, yInv S2 → yW (yat o (o.cells + 1) (o.slots + 6)) S2 1600 [(4, .int (nI (i))), (3, .ref (o.G.ad (31))), (2, .ref (o.G.ad (24))), (1, .ref (o.G.ad (0))), (0, .ref (b))] []) : yW o S 685 [(4, .int (nI (i))), (3, .ref (o.G.ad (31))), (2, .ref (o.G.ad (24))), (1, .ref (o.G.ad (0))), (0, .ref (b))] [] := by
  have hB := hLw.1
  have hm := hLw.2.1
  have hL := hLw.2.2.2.2.2.2.1
  refine y_aload_n (pc' := 686) hB dc_L_law_685 rfl rfl 3 rfl ?_
  refine y_aload_n (pc' := 687) hB dc_L_law_686 rfl rfl 4 rfl ?_
  refine y_iload (pc' := 689) hB dc_L_law_687 rfl 0 rfl ?_
  refine y_iconst (v := nI 1) (pc' := 690) hB dc_L_law_689 rfl rfl ?_
  refine n_iadd (x := i) (y := 1) (pc' := 691) hB dc_L_law_690 rfl ?_
  refine y_sld (j := i + 1) (pc' := 692) hLw dc_L_law_691 rfl (by omega) ?_
  refine y_aload_n (pc' := 693) hB dc_L_law_692 rfl rfl 4 rfl ?_
  refine y_iload (pc' := 695) hB dc_L_law_693 rfl 0 rfl ?_
  refine y_iconst (v := nI 2) (pc' := 696) hB dc_L_law_695 rfl rfl ?_
  refine n_iadd (x := i) (y := 2) (pc' := 697) hB dc_L_law_696 rfl ?_
  refine y_sld (j := i + 2) (pc' := 698) hLw dc_L_law_697 rfl (by omega) ?_
  refine y_aload_n (pc' := 699) hB dc_L_law_698 rfl rfl 1 rfl ?_
  obtain ⟨c, P, hc4, hH, hM⟩ := duo_tag o.l hLw.2.2.2.2.2.2.2 o.G S hI (xs (i + 1)) (xs (i + 2))
  refine y_hS (k := 4) (As := [.ref (o.G.ad (0)), .int (xs (i + 1)), .int (xs (i + 2)), .ref (o.G.ad (31))]) (rest := []) (pc' := 702) hB (hLw.2.2.1 _ _ (by omega) (by decide)) hR hH q_337 q_0 ⟨by decide, by decide⟩ (by decide +kernel) q_335 q_336 dc_L_law_699 rfl rfl rfl (Nat.le_of_ble_eq_true rfl) (fun v S1 hpost => ?_)
  obtain ⟨rfl, hP⟩ := hpost
  obtain ⟨lev, hlev, hC⟩ := hM S1 hP
  exact lh_tag (o := (yat o (o.cells + 1) (o.slots + 6))) hLw ⟨hR.1, hR.2⟩ i hi S1 c hc4 lev hlev hC kk
