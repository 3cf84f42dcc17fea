theorem bqL_law_537 : hs_bs cL_law 537 [29, 5, 96, 46, 182, 0, 72, 87, 44, 42, 29, 4, 96, 46, 42, 29, 5, 96, 46, 182, 0, 75, 87] := hs_bs_of _ _ _ (by decide +kernel)
theorem dL_law_537 : decode cL_law 537 = .ok (.iload_n 3, 1) := dc29 bqL_law_537 0 rfl rfl
theorem dL_law_538 : decode cL_law 538 = .ok (.iconst 2, 1) := dc5 bqL_law_537 1 rfl rfl
theorem dL_law_539 : decode cL_law 539 = .ok (.iadd, 1) := dc96 bqL_law_537 2 rfl rfl
theorem dL_law_540 : decode cL_law 540 = .ok (.iaload, 1) := dc46 bqL_law_537 3 rfl rfl
theorem dL_law_541 : decode cL_law 541 = .ok (.invokevirtual 72, 3) := dc182 bqL_law_537 4 rfl rfl rfl
theorem dL_law_544 : decode cL_law 544 = .ok (.pop, 1) := dc87 bqL_law_537 7 rfl rfl
theorem dL_law_545 : decode cL_law 545 = .ok (.aload_n 2, 1) := dc44 bqL_law_537 8 rfl rfl
theorem dL_law_546 : decode cL_law 546 = .ok (.aload_n 0, 1) := dc42 bqL_law_537 9 rfl rfl
theorem dL_law_547 : decode cL_law 547 = .ok (.iload_n 3, 1) := dc29 bqL_law_537 10 rfl rfl
theorem dL_law_548 : decode cL_law 548 = .ok (.iconst 1, 1) := dc4 bqL_law_537 11 rfl rfl
theorem dL_law_549 : decode cL_law 549 = .ok (.iadd, 1) := dc96 bqL_law_537 12 rfl rfl
theorem dL_law_550 : decode cL_law 550 = .ok (.iaload, 1) := dc46 bqL_law_537 13 rfl rfl
theorem dL_law_551 : decode cL_law 551 = .ok (.aload_n 0, 1) := dc42 bqL_law_537 14 rfl rfl
theorem dL_law_552 : decode cL_law 552 = .ok (.iload_n 3, 1) := dc29 bqL_law_537 15 rfl rfl
theorem dL_law_553 : decode cL_law 553 = .ok (.iconst 2, 1) := dc5 bqL_law_537 16 rfl rfl
theorem dL_law_554 : decode cL_law 554 = .ok (.iadd, 1) := dc96 bqL_law_537 17 rfl rfl
theorem dL_law_555 : decode cL_law 555 = .ok (.iaload, 1) := dc46 bqL_law_537 18 rfl rfl
theorem dL_law_556 : decode cL_law 556 = .ok (.invokevirtual 75, 3) := dc182 bqL_law_537 19 rfl rfl rfl
theorem dL_law_559 : decode cL_law 559 = .ok (.pop, 1) := dc87 bqL_law_537 22 rfl rfl
theorem bqL_law_560 : hs_bs cL_law 560 [167, 3, 31, 43, 42, 29, 4, 96, 46, 42, 29, 5, 96, 46, 182, 0, 76, 87, 44, 42, 29, 4, 96, 46] := hs_bs_of _ _ _ (by decide +kernel)
theorem dL_law_560 : decode cL_law 560 = .ok (.goto 799, 3) := dc167 bqL_law_560 0 rfl rfl rfl
theorem dL_law_563 : decode cL_law 563 = .ok (.aload_n 1, 1) := dc43 bqL_law_560 3 rfl rfl
theorem dL_law_564 : decode cL_law 564 = .ok (.aload_n 0, 1) := dc42 bqL_law_560 4 rfl rfl
theorem dL_law_565 : decode cL_law 565 = .ok (.iload_n 3, 1) := dc29 bqL_law_560 5 rfl rfl
theorem dL_law_566 : decode cL_law 566 = .ok (.iconst 1, 1) := dc4 bqL_law_560 6 rfl rfl
theorem dL_law_567 : decode cL_law 567 = .ok (.iadd, 1) := dc96 bqL_law_560 7 rfl rfl
theorem dL_law_568 : decode cL_law 568 = .ok (.iaload, 1) := dc46 bqL_law_560 8 rfl rfl
theorem dL_law_569 : decode cL_law 569 = .ok (.aload_n 0, 1) := dc42 bqL_law_560 9 rfl rfl
theorem dL_law_570 : decode cL_law 570 = .ok (.iload_n 3, 1) := dc29 bqL_law_560 10 rfl rfl
theorem dL_law_571 : decode cL_law 571 = .ok (.iconst 2, 1) := dc5 bqL_law_560 11 rfl rfl
theorem dL_law_572 : decode cL_law 572 = .ok (.iadd, 1) := dc96 bqL_law_560 12 rfl rfl
theorem dL_law_573 : decode cL_law 573 = .ok (.iaload, 1) := dc46 bqL_law_560 13 rfl rfl
theorem dL_law_574 : decode cL_law 574 = .ok (.invokevirtual 76, 3) := dc182 bqL_law_560 14 rfl rfl rfl
theorem dL_law_577 : decode cL_law 577 = .ok (.pop, 1) := dc87 bqL_law_560 17 rfl rfl
theorem dL_law_578 : decode cL_law 578 = .ok (.aload_n 2, 1) := dc44 bqL_law_560 18 rfl rfl
theorem dL_law_579 : decode cL_law 579 = .ok (.aload_n 0, 1) := dc42 bqL_law_560 19 rfl rfl
theorem dL_law_580 : decode cL_law 580 = .ok (.iload_n 3, 1) := dc29 bqL_law_560 20 rfl rfl
theorem dL_law_581 : decode cL_law 581 = .ok (.iconst 1, 1) := dc4 bqL_law_560 21 rfl rfl
theorem dL_law_582 : decode cL_law 582 = .ok (.iadd, 1) := dc96 bqL_law_560 22 rfl rfl
theorem dL_law_583 : decode cL_law 583 = .ok (.iaload, 1) := dc46 bqL_law_560 23 rfl rfl
theorem bqL_law_584 : hs_bs cL_law 584 [42, 29, 5, 96, 46, 182, 0, 79, 87, 167, 2, 254, 43, 42, 29, 4, 96, 46, 42, 29, 5, 96, 46] := hs_bs_of _ _ _ (by decide +kernel)
theorem dL_law_584 : decode cL_law 584 = .ok (.aload_n 0, 1) := dc42 bqL_law_584 0 rfl rfl
theorem dL_law_585 : decode cL_law 585 = .ok (.iload_n 3, 1) := dc29 bqL_law_584 1 rfl rfl
theorem dL_law_586 : decode cL_law 586 = .ok (.iconst 2, 1) := dc5 bqL_law_584 2 rfl rfl
theorem dL_law_587 : decode cL_law 587 = .ok (.iadd, 1) := dc96 bqL_law_584 3 rfl rfl
theorem dL_law_588 : decode cL_law 588 = .ok (.iaload, 1) := dc46 bqL_law_584 4 rfl rfl
theorem dL_law_589 : decode cL_law 589 = .ok (.invokevirtual 79, 3) := dc182 bqL_law_584 5 rfl rfl rfl
theorem dL_law_592 : decode cL_law 592 = .ok (.pop, 1) := dc87 bqL_law_584 8 rfl rfl
theorem dL_law_593 : decode cL_law 593 = .ok (.goto 766, 3) := dc167 bqL_law_584 9 rfl rfl rfl
theorem dL_law_596 : decode cL_law 596 = .ok (.aload_n 1, 1) := dc43 bqL_law_584 12 rfl rfl
theorem dL_law_597 : decode cL_law 597 = .ok (.aload_n 0, 1) := dc42 bqL_law_584 13 rfl rfl
theorem dL_law_598 : decode cL_law 598 = .ok (.iload_n 3, 1) := dc29 bqL_law_584 14 rfl rfl
theorem dL_law_599 : decode cL_law 599 = .ok (.iconst 1, 1) := dc4 bqL_law_584 15 rfl rfl
theorem dL_law_600 : decode cL_law 600 = .ok (.iadd, 1) := dc96 bqL_law_584 16 rfl rfl
theorem dL_law_601 : decode cL_law 601 = .ok (.iaload, 1) := dc46 bqL_law_584 17 rfl rfl
theorem dL_law_602 : decode cL_law 602 = .ok (.aload_n 0, 1) := dc42 bqL_law_584 18 rfl rfl
theorem dL_law_603 : decode cL_law 603 = .ok (.iload_n 3, 1) := dc29 bqL_law_584 19 rfl rfl
theorem dL_law_604 : decode cL_law 604 = .ok (.iconst 2, 1) := dc5 bqL_law_584 20 rfl rfl
theorem dL_law_605 : decode cL_law 605 = .ok (.iadd, 1) := dc96 bqL_law_584 21 rfl rfl
theorem dL_law_606 : decode cL_law 606 = .ok (.iaload, 1) := dc46 bqL_law_584 22 rfl rfl
theorem bqL_law_607 : hs_bs cL_law 607 [182, 0, 80, 87, 44, 42, 29, 4, 96, 46, 42, 29, 5, 96, 46, 182, 0, 83, 87, 167, 2, 221, 43, 42] := hs_bs_of _ _ _ (by decide +kernel)
theorem dL_law_607 : decode cL_law 607 = .ok (.invokevirtual 80, 3) := dc182 bqL_law_607 0 rfl rfl rfl
theorem dL_law_610 : decode cL_law 610 = .ok (.pop, 1) := dc87 bqL_law_607 3 rfl rfl
theorem dL_law_611 : decode cL_law 611 = .ok (.aload_n 2, 1) := dc44 bqL_law_607 4 rfl rfl
theorem dL_law_612 : decode cL_law 612 = .ok (.aload_n 0, 1) := dc42 bqL_law_607 5 rfl rfl
theorem dL_law_613 : decode cL_law 613 = .ok (.iload_n 3, 1) := dc29 bqL_law_607 6 rfl rfl
theorem dL_law_614 : decode cL_law 614 = .ok (.iconst 1, 1) := dc4 bqL_law_607 7 rfl rfl
theorem dL_law_615 : decode cL_law 615 = .ok (.iadd, 1) := dc96 bqL_law_607 8 rfl rfl
theorem dL_law_616 : decode cL_law 616 = .ok (.iaload, 1) := dc46 bqL_law_607 9 rfl rfl
theorem dL_law_617 : decode cL_law 617 = .ok (.aload_n 0, 1) := dc42 bqL_law_607 10 rfl rfl
theorem dL_law_618 : decode cL_law 618 = .ok (.iload_n 3, 1) := dc29 bqL_law_607 11 rfl rfl
theorem dL_law_619 : decode cL_law 619 = .ok (.iconst 2, 1) := dc5 bqL_law_607 12 rfl rfl
theorem dL_law_620 : decode cL_law 620 = .ok (.iadd, 1) := dc96 bqL_law_607 13 rfl rfl
theorem dL_law_621 : decode cL_law 621 = .ok (.iaload, 1) := dc46 bqL_law_607 14 rfl rfl
theorem dL_law_622 : decode cL_law 622 = .ok (.invokevirtual 83, 3) := dc182 bqL_law_607 15 rfl rfl rfl
theorem dL_law_625 : decode cL_law 625 = .ok (.pop, 1) := dc87 bqL_law_607 18 rfl rfl
theorem dL_law_626 : decode cL_law 626 = .ok (.goto 733, 3) := dc167 bqL_law_607 19 rfl rfl rfl
theorem dL_law_629 : decode cL_law 629 = .ok (.aload_n 1, 1) := dc43 bqL_law_607 22 rfl rfl
theorem dL_law_630 : decode cL_law 630 = .ok (.aload_n 0, 1) := dc42 bqL_law_607 23 rfl rfl
theorem bqL_law_631 : hs_bs cL_law 631 [29, 4, 96, 46, 182, 0, 84, 87, 44, 42, 29, 4, 96, 46, 182, 0, 87, 87, 167, 2, 198, 43, 42, 29] := hs_bs_of _ _ _ (by decide +kernel)
theorem dL_law_631 : decode cL_law 631 = .ok (.iload_n 3, 1) := dc29 bqL_law_631 0 rfl rfl
theorem dL_law_632 : decode cL_law 632 = .ok (.iconst 1, 1) := dc4 bqL_law_631 1 rfl rfl
theorem dL_law_633 : decode cL_law 633 = .ok (.iadd, 1) := dc96 bqL_law_631 2 rfl rfl
theorem dL_law_634 : decode cL_law 634 = .ok (.iaload, 1) := dc46 bqL_law_631 3 rfl rfl
theorem dL_law_635 : decode cL_law 635 = .ok (.invokevirtual 84, 3) := dc182 bqL_law_631 4 rfl rfl rfl
theorem dL_law_638 : decode cL_law 638 = .ok (.pop, 1) := dc87 bqL_law_631 7 rfl rfl
theorem dL_law_639 : decode cL_law 639 = .ok (.aload_n 2, 1) := dc44 bqL_law_631 8 rfl rfl
theorem dL_law_640 : decode cL_law 640 = .ok (.aload_n 0, 1) := dc42 bqL_law_631 9 rfl rfl
theorem dL_law_641 : decode cL_law 641 = .ok (.iload_n 3, 1) := dc29 bqL_law_631 10 rfl rfl
theorem dL_law_642 : decode cL_law 642 = .ok (.iconst 1, 1) := dc4 bqL_law_631 11 rfl rfl
theorem dL_law_643 : decode cL_law 643 = .ok (.iadd, 1) := dc96 bqL_law_631 12 rfl rfl
theorem dL_law_644 : decode cL_law 644 = .ok (.iaload, 1) := dc46 bqL_law_631 13 rfl rfl
theorem dL_law_645 : decode cL_law 645 = .ok (.invokevirtual 87, 3) := dc182 bqL_law_631 14 rfl rfl rfl
theorem dL_law_648 : decode cL_law 648 = .ok (.pop, 1) := dc87 bqL_law_631 17 rfl rfl
theorem dL_law_649 : decode cL_law 649 = .ok (.goto 710, 3) := dc167 bqL_law_631 18 rfl rfl rfl
theorem dL_law_652 : decode cL_law 652 = .ok (.aload_n 1, 1) := dc43 bqL_law_631 21 rfl rfl
theorem dL_law_653 : decode cL_law 653 = .ok (.aload_n 0, 1) := dc42 bqL_law_631 22 rfl rfl
theorem dL_law_654 : decode cL_law 654 = .ok (.iload_n 3, 1) := dc29 bqL_law_631 23 rfl rfl
theorem bqL_law_655 : hs_bs cL_law 655 [4, 96, 46, 182, 0, 88, 87, 44, 42, 29, 4, 96, 46, 182, 0, 91, 87, 167, 2, 175, 43, 42, 29, 4] := hs_bs_of _ _ _ (by decide +kernel)
theorem dL_law_655 : decode cL_law 655 = .ok (.iconst 1, 1) := dc4 bqL_law_655 0 rfl rfl
theorem dL_law_656 : decode cL_law 656 = .ok (.iadd, 1) := dc96 bqL_law_655 1 rfl rfl
theorem dL_law_657 : decode cL_law 657 = .ok (.iaload, 1) := dc46 bqL_law_655 2 rfl rfl
theorem dL_law_658 : decode cL_law 658 = .ok (.invokevirtual 88, 3) := dc182 bqL_law_655 3 rfl rfl rfl
theorem dL_law_661 : decode cL_law 661 = .ok (.pop, 1) := dc87 bqL_law_655 6 rfl rfl
theorem dL_law_662 : decode cL_law 662 = .ok (.aload_n 2, 1) := dc44 bqL_law_655 7 rfl rfl
theorem dL_law_663 : decode cL_law 663 = .ok (.aload_n 0, 1) := dc42 bqL_law_655 8 rfl rfl
theorem dL_law_664 : decode cL_law 664 = .ok (.iload_n 3, 1) := dc29 bqL_law_655 9 rfl rfl
theorem dL_law_665 : decode cL_law 665 = .ok (.iconst 1, 1) := dc4 bqL_law_655 10 rfl rfl
theorem dL_law_666 : decode cL_law 666 = .ok (.iadd, 1) := dc96 bqL_law_655 11 rfl rfl
theorem dL_law_667 : decode cL_law 667 = .ok (.iaload, 1) := dc46 bqL_law_655 12 rfl rfl
theorem dL_law_668 : decode cL_law 668 = .ok (.invokevirtual 91, 3) := dc182 bqL_law_655 13 rfl rfl rfl
theorem dL_law_671 : decode cL_law 671 = .ok (.pop, 1) := dc87 bqL_law_655 16 rfl rfl
theorem dL_law_672 : decode cL_law 672 = .ok (.goto 687, 3) := dc167 bqL_law_655 17 rfl rfl rfl
theorem dL_law_675 : decode cL_law 675 = .ok (.aload_n 1, 1) := dc43 bqL_law_655 20 rfl rfl
theorem dL_law_676 : decode cL_law 676 = .ok (.aload_n 0, 1) := dc42 bqL_law_655 21 rfl rfl
theorem dL_law_677 : decode cL_law 677 = .ok (.iload_n 3, 1) := dc29 bqL_law_655 22 rfl rfl
theorem dL_law_678 : decode cL_law 678 = .ok (.iconst 1, 1) := dc4 bqL_law_655 23 rfl rfl
theorem bqL_law_679 : hs_bs cL_law 679 [96, 46, 182, 0, 92, 87, 44, 42, 29, 4, 96, 46, 182, 0, 95, 87, 167, 2, 152, 43, 42, 29, 4, 96] := hs_bs_of _ _ _ (by decide +kernel)
theorem dL_law_679 : decode cL_law 679 = .ok (.iadd, 1) := dc96 bqL_law_679 0 rfl rfl
theorem dL_law_680 : decode cL_law 680 = .ok (.iaload, 1) := dc46 bqL_law_679 1 rfl rfl
theorem dL_law_681 : decode cL_law 681 = .ok (.invokevirtual 92, 3) := dc182 bqL_law_679 2 rfl rfl rfl
theorem dL_law_684 : decode cL_law 684 = .ok (.pop, 1) := dc87 bqL_law_679 5 rfl rfl
theorem dL_law_685 : decode cL_law 685 = .ok (.aload_n 2, 1) := dc44 bqL_law_679 6 rfl rfl
theorem dL_law_686 : decode cL_law 686 = .ok (.aload_n 0, 1) := dc42 bqL_law_679 7 rfl rfl
theorem dL_law_687 : decode cL_law 687 = .ok (.iload_n 3, 1) := dc29 bqL_law_679 8 rfl rfl
theorem dL_law_688 : decode cL_law 688 = .ok (.iconst 1, 1) := dc4 bqL_law_679 9 rfl rfl
theorem dL_law_689 : decode cL_law 689 = .ok (.iadd, 1) := dc96 bqL_law_679 10 rfl rfl
theorem dL_law_690 : decode cL_law 690 = .ok (.iaload, 1) := dc46 bqL_law_679 11 rfl rfl
theorem dL_law_691 : decode cL_law 691 = .ok (.invokevirtual 95, 3) := dc182 bqL_law_679 12 rfl rfl rfl
theorem dL_law_694 : decode cL_law 694 = .ok (.pop, 1) := dc87 bqL_law_679 15 rfl rfl
theorem dL_law_695 : decode cL_law 695 = .ok (.goto 664, 3) := dc167 bqL_law_679 16 rfl rfl rfl
theorem dL_law_698 : decode cL_law 698 = .ok (.aload_n 1, 1) := dc43 bqL_law_679 19 rfl rfl
theorem dL_law_699 : decode cL_law 699 = .ok (.aload_n 0, 1) := dc42 bqL_law_679 20 rfl rfl
theorem dL_law_700 : decode cL_law 700 = .ok (.iload_n 3, 1) := dc29 bqL_law_679 21 rfl rfl
theorem dL_law_701 : decode cL_law 701 = .ok (.iconst 1, 1) := dc4 bqL_law_679 22 rfl rfl
theorem dL_law_702 : decode cL_law 702 = .ok (.iadd, 1) := dc96 bqL_law_679 23 rfl rfl
theorem bqL_law_703 : hs_bs cL_law 703 [46, 42, 29, 5, 96, 46, 42, 29, 6, 96, 46, 182, 0, 96, 87, 44, 42, 29, 4, 96, 46, 42, 29, 5] := hs_bs_of _ _ _ (by decide +kernel)
theorem dL_law_703 : decode cL_law 703 = .ok (.iaload, 1) := dc46 bqL_law_703 0 rfl rfl
theorem dL_law_704 : decode cL_law 704 = .ok (.aload_n 0, 1) := dc42 bqL_law_703 1 rfl rfl
theorem dL_law_705 : decode cL_law 705 = .ok (.iload_n 3, 1) := dc29 bqL_law_703 2 rfl rfl
theorem dL_law_706 : decode cL_law 706 = .ok (.iconst 2, 1) := dc5 bqL_law_703 3 rfl rfl
theorem dL_law_707 : decode cL_law 707 = .ok (.iadd, 1) := dc96 bqL_law_703 4 rfl rfl
theorem dL_law_708 : decode cL_law 708 = .ok (.iaload, 1) := dc46 bqL_law_703 5 rfl rfl
theorem dL_law_709 : decode cL_law 709 = .ok (.aload_n 0, 1) := dc42 bqL_law_703 6 rfl rfl
theorem dL_law_710 : decode cL_law 710 = .ok (.iload_n 3, 1) := dc29 bqL_law_703 7 rfl rfl
theorem dL_law_711 : decode cL_law 711 = .ok (.iconst 3, 1) := dc6 bqL_law_703 8 rfl rfl
theorem dL_law_712 : decode cL_law 712 = .ok (.iadd, 1) := dc96 bqL_law_703 9 rfl rfl
theorem dL_law_713 : decode cL_law 713 = .ok (.iaload, 1) := dc46 bqL_law_703 10 rfl rfl
theorem dL_law_714 : decode cL_law 714 = .ok (.invokevirtual 96, 3) := dc182 bqL_law_703 11 rfl rfl rfl
theorem dL_law_717 : decode cL_law 717 = .ok (.pop, 1) := dc87 bqL_law_703 14 rfl rfl
theorem dL_law_718 : decode cL_law 718 = .ok (.aload_n 2, 1) := dc44 bqL_law_703 15 rfl rfl
theorem dL_law_719 : decode cL_law 719 = .ok (.aload_n 0, 1) := dc42 bqL_law_703 16 rfl rfl
theorem dL_law_720 : decode cL_law 720 = .ok (.iload_n 3, 1) := dc29 bqL_law_703 17 rfl rfl
theorem dL_law_721 : decode cL_law 721 = .ok (.iconst 1, 1) := dc4 bqL_law_703 18 rfl rfl
theorem dL_law_722 : decode cL_law 722 = .ok (.iadd, 1) := dc96 bqL_law_703 19 rfl rfl
theorem dL_law_723 : decode cL_law 723 = .ok (.iaload, 1) := dc46 bqL_law_703 20 rfl rfl
theorem dL_law_724 : decode cL_law 724 = .ok (.aload_n 0, 1) := dc42 bqL_law_703 21 rfl rfl
theorem dL_law_725 : decode cL_law 725 = .ok (.iload_n 3, 1) := dc29 bqL_law_703 22 rfl rfl
theorem dL_law_726 : decode cL_law 726 = .ok (.iconst 2, 1) := dc5 bqL_law_703 23 rfl rfl
theorem bqL_law_727 : hs_bs cL_law 727 [96, 46, 42, 29, 6, 96, 46, 182, 0, 100, 87, 167, 2, 109, 43, 42, 29, 4, 96, 46, 42, 29, 5, 96] := hs_bs_of _ _ _ (by decide +kernel)
theorem dL_law_727 : decode cL_law 727 = .ok (.iadd, 1) := dc96 bqL_law_727 0 rfl rfl
theorem dL_law_728 : decode cL_law 728 = .ok (.iaload, 1) := dc46 bqL_law_727 1 rfl rfl
theorem dL_law_729 : decode cL_law 729 = .ok (.aload_n 0, 1) := dc42 bqL_law_727 2 rfl rfl
theorem dL_law_730 : decode cL_law 730 = .ok (.iload_n 3, 1) := dc29 bqL_law_727 3 rfl rfl
theorem dL_law_731 : decode cL_law 731 = .ok (.iconst 3, 1) := dc6 bqL_law_727 4 rfl rfl
theorem dL_law_732 : decode cL_law 732 = .ok (.iadd, 1) := dc96 bqL_law_727 5 rfl rfl
theorem dL_law_733 : decode cL_law 733 = .ok (.iaload, 1) := dc46 bqL_law_727 6 rfl rfl
theorem dL_law_734 : decode cL_law 734 = .ok (.invokevirtual 100, 3) := dc182 bqL_law_727 7 rfl rfl rfl
theorem dL_law_737 : decode cL_law 737 = .ok (.pop, 1) := dc87 bqL_law_727 10 rfl rfl
theorem dL_law_738 : decode cL_law 738 = .ok (.goto 621, 3) := dc167 bqL_law_727 11 rfl rfl rfl
theorem dL_law_741 : decode cL_law 741 = .ok (.aload_n 1, 1) := dc43 bqL_law_727 14 rfl rfl
theorem dL_law_742 : decode cL_law 742 = .ok (.aload_n 0, 1) := dc42 bqL_law_727 15 rfl rfl
theorem dL_law_743 : decode cL_law 743 = .ok (.iload_n 3, 1) := dc29 bqL_law_727 16 rfl rfl
theorem dL_law_744 : decode cL_law 744 = .ok (.iconst 1, 1) := dc4 bqL_law_727 17 rfl rfl
theorem dL_law_745 : decode cL_law 745 = .ok (.iadd, 1) := dc96 bqL_law_727 18 rfl rfl
theorem dL_law_746 : decode cL_law 746 = .ok (.iaload, 1) := dc46 bqL_law_727 19 rfl rfl
theorem dL_law_747 : decode cL_law 747 = .ok (.aload_n 0, 1) := dc42 bqL_law_727 20 rfl rfl
theorem dL_law_748 : decode cL_law 748 = .ok (.iload_n 3, 1) := dc29 bqL_law_727 21 rfl rfl
theorem dL_law_749 : decode cL_law 749 = .ok (.iconst 2, 1) := dc5 bqL_law_727 22 rfl rfl
theorem dL_law_750 : decode cL_law 750 = .ok (.iadd, 1) := dc96 bqL_law_727 23 rfl rfl
theorem bqL_law_751 : hs_bs cL_law 751 [46, 42, 29, 6, 96, 46, 182, 0, 101, 87, 44, 42, 29, 4, 96, 46, 42, 29, 5, 96, 46, 42, 29, 6] := hs_bs_of _ _ _ (by decide +kernel)
theorem dL_law_751 : decode cL_law 751 = .ok (.iaload, 1) := dc46 bqL_law_751 0 rfl rfl
theorem dL_law_752 : decode cL_law 752 = .ok (.aload_n 0, 1) := dc42 bqL_law_751 1 rfl rfl
theorem dL_law_753 : decode cL_law 753 = .ok (.iload_n 3, 1) := dc29 bqL_law_751 2 rfl rfl
theorem dL_law_754 : decode cL_law 754 = .ok (.iconst 3, 1) := dc6 bqL_law_751 3 rfl rfl
theorem dL_law_755 : decode cL_law 755 = .ok (.iadd, 1) := dc96 bqL_law_751 4 rfl rfl
theorem dL_law_756 : decode cL_law 756 = .ok (.iaload, 1) := dc46 bqL_law_751 5 rfl rfl
theorem dL_law_757 : decode cL_law 757 = .ok (.invokevirtual 101, 3) := dc182 bqL_law_751 6 rfl rfl rfl
theorem dL_law_760 : decode cL_law 760 = .ok (.pop, 1) := dc87 bqL_law_751 9 rfl rfl
theorem dL_law_761 : decode cL_law 761 = .ok (.aload_n 2, 1) := dc44 bqL_law_751 10 rfl rfl
theorem dL_law_762 : decode cL_law 762 = .ok (.aload_n 0, 1) := dc42 bqL_law_751 11 rfl rfl
theorem dL_law_763 : decode cL_law 763 = .ok (.iload_n 3, 1) := dc29 bqL_law_751 12 rfl rfl
theorem dL_law_764 : decode cL_law 764 = .ok (.iconst 1, 1) := dc4 bqL_law_751 13 rfl rfl
theorem dL_law_765 : decode cL_law 765 = .ok (.iadd, 1) := dc96 bqL_law_751 14 rfl rfl
theorem dL_law_766 : decode cL_law 766 = .ok (.iaload, 1) := dc46 bqL_law_751 15 rfl rfl
theorem dL_law_767 : decode cL_law 767 = .ok (.aload_n 0, 1) := dc42 bqL_law_751 16 rfl rfl
theorem dL_law_768 : decode cL_law 768 = .ok (.iload_n 3, 1) := dc29 bqL_law_751 17 rfl rfl
theorem dL_law_769 : decode cL_law 769 = .ok (.iconst 2, 1) := dc5 bqL_law_751 18 rfl rfl
theorem dL_law_770 : decode cL_law 770 = .ok (.iadd, 1) := dc96 bqL_law_751 19 rfl rfl
theorem dL_law_771 : decode cL_law 771 = .ok (.iaload, 1) := dc46 bqL_law_751 20 rfl rfl
theorem dL_law_772 : decode cL_law 772 = .ok (.aload_n 0, 1) := dc42 bqL_law_751 21 rfl rfl
theorem dL_law_773 : decode cL_law 773 = .ok (.iload_n 3, 1) := dc29 bqL_law_751 22 rfl rfl
theorem dL_law_774 : decode cL_law 774 = .ok (.iconst 3, 1) := dc6 bqL_law_751 23 rfl rfl
theorem bqL_law_775 : hs_bs cL_law 775 [96, 46, 182, 0, 104, 87, 167, 2, 66, 43, 42, 29, 4, 96, 46, 42, 29, 5, 96, 46, 182, 0, 105, 87] := hs_bs_of _ _ _ (by decide +kernel)
theorem dL_law_775 : decode cL_law 775 = .ok (.iadd, 1) := dc96 bqL_law_775 0 rfl rfl
theorem dL_law_776 : decode cL_law 776 = .ok (.iaload, 1) := dc46 bqL_law_775 1 rfl rfl
theorem dL_law_777 : decode cL_law 777 = .ok (.invokevirtual 104, 3) := dc182 bqL_law_775 2 rfl rfl rfl
theorem dL_law_780 : decode cL_law 780 = .ok (.pop, 1) := dc87 bqL_law_775 5 rfl rfl
theorem dL_law_781 : decode cL_law 781 = .ok (.goto 578, 3) := dc167 bqL_law_775 6 rfl rfl rfl
theorem dL_law_784 : decode cL_law 784 = .ok (.aload_n 1, 1) := dc43 bqL_law_775 9 rfl rfl
theorem dL_law_785 : decode cL_law 785 = .ok (.aload_n 0, 1) := dc42 bqL_law_775 10 rfl rfl
theorem dL_law_786 : decode cL_law 786 = .ok (.iload_n 3, 1) := dc29 bqL_law_775 11 rfl rfl
theorem dL_law_787 : decode cL_law 787 = .ok (.iconst 1, 1) := dc4 bqL_law_775 12 rfl rfl
theorem dL_law_788 : decode cL_law 788 = .ok (.iadd, 1) := dc96 bqL_law_775 13 rfl rfl
theorem dL_law_789 : decode cL_law 789 = .ok (.iaload, 1) := dc46 bqL_law_775 14 rfl rfl
theorem dL_law_790 : decode cL_law 790 = .ok (.aload_n 0, 1) := dc42 bqL_law_775 15 rfl rfl
theorem dL_law_791 : decode cL_law 791 = .ok (.iload_n 3, 1) := dc29 bqL_law_775 16 rfl rfl
theorem dL_law_792 : decode cL_law 792 = .ok (.iconst 2, 1) := dc5 bqL_law_775 17 rfl rfl
theorem dL_law_793 : decode cL_law 793 = .ok (.iadd, 1) := dc96 bqL_law_775 18 rfl rfl
theorem dL_law_794 : decode cL_law 794 = .ok (.iaload, 1) := dc46 bqL_law_775 19 rfl rfl
theorem dL_law_795 : decode cL_law 795 = .ok (.invokevirtual 105, 3) := dc182 bqL_law_775 20 rfl rfl rfl
theorem dL_law_798 : decode cL_law 798 = .ok (.pop, 1) := dc87 bqL_law_775 23 rfl rfl
theorem bqL_law_799 : hs_bs cL_law 799 [44, 42, 29, 4, 96, 46, 42, 29, 5, 96, 46, 182, 0, 108, 87, 167, 2, 33, 43, 42, 29, 4, 96, 46] := hs_bs_of _ _ _ (by decide +kernel)
theorem dL_law_799 : decode cL_law 799 = .ok (.aload_n 2, 1) := dc44 bqL_law_799 0 rfl rfl
theorem dL_law_800 : decode cL_law 800 = .ok (.aload_n 0, 1) := dc42 bqL_law_799 1 rfl rfl
theorem dL_law_801 : decode cL_law 801 = .ok (.iload_n 3, 1) := dc29 bqL_law_799 2 rfl rfl
theorem dL_law_802 : decode cL_law 802 = .ok (.iconst 1, 1) := dc4 bqL_law_799 3 rfl rfl
theorem dL_law_803 : decode cL_law 803 = .ok (.iadd, 1) := dc96 bqL_law_799 4 rfl rfl
theorem dL_law_804 : decode cL_law 804 = .ok (.iaload, 1) := dc46 bqL_law_799 5 rfl rfl
theorem dL_law_805 : decode cL_law 805 = .ok (.aload_n 0, 1) := dc42 bqL_law_799 6 rfl rfl
theorem dL_law_806 : decode cL_law 806 = .ok (.iload_n 3, 1) := dc29 bqL_law_799 7 rfl rfl
theorem dL_law_807 : decode cL_law 807 = .ok (.iconst 2, 1) := dc5 bqL_law_799 8 rfl rfl
theorem dL_law_808 : decode cL_law 808 = .ok (.iadd, 1) := dc96 bqL_law_799 9 rfl rfl
theorem dL_law_809 : decode cL_law 809 = .ok (.iaload, 1) := dc46 bqL_law_799 10 rfl rfl
theorem dL_law_810 : decode cL_law 810 = .ok (.invokevirtual 108, 3) := dc182 bqL_law_799 11 rfl rfl rfl
theorem dL_law_813 : decode cL_law 813 = .ok (.pop, 1) := dc87 bqL_law_799 14 rfl rfl
theorem dL_law_814 : decode cL_law 814 = .ok (.goto 545, 3) := dc167 bqL_law_799 15 rfl rfl rfl
theorem dL_law_817 : decode cL_law 817 = .ok (.aload_n 1, 1) := dc43 bqL_law_799 18 rfl rfl
theorem dL_law_818 : decode cL_law 818 = .ok (.aload_n 0, 1) := dc42 bqL_law_799 19 rfl rfl
theorem dL_law_819 : decode cL_law 819 = .ok (.iload_n 3, 1) := dc29 bqL_law_799 20 rfl rfl
theorem dL_law_820 : decode cL_law 820 = .ok (.iconst 1, 1) := dc4 bqL_law_799 21 rfl rfl
theorem dL_law_821 : decode cL_law 821 = .ok (.iadd, 1) := dc96 bqL_law_799 22 rfl rfl
theorem dL_law_822 : decode cL_law 822 = .ok (.iaload, 1) := dc46 bqL_law_799 23 rfl rfl
theorem bqL_law_823 : hs_bs cL_law 823 [42, 29, 5, 96, 46, 182, 0, 109, 87, 44, 42, 29, 4, 96, 46, 42, 29, 5, 96, 46, 182, 0, 112, 87] := hs_bs_of _ _ _ (by decide +kernel)
theorem dL_law_823 : decode cL_law 823 = .ok (.aload_n 0, 1) := dc42 bqL_law_823 0 rfl rfl
theorem dL_law_824 : decode cL_law 824 = .ok (.iload_n 3, 1) := dc29 bqL_law_823 1 rfl rfl
theorem dL_law_825 : decode cL_law 825 = .ok (.iconst 2, 1) := dc5 bqL_law_823 2 rfl rfl
theorem dL_law_826 : decode cL_law 826 = .ok (.iadd, 1) := dc96 bqL_law_823 3 rfl rfl
theorem dL_law_827 : decode cL_law 827 = .ok (.iaload, 1) := dc46 bqL_law_823 4 rfl rfl
theorem dL_law_828 : decode cL_law 828 = .ok (.invokevirtual 109, 3) := dc182 bqL_law_823 5 rfl rfl rfl
theorem dL_law_831 : decode cL_law 831 = .ok (.pop, 1) := dc87 bqL_law_823 8 rfl rfl
theorem dL_law_832 : decode cL_law 832 = .ok (.aload_n 2, 1) := dc44 bqL_law_823 9 rfl rfl
theorem dL_law_833 : decode cL_law 833 = .ok (.aload_n 0, 1) := dc42 bqL_law_823 10 rfl rfl
theorem dL_law_834 : decode cL_law 834 = .ok (.iload_n 3, 1) := dc29 bqL_law_823 11 rfl rfl
theorem dL_law_835 : decode cL_law 835 = .ok (.iconst 1, 1) := dc4 bqL_law_823 12 rfl rfl
theorem dL_law_836 : decode cL_law 836 = .ok (.iadd, 1) := dc96 bqL_law_823 13 rfl rfl
theorem dL_law_837 : decode cL_law 837 = .ok (.iaload, 1) := dc46 bqL_law_823 14 rfl rfl
theorem dL_law_838 : decode cL_law 838 = .ok (.aload_n 0, 1) := dc42 bqL_law_823 15 rfl rfl
theorem dL_law_839 : decode cL_law 839 = .ok (.iload_n 3, 1) := dc29 bqL_law_823 16 rfl rfl
theorem dL_law_840 : decode cL_law 840 = .ok (.iconst 2, 1) := dc5 bqL_law_823 17 rfl rfl
theorem dL_law_841 : decode cL_law 841 = .ok (.iadd, 1) := dc96 bqL_law_823 18 rfl rfl
theorem dL_law_842 : decode cL_law 842 = .ok (.iaload, 1) := dc46 bqL_law_823 19 rfl rfl
theorem dL_law_843 : decode cL_law 843 = .ok (.invokevirtual 112, 3) := dc182 bqL_law_823 20 rfl rfl rfl
theorem dL_law_846 : decode cL_law 846 = .ok (.pop, 1) := dc87 bqL_law_823 23 rfl rfl
theorem bqL_law_847 : hs_bs cL_law 847 [167, 2, 0, 43, 42, 29, 4, 96, 46, 182, 0, 113, 87, 44, 42, 29, 4, 96, 46, 182, 0, 116, 87] := hs_bs_of _ _ _ (by decide +kernel)
theorem dL_law_847 : decode cL_law 847 = .ok (.goto 512, 3) := dc167 bqL_law_847 0 rfl rfl rfl
theorem dL_law_850 : decode cL_law 850 = .ok (.aload_n 1, 1) := dc43 bqL_law_847 3 rfl rfl
theorem dL_law_851 : decode cL_law 851 = .ok (.aload_n 0, 1) := dc42 bqL_law_847 4 rfl rfl
theorem dL_law_852 : decode cL_law 852 = .ok (.iload_n 3, 1) := dc29 bqL_law_847 5 rfl rfl
theorem dL_law_853 : decode cL_law 853 = .ok (.iconst 1, 1) := dc4 bqL_law_847 6 rfl rfl
theorem dL_law_854 : decode cL_law 854 = .ok (.iadd, 1) := dc96 bqL_law_847 7 rfl rfl
theorem dL_law_855 : decode cL_law 855 = .ok (.iaload, 1) := dc46 bqL_law_847 8 rfl rfl
theorem dL_law_856 : decode cL_law 856 = .ok (.invokevirtual 113, 3) := dc182 bqL_law_847 9 rfl rfl rfl
theorem dL_law_859 : decode cL_law 859 = .ok (.pop, 1) := dc87 bqL_law_847 12 rfl rfl
theorem dL_law_860 : decode cL_law 860 = .ok (.aload_n 2, 1) := dc44 bqL_law_847 13 rfl rfl
theorem dL_law_861 : decode cL_law 861 = .ok (.aload_n 0, 1) := dc42 bqL_law_847 14 rfl rfl
theorem dL_law_862 : decode cL_law 862 = .ok (.iload_n 3, 1) := dc29 bqL_law_847 15 rfl rfl
theorem dL_law_863 : decode cL_law 863 = .ok (.iconst 1, 1) := dc4 bqL_law_847 16 rfl rfl
theorem dL_law_864 : decode cL_law 864 = .ok (.iadd, 1) := dc96 bqL_law_847 17 rfl rfl
theorem dL_law_865 : decode cL_law 865 = .ok (.iaload, 1) := dc46 bqL_law_847 18 rfl rfl
theorem dL_law_866 : decode cL_law 866 = .ok (.invokevirtual 116, 3) := dc182 bqL_law_847 19 rfl rfl rfl
theorem dL_law_869 : decode cL_law 869 = .ok (.pop, 1) := dc87 bqL_law_847 22 rfl rfl
theorem bqL_law_870 : hs_bs cL_law 870 [167, 1, 233, 43, 42, 29, 4, 96, 46, 182, 0, 117, 87, 44, 42, 29, 4, 96, 46, 182, 0, 120, 87] := hs_bs_of _ _ _ (by decide +kernel)
theorem dL_law_870 : decode cL_law 870 = .ok (.goto 489, 3) := dc167 bqL_law_870 0 rfl rfl rfl
theorem dL_law_873 : decode cL_law 873 = .ok (.aload_n 1, 1) := dc43 bqL_law_870 3 rfl rfl
theorem dL_law_874 : decode cL_law 874 = .ok (.aload_n 0, 1) := dc42 bqL_law_870 4 rfl rfl
theorem dL_law_875 : decode cL_law 875 = .ok (.iload_n 3, 1) := dc29 bqL_law_870 5 rfl rfl
theorem dL_law_876 : decode cL_law 876 = .ok (.iconst 1, 1) := dc4 bqL_law_870 6 rfl rfl
theorem dL_law_877 : decode cL_law 877 = .ok (.iadd, 1) := dc96 bqL_law_870 7 rfl rfl
theorem dL_law_878 : decode cL_law 878 = .ok (.iaload, 1) := dc46 bqL_law_870 8 rfl rfl
theorem dL_law_879 : decode cL_law 879 = .ok (.invokevirtual 117, 3) := dc182 bqL_law_870 9 rfl rfl rfl
theorem dL_law_882 : decode cL_law 882 = .ok (.pop, 1) := dc87 bqL_law_870 12 rfl rfl
theorem dL_law_883 : decode cL_law 883 = .ok (.aload_n 2, 1) := dc44 bqL_law_870 13 rfl rfl
theorem dL_law_884 : decode cL_law 884 = .ok (.aload_n 0, 1) := dc42 bqL_law_870 14 rfl rfl
theorem dL_law_885 : decode cL_law 885 = .ok (.iload_n 3, 1) := dc29 bqL_law_870 15 rfl rfl
theorem dL_law_886 : decode cL_law 886 = .ok (.iconst 1, 1) := dc4 bqL_law_870 16 rfl rfl
theorem dL_law_887 : decode cL_law 887 = .ok (.iadd, 1) := dc96 bqL_law_870 17 rfl rfl
theorem dL_law_888 : decode cL_law 888 = .ok (.iaload, 1) := dc46 bqL_law_870 18 rfl rfl
theorem dL_law_889 : decode cL_law 889 = .ok (.invokevirtual 120, 3) := dc182 bqL_law_870 19 rfl rfl rfl
theorem dL_law_892 : decode cL_law 892 = .ok (.pop, 1) := dc87 bqL_law_870 22 rfl rfl
theorem bqL_law_893 : hs_bs cL_law 893 [167, 1, 210, 43, 42, 29, 4, 96, 46, 42, 29, 5, 96, 46, 42, 29, 6, 96, 46, 182, 0, 121, 88, 44] := hs_bs_of _ _ _ (by decide +kernel)
theorem dL_law_893 : decode cL_law 893 = .ok (.goto 466, 3) := dc167 bqL_law_893 0 rfl rfl rfl
theorem dL_law_896 : decode cL_law 896 = .ok (.aload_n 1, 1) := dc43 bqL_law_893 3 rfl rfl
theorem dL_law_897 : decode cL_law 897 = .ok (.aload_n 0, 1) := dc42 bqL_law_893 4 rfl rfl
theorem dL_law_898 : decode cL_law 898 = .ok (.iload_n 3, 1) := dc29 bqL_law_893 5 rfl rfl
theorem dL_law_899 : decode cL_law 899 = .ok (.iconst 1, 1) := dc4 bqL_law_893 6 rfl rfl
theorem dL_law_900 : decode cL_law 900 = .ok (.iadd, 1) := dc96 bqL_law_893 7 rfl rfl
theorem dL_law_901 : decode cL_law 901 = .ok (.iaload, 1) := dc46 bqL_law_893 8 rfl rfl
theorem dL_law_902 : decode cL_law 902 = .ok (.aload_n 0, 1) := dc42 bqL_law_893 9 rfl rfl
theorem dL_law_903 : decode cL_law 903 = .ok (.iload_n 3, 1) := dc29 bqL_law_893 10 rfl rfl
theorem dL_law_904 : decode cL_law 904 = .ok (.iconst 2, 1) := dc5 bqL_law_893 11 rfl rfl
theorem dL_law_905 : decode cL_law 905 = .ok (.iadd, 1) := dc96 bqL_law_893 12 rfl rfl
theorem dL_law_906 : decode cL_law 906 = .ok (.iaload, 1) := dc46 bqL_law_893 13 rfl rfl
theorem dL_law_907 : decode cL_law 907 = .ok (.aload_n 0, 1) := dc42 bqL_law_893 14 rfl rfl
theorem dL_law_908 : decode cL_law 908 = .ok (.iload_n 3, 1) := dc29 bqL_law_893 15 rfl rfl
theorem dL_law_909 : decode cL_law 909 = .ok (.iconst 3, 1) := dc6 bqL_law_893 16 rfl rfl
theorem dL_law_910 : decode cL_law 910 = .ok (.iadd, 1) := dc96 bqL_law_893 17 rfl rfl
theorem dL_law_911 : decode cL_law 911 = .ok (.iaload, 1) := dc46 bqL_law_893 18 rfl rfl
theorem dL_law_912 : decode cL_law 912 = .ok (.invokevirtual 121, 3) := dc182 bqL_law_893 19 rfl rfl rfl
theorem dL_law_915 : decode cL_law 915 = .ok (.pop2, 1) := dc88 bqL_law_893 22 rfl rfl
theorem dL_law_916 : decode cL_law 916 = .ok (.aload_n 2, 1) := dc44 bqL_law_893 23 rfl rfl
theorem bqL_law_917 : hs_bs cL_law 917 [42, 29, 4, 96, 46, 42, 29, 5, 96, 46, 42, 29, 6, 96, 46, 182, 0, 125, 88, 167, 1, 167, 43, 42] := hs_bs_of _ _ _ (by decide +kernel)
theorem dL_law_917 : decode cL_law 917 = .ok (.aload_n 0, 1) := dc42 bqL_law_917 0 rfl rfl
theorem dL_law_918 : decode cL_law 918 = .ok (.iload_n 3, 1) := dc29 bqL_law_917 1 rfl rfl
theorem dL_law_919 : decode cL_law 919 = .ok (.iconst 1, 1) := dc4 bqL_law_917 2 rfl rfl
theorem dL_law_920 : decode cL_law 920 = .ok (.iadd, 1) := dc96 bqL_law_917 3 rfl rfl
theorem dL_law_921 : decode cL_law 921 = .ok (.iaload, 1) := dc46 bqL_law_917 4 rfl rfl
theorem dL_law_922 : decode cL_law 922 = .ok (.aload_n 0, 1) := dc42 bqL_law_917 5 rfl rfl
theorem dL_law_923 : decode cL_law 923 = .ok (.iload_n 3, 1) := dc29 bqL_law_917 6 rfl rfl
theorem dL_law_924 : decode cL_law 924 = .ok (.iconst 2, 1) := dc5 bqL_law_917 7 rfl rfl
theorem dL_law_925 : decode cL_law 925 = .ok (.iadd, 1) := dc96 bqL_law_917 8 rfl rfl
theorem dL_law_926 : decode cL_law 926 = .ok (.iaload, 1) := dc46 bqL_law_917 9 rfl rfl
theorem dL_law_927 : decode cL_law 927 = .ok (.aload_n 0, 1) := dc42 bqL_law_917 10 rfl rfl
theorem dL_law_928 : decode cL_law 928 = .ok (.iload_n 3, 1) := dc29 bqL_law_917 11 rfl rfl
theorem dL_law_929 : decode cL_law 929 = .ok (.iconst 3, 1) := dc6 bqL_law_917 12 rfl rfl
theorem dL_law_930 : decode cL_law 930 = .ok (.iadd, 1) := dc96 bqL_law_917 13 rfl rfl
theorem dL_law_931 : decode cL_law 931 = .ok (.iaload, 1) := dc46 bqL_law_917 14 rfl rfl
theorem dL_law_932 : decode cL_law 932 = .ok (.invokevirtual 125, 3) := dc182 bqL_law_917 15 rfl rfl rfl
theorem dL_law_935 : decode cL_law 935 = .ok (.pop2, 1) := dc88 bqL_law_917 18 rfl rfl
theorem dL_law_936 : decode cL_law 936 = .ok (.goto 423, 3) := dc167 bqL_law_917 19 rfl rfl rfl
theorem dL_law_939 : decode cL_law 939 = .ok (.aload_n 1, 1) := dc43 bqL_law_917 22 rfl rfl
theorem dL_law_940 : decode cL_law 940 = .ok (.aload_n 0, 1) := dc42 bqL_law_917 23 rfl rfl
theorem bqL_law_941 : hs_bs cL_law 941 [29, 4, 96, 46, 42, 29, 5, 96, 46, 42, 29, 6, 96, 46, 182, 0, 126, 44, 42, 29, 4, 96, 46, 42] := hs_bs_of _ _ _ (by decide +kernel)
theorem dL_law_941 : decode cL_law 941 = .ok (.iload_n 3, 1) := dc29 bqL_law_941 0 rfl rfl
theorem dL_law_942 : decode cL_law 942 = .ok (.iconst 1, 1) := dc4 bqL_law_941 1 rfl rfl
theorem dL_law_943 : decode cL_law 943 = .ok (.iadd, 1) := dc96 bqL_law_941 2 rfl rfl
theorem dL_law_944 : decode cL_law 944 = .ok (.iaload, 1) := dc46 bqL_law_941 3 rfl rfl
theorem dL_law_945 : decode cL_law 945 = .ok (.aload_n 0, 1) := dc42 bqL_law_941 4 rfl rfl
theorem dL_law_946 : decode cL_law 946 = .ok (.iload_n 3, 1) := dc29 bqL_law_941 5 rfl rfl
theorem dL_law_947 : decode cL_law 947 = .ok (.iconst 2, 1) := dc5 bqL_law_941 6 rfl rfl
theorem dL_law_948 : decode cL_law 948 = .ok (.iadd, 1) := dc96 bqL_law_941 7 rfl rfl
theorem dL_law_949 : decode cL_law 949 = .ok (.iaload, 1) := dc46 bqL_law_941 8 rfl rfl
theorem dL_law_950 : decode cL_law 950 = .ok (.aload_n 0, 1) := dc42 bqL_law_941 9 rfl rfl
theorem dL_law_951 : decode cL_law 951 = .ok (.iload_n 3, 1) := dc29 bqL_law_941 10 rfl rfl
theorem dL_law_952 : decode cL_law 952 = .ok (.iconst 3, 1) := dc6 bqL_law_941 11 rfl rfl
theorem dL_law_953 : decode cL_law 953 = .ok (.iadd, 1) := dc96 bqL_law_941 12 rfl rfl
theorem dL_law_954 : decode cL_law 954 = .ok (.iaload, 1) := dc46 bqL_law_941 13 rfl rfl
theorem dL_law_955 : decode cL_law 955 = .ok (.invokevirtual 126, 3) := dc182 bqL_law_941 14 rfl rfl rfl
theorem dL_law_958 : decode cL_law 958 = .ok (.aload_n 2, 1) := dc44 bqL_law_941 17 rfl rfl
theorem dL_law_959 : decode cL_law 959 = .ok (.aload_n 0, 1) := dc42 bqL_law_941 18 rfl rfl
theorem dL_law_960 : decode cL_law 960 = .ok (.iload_n 3, 1) := dc29 bqL_law_941 19 rfl rfl
theorem dL_law_961 : decode cL_law 961 = .ok (.iconst 1, 1) := dc4 bqL_law_941 20 rfl rfl
theorem dL_law_962 : decode cL_law 962 = .ok (.iadd, 1) := dc96 bqL_law_941 21 rfl rfl
theorem dL_law_963 : decode cL_law 963 = .ok (.iaload, 1) := dc46 bqL_law_941 22 rfl rfl
theorem dL_law_964 : decode cL_law 964 = .ok (.aload_n 0, 1) := dc42 bqL_law_941 23 rfl rfl
theorem bqL_law_965 : hs_bs cL_law 965 [29, 5, 96, 46, 42, 29, 6, 96, 46, 182, 0, 129, 148, 153, 1, 125, 3, 172, 43, 42, 29, 4, 96, 46] := hs_bs_of _ _ _ (by decide +kernel)
theorem dL_law_965 : decode cL_law 965 = .ok (.iload_n 3, 1) := dc29 bqL_law_965 0 rfl rfl
theorem dL_law_966 : decode cL_law 966 = .ok (.iconst 2, 1) := dc5 bqL_law_965 1 rfl rfl
theorem dL_law_967 : decode cL_law 967 = .ok (.iadd, 1) := dc96 bqL_law_965 2 rfl rfl
theorem dL_law_968 : decode cL_law 968 = .ok (.iaload, 1) := dc46 bqL_law_965 3 rfl rfl
theorem dL_law_969 : decode cL_law 969 = .ok (.aload_n 0, 1) := dc42 bqL_law_965 4 rfl rfl
theorem dL_law_970 : decode cL_law 970 = .ok (.iload_n 3, 1) := dc29 bqL_law_965 5 rfl rfl
theorem dL_law_971 : decode cL_law 971 = .ok (.iconst 3, 1) := dc6 bqL_law_965 6 rfl rfl
theorem dL_law_972 : decode cL_law 972 = .ok (.iadd, 1) := dc96 bqL_law_965 7 rfl rfl
theorem dL_law_973 : decode cL_law 973 = .ok (.iaload, 1) := dc46 bqL_law_965 8 rfl rfl
theorem dL_law_974 : decode cL_law 974 = .ok (.invokevirtual 129, 3) := dc182 bqL_law_965 9 rfl rfl rfl
theorem dL_law_977 : decode cL_law 977 = .ok (.lcmp, 1) := dc148 bqL_law_965 12 rfl rfl
theorem dL_law_978 : decode cL_law 978 = .ok (.ifCond .eq 381, 3) := dc153 bqL_law_965 13 rfl rfl rfl
theorem dL_law_983 : decode cL_law 983 = .ok (.aload_n 1, 1) := dc43 bqL_law_965 18 rfl rfl
theorem dL_law_984 : decode cL_law 984 = .ok (.aload_n 0, 1) := dc42 bqL_law_965 19 rfl rfl
theorem dL_law_985 : decode cL_law 985 = .ok (.iload_n 3, 1) := dc29 bqL_law_965 20 rfl rfl
theorem dL_law_986 : decode cL_law 986 = .ok (.iconst 1, 1) := dc4 bqL_law_965 21 rfl rfl
theorem dL_law_987 : decode cL_law 987 = .ok (.iadd, 1) := dc96 bqL_law_965 22 rfl rfl
theorem dL_law_988 : decode cL_law 988 = .ok (.iaload, 1) := dc46 bqL_law_965 23 rfl rfl
theorem bqL_law_989 : hs_bs cL_law 989 [42, 29, 5, 96, 46, 42, 29, 6, 96, 46, 182, 0, 130, 87, 44, 42, 29, 4, 96, 46, 42, 29, 5, 96] := hs_bs_of _ _ _ (by decide +kernel)
theorem dL_law_989 : decode cL_law 989 = .ok (.aload_n 0, 1) := dc42 bqL_law_989 0 rfl rfl
theorem dL_law_990 : decode cL_law 990 = .ok (.iload_n 3, 1) := dc29 bqL_law_989 1 rfl rfl
theorem dL_law_991 : decode cL_law 991 = .ok (.iconst 2, 1) := dc5 bqL_law_989 2 rfl rfl
theorem dL_law_992 : decode cL_law 992 = .ok (.iadd, 1) := dc96 bqL_law_989 3 rfl rfl
theorem dL_law_993 : decode cL_law 993 = .ok (.iaload, 1) := dc46 bqL_law_989 4 rfl rfl
theorem dL_law_994 : decode cL_law 994 = .ok (.aload_n 0, 1) := dc42 bqL_law_989 5 rfl rfl
theorem dL_law_995 : decode cL_law 995 = .ok (.iload_n 3, 1) := dc29 bqL_law_989 6 rfl rfl
theorem dL_law_996 : decode cL_law 996 = .ok (.iconst 3, 1) := dc6 bqL_law_989 7 rfl rfl
theorem dL_law_997 : decode cL_law 997 = .ok (.iadd, 1) := dc96 bqL_law_989 8 rfl rfl
theorem dL_law_998 : decode cL_law 998 = .ok (.iaload, 1) := dc46 bqL_law_989 9 rfl rfl
theorem dL_law_999 : decode cL_law 999 = .ok (.invokevirtual 130, 3) := dc182 bqL_law_989 10 rfl rfl rfl
theorem dL_law_1002 : decode cL_law 1002 = .ok (.pop, 1) := dc87 bqL_law_989 13 rfl rfl
theorem dL_law_1003 : decode cL_law 1003 = .ok (.aload_n 2, 1) := dc44 bqL_law_989 14 rfl rfl
theorem dL_law_1004 : decode cL_law 1004 = .ok (.aload_n 0, 1) := dc42 bqL_law_989 15 rfl rfl
theorem dL_law_1005 : decode cL_law 1005 = .ok (.iload_n 3, 1) := dc29 bqL_law_989 16 rfl rfl
theorem dL_law_1006 : decode cL_law 1006 = .ok (.iconst 1, 1) := dc4 bqL_law_989 17 rfl rfl
theorem dL_law_1007 : decode cL_law 1007 = .ok (.iadd, 1) := dc96 bqL_law_989 18 rfl rfl
theorem dL_law_1008 : decode cL_law 1008 = .ok (.iaload, 1) := dc46 bqL_law_989 19 rfl rfl
theorem dL_law_1009 : decode cL_law 1009 = .ok (.aload_n 0, 1) := dc42 bqL_law_989 20 rfl rfl
theorem dL_law_1010 : decode cL_law 1010 = .ok (.iload_n 3, 1) := dc29 bqL_law_989 21 rfl rfl
theorem dL_law_1011 : decode cL_law 1011 = .ok (.iconst 2, 1) := dc5 bqL_law_989 22 rfl rfl
theorem dL_law_1012 : decode cL_law 1012 = .ok (.iadd, 1) := dc96 bqL_law_989 23 rfl rfl
theorem bqL_law_1013 : hs_bs cL_law 1013 [46, 42, 29, 6, 96, 46, 182, 0, 133, 87, 167, 1, 80, 43, 42, 29, 4, 96, 46, 182, 0, 134, 87, 44] := hs_bs_of _ _ _ (by decide +kernel)
theorem dL_law_1013 : decode cL_law 1013 = .ok (.iaload, 1) := dc46 bqL_law_1013 0 rfl rfl
theorem dL_law_1014 : decode cL_law 1014 = .ok (.aload_n 0, 1) := dc42 bqL_law_1013 1 rfl rfl
theorem dL_law_1015 : decode cL_law 1015 = .ok (.iload_n 3, 1) := dc29 bqL_law_1013 2 rfl rfl
theorem dL_law_1016 : decode cL_law 1016 = .ok (.iconst 3, 1) := dc6 bqL_law_1013 3 rfl rfl
theorem dL_law_1017 : decode cL_law 1017 = .ok (.iadd, 1) := dc96 bqL_law_1013 4 rfl rfl
theorem dL_law_1018 : decode cL_law 1018 = .ok (.iaload, 1) := dc46 bqL_law_1013 5 rfl rfl
theorem dL_law_1019 : decode cL_law 1019 = .ok (.invokevirtual 133, 3) := dc182 bqL_law_1013 6 rfl rfl rfl
theorem dL_law_1022 : decode cL_law 1022 = .ok (.pop, 1) := dc87 bqL_law_1013 9 rfl rfl
theorem dL_law_1023 : decode cL_law 1023 = .ok (.goto 336, 3) := dc167 bqL_law_1013 10 rfl rfl rfl
theorem dL_law_1026 : decode cL_law 1026 = .ok (.aload_n 1, 1) := dc43 bqL_law_1013 13 rfl rfl
theorem dL_law_1027 : decode cL_law 1027 = .ok (.aload_n 0, 1) := dc42 bqL_law_1013 14 rfl rfl
theorem dL_law_1028 : decode cL_law 1028 = .ok (.iload_n 3, 1) := dc29 bqL_law_1013 15 rfl rfl
theorem dL_law_1029 : decode cL_law 1029 = .ok (.iconst 1, 1) := dc4 bqL_law_1013 16 rfl rfl
theorem dL_law_1030 : decode cL_law 1030 = .ok (.iadd, 1) := dc96 bqL_law_1013 17 rfl rfl
theorem dL_law_1031 : decode cL_law 1031 = .ok (.iaload, 1) := dc46 bqL_law_1013 18 rfl rfl
theorem dL_law_1032 : decode cL_law 1032 = .ok (.invokevirtual 134, 3) := dc182 bqL_law_1013 19 rfl rfl rfl
theorem dL_law_1035 : decode cL_law 1035 = .ok (.pop, 1) := dc87 bqL_law_1013 22 rfl rfl
theorem dL_law_1036 : decode cL_law 1036 = .ok (.aload_n 2, 1) := dc44 bqL_law_1013 23 rfl rfl
theorem bqL_law_1037 : hs_bs cL_law 1037 [42, 29, 4, 96, 46, 182, 0, 137, 87, 167, 1, 57, 43, 42, 29, 4, 96, 46, 182, 0, 138, 87, 44, 42] := hs_bs_of _ _ _ (by decide +kernel)
theorem dL_law_1037 : decode cL_law 1037 = .ok (.aload_n 0, 1) := dc42 bqL_law_1037 0 rfl rfl
theorem dL_law_1038 : decode cL_law 1038 = .ok (.iload_n 3, 1) := dc29 bqL_law_1037 1 rfl rfl
theorem dL_law_1039 : decode cL_law 1039 = .ok (.iconst 1, 1) := dc4 bqL_law_1037 2 rfl rfl
theorem dL_law_1040 : decode cL_law 1040 = .ok (.iadd, 1) := dc96 bqL_law_1037 3 rfl rfl
theorem dL_law_1041 : decode cL_law 1041 = .ok (.iaload, 1) := dc46 bqL_law_1037 4 rfl rfl
theorem dL_law_1042 : decode cL_law 1042 = .ok (.invokevirtual 137, 3) := dc182 bqL_law_1037 5 rfl rfl rfl
theorem dL_law_1045 : decode cL_law 1045 = .ok (.pop, 1) := dc87 bqL_law_1037 8 rfl rfl
theorem dL_law_1046 : decode cL_law 1046 = .ok (.goto 313, 3) := dc167 bqL_law_1037 9 rfl rfl rfl
theorem dL_law_1049 : decode cL_law 1049 = .ok (.aload_n 1, 1) := dc43 bqL_law_1037 12 rfl rfl
theorem dL_law_1050 : decode cL_law 1050 = .ok (.aload_n 0, 1) := dc42 bqL_law_1037 13 rfl rfl
theorem dL_law_1051 : decode cL_law 1051 = .ok (.iload_n 3, 1) := dc29 bqL_law_1037 14 rfl rfl
theorem dL_law_1052 : decode cL_law 1052 = .ok (.iconst 1, 1) := dc4 bqL_law_1037 15 rfl rfl
theorem dL_law_1053 : decode cL_law 1053 = .ok (.iadd, 1) := dc96 bqL_law_1037 16 rfl rfl
theorem dL_law_1054 : decode cL_law 1054 = .ok (.iaload, 1) := dc46 bqL_law_1037 17 rfl rfl
theorem dL_law_1055 : decode cL_law 1055 = .ok (.invokevirtual 138, 3) := dc182 bqL_law_1037 18 rfl rfl rfl
theorem dL_law_1058 : decode cL_law 1058 = .ok (.pop, 1) := dc87 bqL_law_1037 21 rfl rfl
theorem dL_law_1059 : decode cL_law 1059 = .ok (.aload_n 2, 1) := dc44 bqL_law_1037 22 rfl rfl
theorem dL_law_1060 : decode cL_law 1060 = .ok (.aload_n 0, 1) := dc42 bqL_law_1037 23 rfl rfl
theorem bqL_law_1061 : hs_bs cL_law 1061 [29, 4, 96, 46, 182, 0, 141, 87, 167, 1, 34, 43, 42, 29, 4, 96, 46, 182, 0, 142, 87, 44, 42, 29] := hs_bs_of _ _ _ (by decide +kernel)
theorem dL_law_1061 : decode cL_law 1061 = .ok (.iload_n 3, 1) := dc29 bqL_law_1061 0 rfl rfl
theorem dL_law_1062 : decode cL_law 1062 = .ok (.iconst 1, 1) := dc4 bqL_law_1061 1 rfl rfl
theorem dL_law_1063 : decode cL_law 1063 = .ok (.iadd, 1) := dc96 bqL_law_1061 2 rfl rfl
theorem dL_law_1064 : decode cL_law 1064 = .ok (.iaload, 1) := dc46 bqL_law_1061 3 rfl rfl
theorem dL_law_1065 : decode cL_law 1065 = .ok (.invokevirtual 141, 3) := dc182 bqL_law_1061 4 rfl rfl rfl
theorem dL_law_1068 : decode cL_law 1068 = .ok (.pop, 1) := dc87 bqL_law_1061 7 rfl rfl
theorem dL_law_1069 : decode cL_law 1069 = .ok (.goto 290, 3) := dc167 bqL_law_1061 8 rfl rfl rfl
theorem dL_law_1072 : decode cL_law 1072 = .ok (.aload_n 1, 1) := dc43 bqL_law_1061 11 rfl rfl
theorem dL_law_1073 : decode cL_law 1073 = .ok (.aload_n 0, 1) := dc42 bqL_law_1061 12 rfl rfl
theorem dL_law_1074 : decode cL_law 1074 = .ok (.iload_n 3, 1) := dc29 bqL_law_1061 13 rfl rfl
theorem dL_law_1075 : decode cL_law 1075 = .ok (.iconst 1, 1) := dc4 bqL_law_1061 14 rfl rfl
theorem dL_law_1076 : decode cL_law 1076 = .ok (.iadd, 1) := dc96 bqL_law_1061 15 rfl rfl
theorem dL_law_1077 : decode cL_law 1077 = .ok (.iaload, 1) := dc46 bqL_law_1061 16 rfl rfl
theorem dL_law_1078 : decode cL_law 1078 = .ok (.invokevirtual 142, 3) := dc182 bqL_law_1061 17 rfl rfl rfl
theorem dL_law_1081 : decode cL_law 1081 = .ok (.pop, 1) := dc87 bqL_law_1061 20 rfl rfl
theorem dL_law_1082 : decode cL_law 1082 = .ok (.aload_n 2, 1) := dc44 bqL_law_1061 21 rfl rfl
theorem dL_law_1083 : decode cL_law 1083 = .ok (.aload_n 0, 1) := dc42 bqL_law_1061 22 rfl rfl
theorem dL_law_1084 : decode cL_law 1084 = .ok (.iload_n 3, 1) := dc29 bqL_law_1061 23 rfl rfl
theorem bqL_law_1085 : hs_bs cL_law 1085 [4, 96, 46, 182, 0, 145, 87, 167, 1, 11, 43, 42, 29, 4, 96, 46, 42, 29, 5, 96, 46, 42, 29, 6] := hs_bs_of _ _ _ (by decide +kernel)
theorem dL_law_1085 : decode cL_law 1085 = .ok (.iconst 1, 1) := dc4 bqL_law_1085 0 rfl rfl
theorem dL_law_1086 : decode cL_law 1086 = .ok (.iadd, 1) := dc96 bqL_law_1085 1 rfl rfl
theorem dL_law_1087 : decode cL_law 1087 = .ok (.iaload, 1) := dc46 bqL_law_1085 2 rfl rfl
theorem dL_law_1088 : decode cL_law 1088 = .ok (.invokevirtual 145, 3) := dc182 bqL_law_1085 3 rfl rfl rfl
theorem dL_law_1091 : decode cL_law 1091 = .ok (.pop, 1) := dc87 bqL_law_1085 6 rfl rfl
theorem dL_law_1092 : decode cL_law 1092 = .ok (.goto 267, 3) := dc167 bqL_law_1085 7 rfl rfl rfl
theorem dL_law_1095 : decode cL_law 1095 = .ok (.aload_n 1, 1) := dc43 bqL_law_1085 10 rfl rfl
theorem dL_law_1096 : decode cL_law 1096 = .ok (.aload_n 0, 1) := dc42 bqL_law_1085 11 rfl rfl
theorem dL_law_1097 : decode cL_law 1097 = .ok (.iload_n 3, 1) := dc29 bqL_law_1085 12 rfl rfl
theorem dL_law_1098 : decode cL_law 1098 = .ok (.iconst 1, 1) := dc4 bqL_law_1085 13 rfl rfl
theorem dL_law_1099 : decode cL_law 1099 = .ok (.iadd, 1) := dc96 bqL_law_1085 14 rfl rfl
theorem dL_law_1100 : decode cL_law 1100 = .ok (.iaload, 1) := dc46 bqL_law_1085 15 rfl rfl
theorem dL_law_1101 : decode cL_law 1101 = .ok (.aload_n 0, 1) := dc42 bqL_law_1085 16 rfl rfl
theorem dL_law_1102 : decode cL_law 1102 = .ok (.iload_n 3, 1) := dc29 bqL_law_1085 17 rfl rfl
theorem dL_law_1103 : decode cL_law 1103 = .ok (.iconst 2, 1) := dc5 bqL_law_1085 18 rfl rfl
theorem dL_law_1104 : decode cL_law 1104 = .ok (.iadd, 1) := dc96 bqL_law_1085 19 rfl rfl
theorem dL_law_1105 : decode cL_law 1105 = .ok (.iaload, 1) := dc46 bqL_law_1085 20 rfl rfl
theorem dL_law_1106 : decode cL_law 1106 = .ok (.aload_n 0, 1) := dc42 bqL_law_1085 21 rfl rfl
theorem dL_law_1107 : decode cL_law 1107 = .ok (.iload_n 3, 1) := dc29 bqL_law_1085 22 rfl rfl
theorem dL_law_1108 : decode cL_law 1108 = .ok (.iconst 3, 1) := dc6 bqL_law_1085 23 rfl rfl
theorem bqL_law_1109 : hs_bs cL_law 1109 [96, 46, 182, 0, 146, 87, 44, 42, 29, 4, 96, 46, 42, 29, 5, 96, 46, 42, 29, 6, 96, 46] := hs_bs_of _ _ _ (by decide +kernel)
theorem dL_law_1109 : decode cL_law 1109 = .ok (.iadd, 1) := dc96 bqL_law_1109 0 rfl rfl
theorem dL_law_1110 : decode cL_law 1110 = .ok (.iaload, 1) := dc46 bqL_law_1109 1 rfl rfl
theorem dL_law_1111 : decode cL_law 1111 = .ok (.invokevirtual 146, 3) := dc182 bqL_law_1109 2 rfl rfl rfl
theorem dL_law_1114 : decode cL_law 1114 = .ok (.pop, 1) := dc87 bqL_law_1109 5 rfl rfl
theorem dL_law_1115 : decode cL_law 1115 = .ok (.aload_n 2, 1) := dc44 bqL_law_1109 6 rfl rfl
theorem dL_law_1116 : decode cL_law 1116 = .ok (.aload_n 0, 1) := dc42 bqL_law_1109 7 rfl rfl
theorem dL_law_1117 : decode cL_law 1117 = .ok (.iload_n 3, 1) := dc29 bqL_law_1109 8 rfl rfl
theorem dL_law_1118 : decode cL_law 1118 = .ok (.iconst 1, 1) := dc4 bqL_law_1109 9 rfl rfl
theorem dL_law_1119 : decode cL_law 1119 = .ok (.iadd, 1) := dc96 bqL_law_1109 10 rfl rfl
theorem dL_law_1120 : decode cL_law 1120 = .ok (.iaload, 1) := dc46 bqL_law_1109 11 rfl rfl
theorem dL_law_1121 : decode cL_law 1121 = .ok (.aload_n 0, 1) := dc42 bqL_law_1109 12 rfl rfl
theorem dL_law_1122 : decode cL_law 1122 = .ok (.iload_n 3, 1) := dc29 bqL_law_1109 13 rfl rfl
theorem dL_law_1123 : decode cL_law 1123 = .ok (.iconst 2, 1) := dc5 bqL_law_1109 14 rfl rfl
theorem dL_law_1124 : decode cL_law 1124 = .ok (.iadd, 1) := dc96 bqL_law_1109 15 rfl rfl
theorem dL_law_1125 : decode cL_law 1125 = .ok (.iaload, 1) := dc46 bqL_law_1109 16 rfl rfl
theorem dL_law_1126 : decode cL_law 1126 = .ok (.aload_n 0, 1) := dc42 bqL_law_1109 17 rfl rfl
theorem dL_law_1127 : decode cL_law 1127 = .ok (.iload_n 3, 1) := dc29 bqL_law_1109 18 rfl rfl
theorem dL_law_1128 : decode cL_law 1128 = .ok (.iconst 3, 1) := dc6 bqL_law_1109 19 rfl rfl
theorem dL_law_1129 : decode cL_law 1129 = .ok (.iadd, 1) := dc96 bqL_law_1109 20 rfl rfl
theorem dL_law_1130 : decode cL_law 1130 = .ok (.iaload, 1) := dc46 bqL_law_1109 21 rfl rfl
theorem bqL_law_1131 : hs_bs cL_law 1131 [182, 0, 149, 87, 167, 0, 224, 43, 42, 29, 4, 96, 46, 182, 0, 150, 87, 44, 42, 29, 4, 96, 46] := hs_bs_of _ _ _ (by decide +kernel)
theorem dL_law_1131 : decode cL_law 1131 = .ok (.invokevirtual 149, 3) := dc182 bqL_law_1131 0 rfl rfl rfl
theorem dL_law_1134 : decode cL_law 1134 = .ok (.pop, 1) := dc87 bqL_law_1131 3 rfl rfl
theorem dL_law_1135 : decode cL_law 1135 = .ok (.goto 224, 3) := dc167 bqL_law_1131 4 rfl rfl rfl
theorem dL_law_1138 : decode cL_law 1138 = .ok (.aload_n 1, 1) := dc43 bqL_law_1131 7 rfl rfl
theorem dL_law_1139 : decode cL_law 1139 = .ok (.aload_n 0, 1) := dc42 bqL_law_1131 8 rfl rfl
theorem dL_law_1140 : decode cL_law 1140 = .ok (.iload_n 3, 1) := dc29 bqL_law_1131 9 rfl rfl
theorem dL_law_1141 : decode cL_law 1141 = .ok (.iconst 1, 1) := dc4 bqL_law_1131 10 rfl rfl
theorem dL_law_1142 : decode cL_law 1142 = .ok (.iadd, 1) := dc96 bqL_law_1131 11 rfl rfl
theorem dL_law_1143 : decode cL_law 1143 = .ok (.iaload, 1) := dc46 bqL_law_1131 12 rfl rfl
theorem dL_law_1144 : decode cL_law 1144 = .ok (.invokevirtual 150, 3) := dc182 bqL_law_1131 13 rfl rfl rfl
theorem dL_law_1147 : decode cL_law 1147 = .ok (.pop, 1) := dc87 bqL_law_1131 16 rfl rfl
theorem dL_law_1148 : decode cL_law 1148 = .ok (.aload_n 2, 1) := dc44 bqL_law_1131 17 rfl rfl
theorem dL_law_1149 : decode cL_law 1149 = .ok (.aload_n 0, 1) := dc42 bqL_law_1131 18 rfl rfl
theorem dL_law_1150 : decode cL_law 1150 = .ok (.iload_n 3, 1) := dc29 bqL_law_1131 19 rfl rfl
theorem dL_law_1151 : decode cL_law 1151 = .ok (.iconst 1, 1) := dc4 bqL_law_1131 20 rfl rfl
theorem dL_law_1152 : decode cL_law 1152 = .ok (.iadd, 1) := dc96 bqL_law_1131 21 rfl rfl
theorem dL_law_1153 : decode cL_law 1153 = .ok (.iaload, 1) := dc46 bqL_law_1131 22 rfl rfl
theorem bqL_law_1154 : hs_bs cL_law 1154 [182, 0, 153, 87, 167, 0, 201, 43, 42, 29, 4, 96, 46, 182, 0, 154, 87, 44, 42, 29, 4, 96, 46] := hs_bs_of _ _ _ (by decide +kernel)
theorem dL_law_1154 : decode cL_law 1154 = .ok (.invokevirtual 153, 3) := dc182 bqL_law_1154 0 rfl rfl rfl
theorem dL_law_1157 : decode cL_law 1157 = .ok (.pop, 1) := dc87 bqL_law_1154 3 rfl rfl
theorem dL_law_1158 : decode cL_law 1158 = .ok (.goto 201, 3) := dc167 bqL_law_1154 4 rfl rfl rfl
theorem dL_law_1161 : decode cL_law 1161 = .ok (.aload_n 1, 1) := dc43 bqL_law_1154 7 rfl rfl
theorem dL_law_1162 : decode cL_law 1162 = .ok (.aload_n 0, 1) := dc42 bqL_law_1154 8 rfl rfl
theorem dL_law_1163 : decode cL_law 1163 = .ok (.iload_n 3, 1) := dc29 bqL_law_1154 9 rfl rfl
theorem dL_law_1164 : decode cL_law 1164 = .ok (.iconst 1, 1) := dc4 bqL_law_1154 10 rfl rfl
theorem dL_law_1165 : decode cL_law 1165 = .ok (.iadd, 1) := dc96 bqL_law_1154 11 rfl rfl
theorem dL_law_1166 : decode cL_law 1166 = .ok (.iaload, 1) := dc46 bqL_law_1154 12 rfl rfl
theorem dL_law_1167 : decode cL_law 1167 = .ok (.invokevirtual 154, 3) := dc182 bqL_law_1154 13 rfl rfl rfl
theorem dL_law_1170 : decode cL_law 1170 = .ok (.pop, 1) := dc87 bqL_law_1154 16 rfl rfl
theorem dL_law_1171 : decode cL_law 1171 = .ok (.aload_n 2, 1) := dc44 bqL_law_1154 17 rfl rfl
theorem dL_law_1172 : decode cL_law 1172 = .ok (.aload_n 0, 1) := dc42 bqL_law_1154 18 rfl rfl
theorem dL_law_1173 : decode cL_law 1173 = .ok (.iload_n 3, 1) := dc29 bqL_law_1154 19 rfl rfl
theorem dL_law_1174 : decode cL_law 1174 = .ok (.iconst 1, 1) := dc4 bqL_law_1154 20 rfl rfl
theorem dL_law_1175 : decode cL_law 1175 = .ok (.iadd, 1) := dc96 bqL_law_1154 21 rfl rfl
theorem dL_law_1176 : decode cL_law 1176 = .ok (.iaload, 1) := dc46 bqL_law_1154 22 rfl rfl
theorem bqL_law_1177 : hs_bs cL_law 1177 [182, 0, 157, 87, 167, 0, 178, 43, 42, 29, 4, 96, 46, 42, 29, 5, 96, 46, 42, 29, 6, 96, 46] := hs_bs_of _ _ _ (by decide +kernel)
theorem dL_law_1177 : decode cL_law 1177 = .ok (.invokevirtual 157, 3) := dc182 bqL_law_1177 0 rfl rfl rfl
theorem dL_law_1180 : decode cL_law 1180 = .ok (.pop, 1) := dc87 bqL_law_1177 3 rfl rfl
theorem dL_law_1181 : decode cL_law 1181 = .ok (.goto 178, 3) := dc167 bqL_law_1177 4 rfl rfl rfl
theorem dL_law_1184 : decode cL_law 1184 = .ok (.aload_n 1, 1) := dc43 bqL_law_1177 7 rfl rfl
theorem dL_law_1185 : decode cL_law 1185 = .ok (.aload_n 0, 1) := dc42 bqL_law_1177 8 rfl rfl
theorem dL_law_1186 : decode cL_law 1186 = .ok (.iload_n 3, 1) := dc29 bqL_law_1177 9 rfl rfl
theorem dL_law_1187 : decode cL_law 1187 = .ok (.iconst 1, 1) := dc4 bqL_law_1177 10 rfl rfl
theorem dL_law_1188 : decode cL_law 1188 = .ok (.iadd, 1) := dc96 bqL_law_1177 11 rfl rfl
theorem dL_law_1189 : decode cL_law 1189 = .ok (.iaload, 1) := dc46 bqL_law_1177 12 rfl rfl
theorem dL_law_1190 : decode cL_law 1190 = .ok (.aload_n 0, 1) := dc42 bqL_law_1177 13 rfl rfl
theorem dL_law_1191 : decode cL_law 1191 = .ok (.iload_n 3, 1) := dc29 bqL_law_1177 14 rfl rfl
theorem dL_law_1192 : decode cL_law 1192 = .ok (.iconst 2, 1) := dc5 bqL_law_1177 15 rfl rfl
theorem dL_law_1193 : decode cL_law 1193 = .ok (.iadd, 1) := dc96 bqL_law_1177 16 rfl rfl
theorem dL_law_1194 : decode cL_law 1194 = .ok (.iaload, 1) := dc46 bqL_law_1177 17 rfl rfl
theorem dL_law_1195 : decode cL_law 1195 = .ok (.aload_n 0, 1) := dc42 bqL_law_1177 18 rfl rfl
theorem dL_law_1196 : decode cL_law 1196 = .ok (.iload_n 3, 1) := dc29 bqL_law_1177 19 rfl rfl
theorem dL_law_1197 : decode cL_law 1197 = .ok (.iconst 3, 1) := dc6 bqL_law_1177 20 rfl rfl
theorem dL_law_1198 : decode cL_law 1198 = .ok (.iadd, 1) := dc96 bqL_law_1177 21 rfl rfl
theorem dL_law_1199 : decode cL_law 1199 = .ok (.iaload, 1) := dc46 bqL_law_1177 22 rfl rfl
theorem bqL_law_1200 : hs_bs cL_law 1200 [182, 0, 158, 87, 44, 42, 29, 4, 96, 46, 42, 29, 5, 96, 46, 42, 29, 6, 96, 46, 182, 0, 161, 87] := hs_bs_of _ _ _ (by decide +kernel)
theorem dL_law_1200 : decode cL_law 1200 = .ok (.invokevirtual 158, 3) := dc182 bqL_law_1200 0 rfl rfl rfl
theorem dL_law_1203 : decode cL_law 1203 = .ok (.pop, 1) := dc87 bqL_law_1200 3 rfl rfl
theorem dL_law_1204 : decode cL_law 1204 = .ok (.aload_n 2, 1) := dc44 bqL_law_1200 4 rfl rfl
theorem dL_law_1205 : decode cL_law 1205 = .ok (.aload_n 0, 1) := dc42 bqL_law_1200 5 rfl rfl
theorem dL_law_1206 : decode cL_law 1206 = .ok (.iload_n 3, 1) := dc29 bqL_law_1200 6 rfl rfl
theorem dL_law_1207 : decode cL_law 1207 = .ok (.iconst 1, 1) := dc4 bqL_law_1200 7 rfl rfl
theorem dL_law_1208 : decode cL_law 1208 = .ok (.iadd, 1) := dc96 bqL_law_1200 8 rfl rfl
theorem dL_law_1209 : decode cL_law 1209 = .ok (.iaload, 1) := dc46 bqL_law_1200 9 rfl rfl
theorem dL_law_1210 : decode cL_law 1210 = .ok (.aload_n 0, 1) := dc42 bqL_law_1200 10 rfl rfl
theorem dL_law_1211 : decode cL_law 1211 = .ok (.iload_n 3, 1) := dc29 bqL_law_1200 11 rfl rfl
theorem dL_law_1212 : decode cL_law 1212 = .ok (.iconst 2, 1) := dc5 bqL_law_1200 12 rfl rfl
theorem dL_law_1213 : decode cL_law 1213 = .ok (.iadd, 1) := dc96 bqL_law_1200 13 rfl rfl
theorem dL_law_1214 : decode cL_law 1214 = .ok (.iaload, 1) := dc46 bqL_law_1200 14 rfl rfl
theorem dL_law_1215 : decode cL_law 1215 = .ok (.aload_n 0, 1) := dc42 bqL_law_1200 15 rfl rfl
theorem dL_law_1216 : decode cL_law 1216 = .ok (.iload_n 3, 1) := dc29 bqL_law_1200 16 rfl rfl
theorem dL_law_1217 : decode cL_law 1217 = .ok (.iconst 3, 1) := dc6 bqL_law_1200 17 rfl rfl
theorem dL_law_1218 : decode cL_law 1218 = .ok (.iadd, 1) := dc96 bqL_law_1200 18 rfl rfl
theorem dL_law_1219 : decode cL_law 1219 = .ok (.iaload, 1) := dc46 bqL_law_1200 19 rfl rfl
theorem dL_law_1220 : decode cL_law 1220 = .ok (.invokevirtual 161, 3) := dc182 bqL_law_1200 20 rfl rfl rfl
theorem dL_law_1223 : decode cL_law 1223 = .ok (.pop, 1) := dc87 bqL_law_1200 23 rfl rfl
theorem bqL_law_1224 : hs_bs cL_law 1224 [167, 0, 135, 43, 42, 29, 4, 96, 46, 42, 29, 5, 96, 46, 42, 29, 6, 96, 46, 182, 0, 162, 87, 44] := hs_bs_of _ _ _ (by decide +kernel)
theorem dL_law_1224 : decode cL_law 1224 = .ok (.goto 135, 3) := dc167 bqL_law_1224 0 rfl rfl rfl
theorem dL_law_1227 : decode cL_law 1227 = .ok (.aload_n 1, 1) := dc43 bqL_law_1224 3 rfl rfl
theorem dL_law_1228 : decode cL_law 1228 = .ok (.aload_n 0, 1) := dc42 bqL_law_1224 4 rfl rfl
theorem dL_law_1229 : decode cL_law 1229 = .ok (.iload_n 3, 1) := dc29 bqL_law_1224 5 rfl rfl
theorem dL_law_1230 : decode cL_law 1230 = .ok (.iconst 1, 1) := dc4 bqL_law_1224 6 rfl rfl
theorem dL_law_1231 : decode cL_law 1231 = .ok (.iadd, 1) := dc96 bqL_law_1224 7 rfl rfl
theorem dL_law_1232 : decode cL_law 1232 = .ok (.iaload, 1) := dc46 bqL_law_1224 8 rfl rfl
theorem dL_law_1233 : decode cL_law 1233 = .ok (.aload_n 0, 1) := dc42 bqL_law_1224 9 rfl rfl
theorem dL_law_1234 : decode cL_law 1234 = .ok (.iload_n 3, 1) := dc29 bqL_law_1224 10 rfl rfl
theorem dL_law_1235 : decode cL_law 1235 = .ok (.iconst 2, 1) := dc5 bqL_law_1224 11 rfl rfl
theorem dL_law_1236 : decode cL_law 1236 = .ok (.iadd, 1) := dc96 bqL_law_1224 12 rfl rfl
theorem dL_law_1237 : decode cL_law 1237 = .ok (.iaload, 1) := dc46 bqL_law_1224 13 rfl rfl
theorem dL_law_1238 : decode cL_law 1238 = .ok (.aload_n 0, 1) := dc42 bqL_law_1224 14 rfl rfl
theorem dL_law_1239 : decode cL_law 1239 = .ok (.iload_n 3, 1) := dc29 bqL_law_1224 15 rfl rfl
theorem dL_law_1240 : decode cL_law 1240 = .ok (.iconst 3, 1) := dc6 bqL_law_1224 16 rfl rfl
theorem dL_law_1241 : decode cL_law 1241 = .ok (.iadd, 1) := dc96 bqL_law_1224 17 rfl rfl
theorem dL_law_1242 : decode cL_law 1242 = .ok (.iaload, 1) := dc46 bqL_law_1224 18 rfl rfl
theorem dL_law_1243 : decode cL_law 1243 = .ok (.invokevirtual 162, 3) := dc182 bqL_law_1224 19 rfl rfl rfl
theorem dL_law_1246 : decode cL_law 1246 = .ok (.pop, 1) := dc87 bqL_law_1224 22 rfl rfl
theorem dL_law_1247 : decode cL_law 1247 = .ok (.aload_n 2, 1) := dc44 bqL_law_1224 23 rfl rfl
theorem bqL_law_1248 : hs_bs cL_law 1248 [42, 29, 4, 96, 46, 42, 29, 5, 96, 46, 42, 29, 6, 96, 46, 182, 0, 165, 87, 167, 0, 92, 43, 42] := hs_bs_of _ _ _ (by decide +kernel)
theorem dL_law_1248 : decode cL_law 1248 = .ok (.aload_n 0, 1) := dc42 bqL_law_1248 0 rfl rfl
theorem dL_law_1249 : decode cL_law 1249 = .ok (.iload_n 3, 1) := dc29 bqL_law_1248 1 rfl rfl
theorem dL_law_1250 : decode cL_law 1250 = .ok (.iconst 1, 1) := dc4 bqL_law_1248 2 rfl rfl
theorem dL_law_1251 : decode cL_law 1251 = .ok (.iadd, 1) := dc96 bqL_law_1248 3 rfl rfl
theorem dL_law_1252 : decode cL_law 1252 = .ok (.iaload, 1) := dc46 bqL_law_1248 4 rfl rfl
theorem dL_law_1253 : decode cL_law 1253 = .ok (.aload_n 0, 1) := dc42 bqL_law_1248 5 rfl rfl
theorem dL_law_1254 : decode cL_law 1254 = .ok (.iload_n 3, 1) := dc29 bqL_law_1248 6 rfl rfl
theorem dL_law_1255 : decode cL_law 1255 = .ok (.iconst 2, 1) := dc5 bqL_law_1248 7 rfl rfl
theorem dL_law_1256 : decode cL_law 1256 = .ok (.iadd, 1) := dc96 bqL_law_1248 8 rfl rfl
theorem dL_law_1257 : decode cL_law 1257 = .ok (.iaload, 1) := dc46 bqL_law_1248 9 rfl rfl
theorem dL_law_1258 : decode cL_law 1258 = .ok (.aload_n 0, 1) := dc42 bqL_law_1248 10 rfl rfl
theorem dL_law_1259 : decode cL_law 1259 = .ok (.iload_n 3, 1) := dc29 bqL_law_1248 11 rfl rfl
theorem dL_law_1260 : decode cL_law 1260 = .ok (.iconst 3, 1) := dc6 bqL_law_1248 12 rfl rfl
theorem dL_law_1261 : decode cL_law 1261 = .ok (.iadd, 1) := dc96 bqL_law_1248 13 rfl rfl
theorem dL_law_1262 : decode cL_law 1262 = .ok (.iaload, 1) := dc46 bqL_law_1248 14 rfl rfl
theorem dL_law_1263 : decode cL_law 1263 = .ok (.invokevirtual 165, 3) := dc182 bqL_law_1248 15 rfl rfl rfl
theorem dL_law_1266 : decode cL_law 1266 = .ok (.pop, 1) := dc87 bqL_law_1248 18 rfl rfl
theorem dL_law_1267 : decode cL_law 1267 = .ok (.goto 92, 3) := dc167 bqL_law_1248 19 rfl rfl rfl
theorem dL_law_1270 : decode cL_law 1270 = .ok (.aload_n 1, 1) := dc43 bqL_law_1248 22 rfl rfl
theorem dL_law_1271 : decode cL_law 1271 = .ok (.aload_n 0, 1) := dc42 bqL_law_1248 23 rfl rfl
theorem bqL_law_1272 : hs_bs cL_law 1272 [29, 4, 96, 46, 42, 29, 5, 96, 46, 42, 29, 6, 96, 46, 42, 29, 7, 96, 46, 182, 0, 166, 87, 44] := hs_bs_of _ _ _ (by decide +kernel)
theorem dL_law_1272 : decode cL_law 1272 = .ok (.iload_n 3, 1) := dc29 bqL_law_1272 0 rfl rfl
theorem dL_law_1273 : decode cL_law 1273 = .ok (.iconst 1, 1) := dc4 bqL_law_1272 1 rfl rfl
theorem dL_law_1274 : decode cL_law 1274 = .ok (.iadd, 1) := dc96 bqL_law_1272 2 rfl rfl
theorem dL_law_1275 : decode cL_law 1275 = .ok (.iaload, 1) := dc46 bqL_law_1272 3 rfl rfl
theorem dL_law_1276 : decode cL_law 1276 = .ok (.aload_n 0, 1) := dc42 bqL_law_1272 4 rfl rfl
theorem dL_law_1277 : decode cL_law 1277 = .ok (.iload_n 3, 1) := dc29 bqL_law_1272 5 rfl rfl
theorem dL_law_1278 : decode cL_law 1278 = .ok (.iconst 2, 1) := dc5 bqL_law_1272 6 rfl rfl
theorem dL_law_1279 : decode cL_law 1279 = .ok (.iadd, 1) := dc96 bqL_law_1272 7 rfl rfl
theorem dL_law_1280 : decode cL_law 1280 = .ok (.iaload, 1) := dc46 bqL_law_1272 8 rfl rfl
theorem dL_law_1281 : decode cL_law 1281 = .ok (.aload_n 0, 1) := dc42 bqL_law_1272 9 rfl rfl
theorem dL_law_1282 : decode cL_law 1282 = .ok (.iload_n 3, 1) := dc29 bqL_law_1272 10 rfl rfl
theorem dL_law_1283 : decode cL_law 1283 = .ok (.iconst 3, 1) := dc6 bqL_law_1272 11 rfl rfl
theorem dL_law_1284 : decode cL_law 1284 = .ok (.iadd, 1) := dc96 bqL_law_1272 12 rfl rfl
theorem dL_law_1285 : decode cL_law 1285 = .ok (.iaload, 1) := dc46 bqL_law_1272 13 rfl rfl
theorem dL_law_1286 : decode cL_law 1286 = .ok (.aload_n 0, 1) := dc42 bqL_law_1272 14 rfl rfl
theorem dL_law_1287 : decode cL_law 1287 = .ok (.iload_n 3, 1) := dc29 bqL_law_1272 15 rfl rfl
theorem dL_law_1288 : decode cL_law 1288 = .ok (.iconst 4, 1) := dc7 bqL_law_1272 16 rfl rfl
theorem dL_law_1289 : decode cL_law 1289 = .ok (.iadd, 1) := dc96 bqL_law_1272 17 rfl rfl
theorem dL_law_1290 : decode cL_law 1290 = .ok (.iaload, 1) := dc46 bqL_law_1272 18 rfl rfl
theorem dL_law_1291 : decode cL_law 1291 = .ok (.invokevirtual 166, 3) := dc182 bqL_law_1272 19 rfl rfl rfl
theorem dL_law_1294 : decode cL_law 1294 = .ok (.pop, 1) := dc87 bqL_law_1272 22 rfl rfl
theorem dL_law_1295 : decode cL_law 1295 = .ok (.aload_n 2, 1) := dc44 bqL_law_1272 23 rfl rfl
theorem bqL_law_1296 : hs_bs cL_law 1296 [42, 29, 4, 96, 46, 42, 29, 5, 96, 46, 42, 29, 6, 96, 46, 42, 29, 7, 96, 46, 182, 0, 170, 87] := hs_bs_of _ _ _ (by decide +kernel)
theorem dL_law_1296 : decode cL_law 1296 = .ok (.aload_n 0, 1) := dc42 bqL_law_1296 0 rfl rfl
theorem dL_law_1297 : decode cL_law 1297 = .ok (.iload_n 3, 1) := dc29 bqL_law_1296 1 rfl rfl
theorem dL_law_1298 : decode cL_law 1298 = .ok (.iconst 1, 1) := dc4 bqL_law_1296 2 rfl rfl
theorem dL_law_1299 : decode cL_law 1299 = .ok (.iadd, 1) := dc96 bqL_law_1296 3 rfl rfl
theorem dL_law_1300 : decode cL_law 1300 = .ok (.iaload, 1) := dc46 bqL_law_1296 4 rfl rfl
theorem dL_law_1301 : decode cL_law 1301 = .ok (.aload_n 0, 1) := dc42 bqL_law_1296 5 rfl rfl
theorem dL_law_1302 : decode cL_law 1302 = .ok (.iload_n 3, 1) := dc29 bqL_law_1296 6 rfl rfl
theorem dL_law_1303 : decode cL_law 1303 = .ok (.iconst 2, 1) := dc5 bqL_law_1296 7 rfl rfl
theorem dL_law_1304 : decode cL_law 1304 = .ok (.iadd, 1) := dc96 bqL_law_1296 8 rfl rfl
theorem dL_law_1305 : decode cL_law 1305 = .ok (.iaload, 1) := dc46 bqL_law_1296 9 rfl rfl
theorem dL_law_1306 : decode cL_law 1306 = .ok (.aload_n 0, 1) := dc42 bqL_law_1296 10 rfl rfl
theorem dL_law_1307 : decode cL_law 1307 = .ok (.iload_n 3, 1) := dc29 bqL_law_1296 11 rfl rfl
theorem dL_law_1308 : decode cL_law 1308 = .ok (.iconst 3, 1) := dc6 bqL_law_1296 12 rfl rfl
theorem dL_law_1309 : decode cL_law 1309 = .ok (.iadd, 1) := dc96 bqL_law_1296 13 rfl rfl
theorem dL_law_1310 : decode cL_law 1310 = .ok (.iaload, 1) := dc46 bqL_law_1296 14 rfl rfl
theorem dL_law_1311 : decode cL_law 1311 = .ok (.aload_n 0, 1) := dc42 bqL_law_1296 15 rfl rfl
theorem dL_law_1312 : decode cL_law 1312 = .ok (.iload_n 3, 1) := dc29 bqL_law_1296 16 rfl rfl
theorem dL_law_1313 : decode cL_law 1313 = .ok (.iconst 4, 1) := dc7 bqL_law_1296 17 rfl rfl
theorem dL_law_1314 : decode cL_law 1314 = .ok (.iadd, 1) := dc96 bqL_law_1296 18 rfl rfl
theorem dL_law_1315 : decode cL_law 1315 = .ok (.iaload, 1) := dc46 bqL_law_1296 19 rfl rfl
theorem dL_law_1316 : decode cL_law 1316 = .ok (.invokevirtual 170, 3) := dc182 bqL_law_1296 20 rfl rfl rfl
theorem dL_law_1319 : decode cL_law 1319 = .ok (.pop, 1) := dc87 bqL_law_1296 23 rfl rfl
theorem bqL_law_1320 : hs_bs cL_law 1320 [167, 0, 39, 43, 182, 0, 171, 87, 44, 182, 0, 174, 87, 167, 0, 26, 43, 42, 29, 4, 96, 46] := hs_bs_of _ _ _ (by decide +kernel)
theorem dL_law_1320 : decode cL_law 1320 = .ok (.goto 39, 3) := dc167 bqL_law_1320 0 rfl rfl rfl
theorem dL_law_1323 : decode cL_law 1323 = .ok (.aload_n 1, 1) := dc43 bqL_law_1320 3 rfl rfl
theorem dL_law_1324 : decode cL_law 1324 = .ok (.invokevirtual 171, 3) := dc182 bqL_law_1320 4 rfl rfl rfl
theorem dL_law_1327 : decode cL_law 1327 = .ok (.pop, 1) := dc87 bqL_law_1320 7 rfl rfl
theorem dL_law_1328 : decode cL_law 1328 = .ok (.aload_n 2, 1) := dc44 bqL_law_1320 8 rfl rfl
theorem dL_law_1329 : decode cL_law 1329 = .ok (.invokevirtual 174, 3) := dc182 bqL_law_1320 9 rfl rfl rfl
theorem dL_law_1332 : decode cL_law 1332 = .ok (.pop, 1) := dc87 bqL_law_1320 12 rfl rfl
theorem dL_law_1333 : decode cL_law 1333 = .ok (.goto 26, 3) := dc167 bqL_law_1320 13 rfl rfl rfl
theorem dL_law_1336 : decode cL_law 1336 = .ok (.aload_n 1, 1) := dc43 bqL_law_1320 16 rfl rfl
theorem dL_law_1337 : decode cL_law 1337 = .ok (.aload_n 0, 1) := dc42 bqL_law_1320 17 rfl rfl
theorem dL_law_1338 : decode cL_law 1338 = .ok (.iload_n 3, 1) := dc29 bqL_law_1320 18 rfl rfl
theorem dL_law_1339 : decode cL_law 1339 = .ok (.iconst 1, 1) := dc4 bqL_law_1320 19 rfl rfl
theorem dL_law_1340 : decode cL_law 1340 = .ok (.iadd, 1) := dc96 bqL_law_1320 20 rfl rfl
theorem dL_law_1341 : decode cL_law 1341 = .ok (.iaload, 1) := dc46 bqL_law_1320 21 rfl rfl
theorem bqL_law_1342 : hs_bs cL_law 1342 [182, 0, 175, 87, 44, 42, 29, 4, 96, 46, 182, 0, 178, 87, 167, 0, 3, 132, 3, 5, 167, 250, 192, 4] := hs_bs_of _ _ _ (by decide +kernel)
theorem dL_law_1342 : decode cL_law 1342 = .ok (.invokevirtual 175, 3) := dc182 bqL_law_1342 0 rfl rfl rfl
theorem dL_law_1345 : decode cL_law 1345 = .ok (.pop, 1) := dc87 bqL_law_1342 3 rfl rfl
theorem dL_law_1346 : decode cL_law 1346 = .ok (.aload_n 2, 1) := dc44 bqL_law_1342 4 rfl rfl
theorem dL_law_1347 : decode cL_law 1347 = .ok (.aload_n 0, 1) := dc42 bqL_law_1342 5 rfl rfl
theorem dL_law_1348 : decode cL_law 1348 = .ok (.iload_n 3, 1) := dc29 bqL_law_1342 6 rfl rfl
theorem dL_law_1349 : decode cL_law 1349 = .ok (.iconst 1, 1) := dc4 bqL_law_1342 7 rfl rfl
theorem dL_law_1350 : decode cL_law 1350 = .ok (.iadd, 1) := dc96 bqL_law_1342 8 rfl rfl
theorem dL_law_1351 : decode cL_law 1351 = .ok (.iaload, 1) := dc46 bqL_law_1342 9 rfl rfl
theorem dL_law_1352 : decode cL_law 1352 = .ok (.invokevirtual 178, 3) := dc182 bqL_law_1342 10 rfl rfl rfl
theorem dL_law_1355 : decode cL_law 1355 = .ok (.pop, 1) := dc87 bqL_law_1342 13 rfl rfl
theorem dL_law_1356 : decode cL_law 1356 = .ok (.goto 3, 3) := dc167 bqL_law_1342 14 rfl rfl rfl
theorem dL_law_1359 : decode cL_law 1359 = .ok (.iinc 3 5, 3) := dc132 bqL_law_1342 17 rfl rfl rfl
theorem dL_law_1362 : decode cL_law 1362 = .ok (.goto (-1344), 3) := dc167 bqL_law_1342 20 rfl rfl rfl
theorem dL_law_1365 : decode cL_law 1365 = .ok (.iconst 1, 1) := dc4 bqL_law_1342 23 rfl rfl
theorem bqL_law_1366 : hs_bs cL_law 1366 [172] := hs_bs_of _ _ _ (by decide +kernel)
theorem dL_law_1366 : decode cL_law 1366 = .ok (.ireturn, 1) := dc172 bqL_law_1366 0 rfl rfl
noncomputable abbrev vwCl : List vw_C := [(RX0, TX0, 1), (RX2, TX2, 3), (RX3, TX3, 3), (RX4, TX4, 6), (RX5, TX5, 5), (RX6, TX6, 15), (RX7, TX7, 10), (RX8, TX8, 32)]
