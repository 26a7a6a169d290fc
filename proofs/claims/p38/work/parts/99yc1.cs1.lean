theorem dL_law_542 : decode cL_law 542 = .ok (.aload_n 1, 1) := by decide +kernel
theorem dL_law_543 : decode cL_law 543 = .ok (.aload_n 0, 1) := by decide +kernel
theorem dL_law_544 : decode cL_law 544 = .ok (.iload_n 3, 1) := by decide +kernel
theorem dL_law_545 : decode cL_law 545 = .ok (.iconst 1, 1) := by decide +kernel
theorem dL_law_546 : decode cL_law 546 = .ok (.iadd, 1) := by decide +kernel
theorem dL_law_547 : decode cL_law 547 = .ok (.iaload, 1) := by decide +kernel
theorem dL_law_548 : decode cL_law 548 = .ok (.aload_n 0, 1) := by decide +kernel
theorem dL_law_549 : decode cL_law 549 = .ok (.iload_n 3, 1) := by decide +kernel
theorem dL_law_550 : decode cL_law 550 = .ok (.iconst 2, 1) := by decide +kernel
theorem dL_law_551 : decode cL_law 551 = .ok (.iadd, 1) := by decide +kernel
theorem dL_law_552 : decode cL_law 552 = .ok (.iaload, 1) := by decide +kernel
theorem dL_law_553 : decode cL_law 553 = .ok (.aload_n 0, 1) := by decide +kernel
theorem dL_law_554 : decode cL_law 554 = .ok (.iload_n 3, 1) := by decide +kernel
theorem dL_law_555 : decode cL_law 555 = .ok (.iconst 3, 1) := by decide +kernel
theorem dL_law_556 : decode cL_law 556 = .ok (.iadd, 1) := by decide +kernel
theorem dL_law_557 : decode cL_law 557 = .ok (.iaload, 1) := by decide +kernel
theorem dL_law_558 : decode cL_law 558 = .ok (.invokevirtual 54, 3) := by decide +kernel
theorem dL_law_561 : decode cL_law 561 = .ok (.pop2, 1) := by decide +kernel
theorem dL_law_562 : decode cL_law 562 = .ok (.aload_n 2, 1) := by decide +kernel
theorem dL_law_563 : decode cL_law 563 = .ok (.aload_n 0, 1) := by decide +kernel
theorem dL_law_564 : decode cL_law 564 = .ok (.iload_n 3, 1) := by decide +kernel
theorem dL_law_565 : decode cL_law 565 = .ok (.iconst 1, 1) := by decide +kernel
theorem dL_law_566 : decode cL_law 566 = .ok (.iadd, 1) := by decide +kernel
theorem dL_law_567 : decode cL_law 567 = .ok (.iaload, 1) := by decide +kernel
theorem dL_law_568 : decode cL_law 568 = .ok (.aload_n 0, 1) := by decide +kernel
theorem dL_law_569 : decode cL_law 569 = .ok (.iload_n 3, 1) := by decide +kernel
theorem dL_law_570 : decode cL_law 570 = .ok (.iconst 2, 1) := by decide +kernel
theorem dL_law_571 : decode cL_law 571 = .ok (.iadd, 1) := by decide +kernel
theorem dL_law_572 : decode cL_law 572 = .ok (.iaload, 1) := by decide +kernel
theorem dL_law_573 : decode cL_law 573 = .ok (.aload_n 0, 1) := by decide +kernel
theorem dL_law_574 : decode cL_law 574 = .ok (.iload_n 3, 1) := by decide +kernel
theorem dL_law_575 : decode cL_law 575 = .ok (.iconst 3, 1) := by decide +kernel
theorem dL_law_576 : decode cL_law 576 = .ok (.iadd, 1) := by decide +kernel
theorem dL_law_577 : decode cL_law 577 = .ok (.iaload, 1) := by decide +kernel
theorem dL_law_578 : decode cL_law 578 = .ok (.invokevirtual 58, 3) := by decide +kernel
theorem dL_law_581 : decode cL_law 581 = .ok (.pop2, 1) := by decide +kernel
theorem dL_law_582 : decode cL_law 582 = .ok (.goto 1145, 3) := by decide +kernel
theorem dL_law_585 : decode cL_law 585 = .ok (.aload_n 1, 1) := by decide +kernel
theorem dL_law_586 : decode cL_law 586 = .ok (.aload_n 0, 1) := by decide +kernel
theorem dL_law_587 : decode cL_law 587 = .ok (.iload_n 3, 1) := by decide +kernel
theorem dL_law_588 : decode cL_law 588 = .ok (.iconst 1, 1) := by decide +kernel
theorem dL_law_589 : decode cL_law 589 = .ok (.iadd, 1) := by decide +kernel
theorem dL_law_590 : decode cL_law 590 = .ok (.iaload, 1) := by decide +kernel
theorem dL_law_591 : decode cL_law 591 = .ok (.aload_n 0, 1) := by decide +kernel
theorem dL_law_592 : decode cL_law 592 = .ok (.iload_n 3, 1) := by decide +kernel
theorem dL_law_593 : decode cL_law 593 = .ok (.iconst 2, 1) := by decide +kernel
theorem dL_law_594 : decode cL_law 594 = .ok (.iadd, 1) := by decide +kernel
theorem dL_law_595 : decode cL_law 595 = .ok (.iaload, 1) := by decide +kernel
theorem dL_law_596 : decode cL_law 596 = .ok (.aload_n 0, 1) := by decide +kernel
theorem dL_law_597 : decode cL_law 597 = .ok (.iload_n 3, 1) := by decide +kernel
theorem dL_law_598 : decode cL_law 598 = .ok (.iconst 3, 1) := by decide +kernel
theorem dL_law_599 : decode cL_law 599 = .ok (.iadd, 1) := by decide +kernel
theorem dL_law_600 : decode cL_law 600 = .ok (.iaload, 1) := by decide +kernel
theorem dL_law_601 : decode cL_law 601 = .ok (.invokevirtual 59, 3) := by decide +kernel
theorem dL_law_604 : decode cL_law 604 = .ok (.pop, 1) := by decide +kernel
theorem dL_law_605 : decode cL_law 605 = .ok (.aload_n 2, 1) := by decide +kernel
theorem dL_law_606 : decode cL_law 606 = .ok (.aload_n 0, 1) := by decide +kernel
theorem dL_law_607 : decode cL_law 607 = .ok (.iload_n 3, 1) := by decide +kernel
theorem dL_law_608 : decode cL_law 608 = .ok (.iconst 1, 1) := by decide +kernel
theorem dL_law_609 : decode cL_law 609 = .ok (.iadd, 1) := by decide +kernel
theorem dL_law_610 : decode cL_law 610 = .ok (.iaload, 1) := by decide +kernel
theorem dL_law_611 : decode cL_law 611 = .ok (.aload_n 0, 1) := by decide +kernel
theorem dL_law_612 : decode cL_law 612 = .ok (.iload_n 3, 1) := by decide +kernel
theorem dL_law_613 : decode cL_law 613 = .ok (.iconst 2, 1) := by decide +kernel
theorem dL_law_614 : decode cL_law 614 = .ok (.iadd, 1) := by decide +kernel
theorem dL_law_615 : decode cL_law 615 = .ok (.iaload, 1) := by decide +kernel
theorem dL_law_616 : decode cL_law 616 = .ok (.aload_n 0, 1) := by decide +kernel
theorem dL_law_617 : decode cL_law 617 = .ok (.iload_n 3, 1) := by decide +kernel
theorem dL_law_618 : decode cL_law 618 = .ok (.iconst 3, 1) := by decide +kernel
theorem dL_law_619 : decode cL_law 619 = .ok (.iadd, 1) := by decide +kernel
theorem dL_law_620 : decode cL_law 620 = .ok (.iaload, 1) := by decide +kernel
theorem dL_law_621 : decode cL_law 621 = .ok (.invokevirtual 62, 3) := by decide +kernel
theorem dL_law_624 : decode cL_law 624 = .ok (.pop, 1) := by decide +kernel
theorem dL_law_625 : decode cL_law 625 = .ok (.goto 1102, 3) := by decide +kernel
theorem dL_law_628 : decode cL_law 628 = .ok (.aload_n 1, 1) := by decide +kernel
theorem dL_law_629 : decode cL_law 629 = .ok (.aload_n 0, 1) := by decide +kernel
theorem dL_law_630 : decode cL_law 630 = .ok (.iload_n 3, 1) := by decide +kernel
theorem dL_law_631 : decode cL_law 631 = .ok (.iconst 1, 1) := by decide +kernel
theorem dL_law_632 : decode cL_law 632 = .ok (.iadd, 1) := by decide +kernel
theorem dL_law_633 : decode cL_law 633 = .ok (.iaload, 1) := by decide +kernel
theorem dL_law_634 : decode cL_law 634 = .ok (.aload_n 0, 1) := by decide +kernel
theorem dL_law_635 : decode cL_law 635 = .ok (.iload_n 3, 1) := by decide +kernel
theorem dL_law_636 : decode cL_law 636 = .ok (.iconst 2, 1) := by decide +kernel
theorem dL_law_637 : decode cL_law 637 = .ok (.iadd, 1) := by decide +kernel
theorem dL_law_638 : decode cL_law 638 = .ok (.iaload, 1) := by decide +kernel
theorem dL_law_639 : decode cL_law 639 = .ok (.aload_n 0, 1) := by decide +kernel
theorem dL_law_640 : decode cL_law 640 = .ok (.iload_n 3, 1) := by decide +kernel
theorem dL_law_641 : decode cL_law 641 = .ok (.iconst 3, 1) := by decide +kernel
theorem dL_law_642 : decode cL_law 642 = .ok (.iadd, 1) := by decide +kernel
theorem dL_law_643 : decode cL_law 643 = .ok (.iaload, 1) := by decide +kernel
theorem dL_law_644 : decode cL_law 644 = .ok (.invokevirtual 63, 3) := by decide +kernel
theorem dL_law_647 : decode cL_law 647 = .ok (.pop, 1) := by decide +kernel
theorem dL_law_648 : decode cL_law 648 = .ok (.aload_n 2, 1) := by decide +kernel
theorem dL_law_649 : decode cL_law 649 = .ok (.aload_n 0, 1) := by decide +kernel
theorem dL_law_650 : decode cL_law 650 = .ok (.iload_n 3, 1) := by decide +kernel
theorem dL_law_651 : decode cL_law 651 = .ok (.iconst 1, 1) := by decide +kernel
theorem dL_law_652 : decode cL_law 652 = .ok (.iadd, 1) := by decide +kernel
theorem dL_law_653 : decode cL_law 653 = .ok (.iaload, 1) := by decide +kernel
theorem dL_law_654 : decode cL_law 654 = .ok (.aload_n 0, 1) := by decide +kernel
theorem dL_law_655 : decode cL_law 655 = .ok (.iload_n 3, 1) := by decide +kernel
theorem dL_law_656 : decode cL_law 656 = .ok (.iconst 2, 1) := by decide +kernel
theorem dL_law_657 : decode cL_law 657 = .ok (.iadd, 1) := by decide +kernel
theorem dL_law_658 : decode cL_law 658 = .ok (.iaload, 1) := by decide +kernel
theorem dL_law_659 : decode cL_law 659 = .ok (.aload_n 0, 1) := by decide +kernel
theorem dL_law_660 : decode cL_law 660 = .ok (.iload_n 3, 1) := by decide +kernel
theorem dL_law_661 : decode cL_law 661 = .ok (.iconst 3, 1) := by decide +kernel
theorem dL_law_662 : decode cL_law 662 = .ok (.iadd, 1) := by decide +kernel
theorem dL_law_663 : decode cL_law 663 = .ok (.iaload, 1) := by decide +kernel
theorem dL_law_664 : decode cL_law 664 = .ok (.invokevirtual 66, 3) := by decide +kernel
theorem dL_law_667 : decode cL_law 667 = .ok (.pop, 1) := by decide +kernel
theorem dL_law_668 : decode cL_law 668 = .ok (.goto 1059, 3) := by decide +kernel
theorem dL_law_671 : decode cL_law 671 = .ok (.aload_n 1, 1) := by decide +kernel
theorem dL_law_672 : decode cL_law 672 = .ok (.aload_n 0, 1) := by decide +kernel
theorem dL_law_673 : decode cL_law 673 = .ok (.iload_n 3, 1) := by decide +kernel
theorem dL_law_674 : decode cL_law 674 = .ok (.iconst 1, 1) := by decide +kernel
theorem dL_law_675 : decode cL_law 675 = .ok (.iadd, 1) := by decide +kernel
theorem dL_law_676 : decode cL_law 676 = .ok (.iaload, 1) := by decide +kernel
theorem dL_law_677 : decode cL_law 677 = .ok (.aload_n 0, 1) := by decide +kernel
theorem dL_law_678 : decode cL_law 678 = .ok (.iload_n 3, 1) := by decide +kernel
theorem dL_law_679 : decode cL_law 679 = .ok (.iconst 2, 1) := by decide +kernel
theorem dL_law_680 : decode cL_law 680 = .ok (.iadd, 1) := by decide +kernel
theorem dL_law_681 : decode cL_law 681 = .ok (.iaload, 1) := by decide +kernel
theorem dL_law_682 : decode cL_law 682 = .ok (.invokevirtual 67, 3) := by decide +kernel
theorem dL_law_685 : decode cL_law 685 = .ok (.pop, 1) := by decide +kernel
theorem dL_law_686 : decode cL_law 686 = .ok (.aload_n 2, 1) := by decide +kernel
theorem dL_law_687 : decode cL_law 687 = .ok (.aload_n 0, 1) := by decide +kernel
theorem dL_law_688 : decode cL_law 688 = .ok (.iload_n 3, 1) := by decide +kernel
theorem dL_law_689 : decode cL_law 689 = .ok (.iconst 1, 1) := by decide +kernel
theorem dL_law_690 : decode cL_law 690 = .ok (.iadd, 1) := by decide +kernel
theorem dL_law_691 : decode cL_law 691 = .ok (.iaload, 1) := by decide +kernel
theorem dL_law_692 : decode cL_law 692 = .ok (.aload_n 0, 1) := by decide +kernel
theorem dL_law_693 : decode cL_law 693 = .ok (.iload_n 3, 1) := by decide +kernel
theorem dL_law_694 : decode cL_law 694 = .ok (.iconst 2, 1) := by decide +kernel
theorem dL_law_695 : decode cL_law 695 = .ok (.iadd, 1) := by decide +kernel
theorem dL_law_696 : decode cL_law 696 = .ok (.iaload, 1) := by decide +kernel
theorem dL_law_697 : decode cL_law 697 = .ok (.invokevirtual 70, 3) := by decide +kernel
theorem dL_law_700 : decode cL_law 700 = .ok (.pop, 1) := by decide +kernel
theorem dL_law_701 : decode cL_law 701 = .ok (.goto 1026, 3) := by decide +kernel
theorem dL_law_704 : decode cL_law 704 = .ok (.aload_n 1, 1) := by decide +kernel
theorem dL_law_705 : decode cL_law 705 = .ok (.aload_n 0, 1) := by decide +kernel
theorem dL_law_706 : decode cL_law 706 = .ok (.iload_n 3, 1) := by decide +kernel
theorem dL_law_707 : decode cL_law 707 = .ok (.iconst 1, 1) := by decide +kernel
theorem dL_law_708 : decode cL_law 708 = .ok (.iadd, 1) := by decide +kernel
theorem dL_law_709 : decode cL_law 709 = .ok (.iaload, 1) := by decide +kernel
theorem dL_law_710 : decode cL_law 710 = .ok (.aload_n 0, 1) := by decide +kernel
theorem dL_law_711 : decode cL_law 711 = .ok (.iload_n 3, 1) := by decide +kernel
theorem dL_law_712 : decode cL_law 712 = .ok (.iconst 2, 1) := by decide +kernel
theorem dL_law_713 : decode cL_law 713 = .ok (.iadd, 1) := by decide +kernel
theorem dL_law_714 : decode cL_law 714 = .ok (.iaload, 1) := by decide +kernel
theorem dL_law_715 : decode cL_law 715 = .ok (.invokevirtual 71, 3) := by decide +kernel
theorem dL_law_718 : decode cL_law 718 = .ok (.pop, 1) := by decide +kernel
theorem dL_law_719 : decode cL_law 719 = .ok (.aload_n 2, 1) := by decide +kernel
theorem dL_law_720 : decode cL_law 720 = .ok (.aload_n 0, 1) := by decide +kernel
theorem dL_law_721 : decode cL_law 721 = .ok (.iload_n 3, 1) := by decide +kernel
theorem dL_law_722 : decode cL_law 722 = .ok (.iconst 1, 1) := by decide +kernel
theorem dL_law_723 : decode cL_law 723 = .ok (.iadd, 1) := by decide +kernel
theorem dL_law_724 : decode cL_law 724 = .ok (.iaload, 1) := by decide +kernel
theorem dL_law_725 : decode cL_law 725 = .ok (.aload_n 0, 1) := by decide +kernel
theorem dL_law_726 : decode cL_law 726 = .ok (.iload_n 3, 1) := by decide +kernel
theorem dL_law_727 : decode cL_law 727 = .ok (.iconst 2, 1) := by decide +kernel
theorem dL_law_728 : decode cL_law 728 = .ok (.iadd, 1) := by decide +kernel
theorem dL_law_729 : decode cL_law 729 = .ok (.iaload, 1) := by decide +kernel
theorem dL_law_730 : decode cL_law 730 = .ok (.invokevirtual 74, 3) := by decide +kernel
theorem dL_law_733 : decode cL_law 733 = .ok (.pop, 1) := by decide +kernel
theorem dL_law_734 : decode cL_law 734 = .ok (.goto 993, 3) := by decide +kernel
set_option maxRecDepth 20000 in
theorem lww_51 : Cond.methodLink RL 54 yX10_bucket ∈ lw_tbl := List.mem_of_getElem? (i := 722) (by decide +kernel)
set_option maxRecDepth 20000 in
theorem lww_52 : Cond.instanceMethod yX10_bucket ∈ lw_tbl := List.mem_of_getElem? (i := 723) (by decide +kernel)
set_option maxRecDepth 20000 in
theorem lww_53 : Cond.selects RX10 yX10_bucket yX10_bucket ∈ lw_tbl := List.mem_of_getElem? (i := 724) (by decide +kernel)
set_option maxRecDepth 20000 in
theorem lww_54 : Cond.methodLink RL 58 yX11_bucket ∈ lw_tbl := List.mem_of_getElem? (i := 1537) (by decide +kernel)
set_option maxRecDepth 20000 in
theorem lww_55 : Cond.instanceMethod yX11_bucket ∈ lw_tbl := List.mem_of_getElem? (i := 1538) (by decide +kernel)
set_option maxRecDepth 20000 in
theorem lww_56 : Cond.selects RX11 yX11_bucket yX11_bucket ∈ lw_tbl := List.mem_of_getElem? (i := 1539) (by decide +kernel)
set_option maxRecDepth 20000 in
theorem lww_57 : Cond.methodLink RL 59 yX10_room ∈ lw_tbl := List.mem_of_getElem? (i := 728) (by decide +kernel)
set_option maxRecDepth 20000 in
theorem lww_58 : Cond.instanceMethod yX10_room ∈ lw_tbl := List.mem_of_getElem? (i := 729) (by decide +kernel)
set_option maxRecDepth 20000 in
theorem lww_59 : Cond.selects RX10 yX10_room yX10_room ∈ lw_tbl := List.mem_of_getElem? (i := 730) (by decide +kernel)
set_option maxRecDepth 20000 in
theorem lww_60 : Cond.methodLink RL 62 yX11_room ∈ lw_tbl := List.mem_of_getElem? (i := 1545) (by decide +kernel)
set_option maxRecDepth 20000 in
theorem lww_61 : Cond.instanceMethod yX11_room ∈ lw_tbl := List.mem_of_getElem? (i := 1546) (by decide +kernel)
set_option maxRecDepth 20000 in
theorem lww_62 : Cond.selects RX11 yX11_room yX11_room ∈ lw_tbl := List.mem_of_getElem? (i := 1547) (by decide +kernel)
set_option maxRecDepth 20000 in
theorem lww_63 : Cond.methodLink RL 63 yX10_place ∈ lw_tbl := List.mem_of_getElem? (i := 738) (by decide +kernel)
set_option maxRecDepth 20000 in
theorem lww_64 : Cond.instanceMethod yX10_place ∈ lw_tbl := List.mem_of_getElem? (i := 739) (by decide +kernel)
set_option maxRecDepth 20000 in
theorem lww_65 : Cond.selects RX10 yX10_place yX10_place ∈ lw_tbl := List.mem_of_getElem? (i := 740) (by decide +kernel)
set_option maxRecDepth 20000 in
theorem lww_66 : Cond.methodLink RL 66 yX11_place ∈ lw_tbl := List.mem_of_getElem? (i := 1549) (by decide +kernel)
set_option maxRecDepth 20000 in
theorem lww_67 : Cond.instanceMethod yX11_place ∈ lw_tbl := List.mem_of_getElem? (i := 1550) (by decide +kernel)
set_option maxRecDepth 20000 in
theorem lww_68 : Cond.selects RX11 yX11_place yX11_place ∈ lw_tbl := List.mem_of_getElem? (i := 1551) (by decide +kernel)
set_option maxRecDepth 20000 in
theorem lww_69 : Cond.methodLink RL 67 yX10_key ∈ lw_tbl := List.mem_of_getElem? (i := 744) (by decide +kernel)
set_option maxRecDepth 20000 in
theorem lww_70 : Cond.instanceMethod yX10_key ∈ lw_tbl := List.mem_of_getElem? (i := 745) (by decide +kernel)
set_option maxRecDepth 20000 in
theorem lww_71 : Cond.selects RX10 yX10_key yX10_key ∈ lw_tbl := List.mem_of_getElem? (i := 746) (by decide +kernel)
set_option maxRecDepth 20000 in
theorem lww_72 : Cond.methodLink RL 70 yX11_key ∈ lw_tbl := List.mem_of_getElem? (i := 1553) (by decide +kernel)
set_option maxRecDepth 20000 in
theorem lww_73 : Cond.instanceMethod yX11_key ∈ lw_tbl := List.mem_of_getElem? (i := 1554) (by decide +kernel)
set_option maxRecDepth 20000 in
theorem lww_74 : Cond.selects RX11 yX11_key yX11_key ∈ lw_tbl := List.mem_of_getElem? (i := 1555) (by decide +kernel)
set_option maxRecDepth 20000 in
theorem lww_75 : Cond.methodLink RL 71 yX10_walk ∈ lw_tbl := List.mem_of_getElem? (i := 748) (by decide +kernel)
set_option maxRecDepth 20000 in
theorem lww_76 : Cond.instanceMethod yX10_walk ∈ lw_tbl := List.mem_of_getElem? (i := 749) (by decide +kernel)
set_option maxRecDepth 20000 in
theorem lww_77 : Cond.selects RX10 yX10_walk yX10_walk ∈ lw_tbl := List.mem_of_getElem? (i := 750) (by decide +kernel)
set_option maxRecDepth 20000 in
theorem lww_78 : Cond.methodLink RL 74 yX11_walk ∈ lw_tbl := List.mem_of_getElem? (i := 1557) (by decide +kernel)
set_option maxRecDepth 20000 in
theorem lww_79 : Cond.instanceMethod yX11_walk ∈ lw_tbl := List.mem_of_getElem? (i := 1558) (by decide +kernel)
set_option maxRecDepth 20000 in
theorem lww_80 : Cond.selects RX11 yX11_walk yX11_walk ∈ lw_tbl := List.mem_of_getElem? (i := 1559) (by decide +kernel)

set_option maxRecDepth 20000 in
theorem g_L_m_bucket_54 : GoodIn lw_tbl (wsV RL 54 RX10 yX10_bucket wp_m_bucket) := goodIn_sub (List.forall_mem_append.mpr ⟨List.forall_mem_cons.mpr ⟨lww_51, List.forall_mem_cons.mpr ⟨lww_52, List.forall_mem_cons.mpr ⟨lww_53, List.forall_mem_cons.mpr ⟨lww_3, fun _ h => absurd h List.not_mem_nil⟩⟩⟩⟩, in_m_bucket⟩) (by decide +kernel)
set_option maxRecDepth 20000 in
theorem g_L_c_bucketM_58 : GoodIn lw_tbl (wsV RL 58 RX11 yX11_bucket wp_c_bucketM) := goodIn_sub (List.forall_mem_append.mpr ⟨List.forall_mem_cons.mpr ⟨lww_54, List.forall_mem_cons.mpr ⟨lww_55, List.forall_mem_cons.mpr ⟨lww_56, List.forall_mem_cons.mpr ⟨lww_7, fun _ h => absurd h List.not_mem_nil⟩⟩⟩⟩, in_c_bucketM⟩) (by decide +kernel)
set_option maxHeartbeats 4000000 in
set_option maxRecDepth 100000 in
theorem law_case_8 {p : Program} {e : Env} {s : State} {m : MethodId} {below : List Frame} {meth : Method} {c : Code} (l : Launch) {b L : Nat} {xs : Nat → Int32} {D : va_G} {A : Nat → Prop} {adK adV : Nat → Nat} (C0 : lw_At p s m meth c b L xs) (hL : L ≤ 3584) (hN : NC s) (hST : ST adK adV A s s.heap) (hA : ∀ q, s.heap.size ≤ q → A q) (hbA : ¬ A b) {cm : Nat → ClassId} {cI cT : ClassId} (hKm : va_K D vwCl (tyM cm) s) (hKc : va_K D vwCl [(cI, .int), (cT, .object RX9)] s) {x0 m0 i : Nat} (hi : i + 7 ≤ L) (kx : ∀ (cells slots tp : Nat) (bt : Nat → Nat) (ex : Nat → Bool) (Ls : Nat → List (Nat × Int32)) (V U : va_W) (H : Heap) (locs : List Loc) (ls : Array Slot), cells + 14 * cntE ex ≤ 200 → slots + 11072 * cntE ex ≤ 200000 → RWd cm m0 tp bt ex Ls V → CWd cI cT x0 tp bt ex Ls U → va_P D vwCl (V ++ U) H → va_D A (V ++ U) → va_S A s.heap H locs → lv_has ls 4 [(3, .int (nI i)), (2, .ref m0), (1, .ref x0), (0, .ref b)] → W p l e room_1 s m #[Value.ref b] below meth c H locs (cells) (slots) (lw_Z below #[Value.ref b] s) (F0 m 1727 ls [])) : ∀ (cells slots tp : Nat) (bt : Nat → Nat) (ex : Nat → Bool) (Ls : Nat → List (Nat × Int32)) (V U : va_W) (H : Heap) (locs : List Loc) (ls : Array Slot), cells + 14 * cntE ex ≤ 200 → slots + 11072 * cntE ex ≤ 200000 → RWd cm m0 tp bt ex Ls V → CWd cI cT x0 tp bt ex Ls U → va_P D vwCl (V ++ U) H → va_D A (V ++ U) → va_S A s.heap H locs → lv_has ls 4 [(3, .int (nI i)), (2, .ref m0), (1, .ref x0), (0, .ref b)] → W p l e room_1 s m #[Value.ref b] below meth c H locs (cells) (slots) (lw_Z below #[Value.ref b] s) (F0 m 542 ls []) := by
  intro cells slots tp bt ex Ls V U H locs ls hc9 hs9 hR hC hP hD hS hl
  have hf1 : cells ≤ room_1.cells := Nat.le_trans (show cells ≤ 200 by omega) (by decide +kernel)
  have hf2 : slots ≤ room_1.slots := Nat.le_trans (show slots ≤ 200000 by omega) (by decide +kernel)
  obtain ⟨hx, hb, hr, hml, hown, hts, hX, hbl, hlocks, hgv⟩ := id C0
  have hown : s.vm.findClass RL = some m.cls := hown
  refine lv_aload_n hx hb dL_law_542 rfl (lv_at hl 2 rfl) ?_
  refine lv_aload_n hx hb dL_law_543 rfl (lv_at hl 3 rfl) ?_
  refine lv_iload_n hx hb dL_law_544 rfl (lv_at hl 0 rfl) ?_
  refine lv_iconst (v := 1) hx hb dL_law_545 (by decide) ?_
  refine lv_iadd hx hb dL_law_546 ?_
  refine lv_topi (fun v1 ev1 => ?_)
  obtain rfl : v1 = nI (i + 1) := ev1.trans (nI_add _ 1)
  refine va_sld hx hb hX hbl hbA hS (vp_in_nI (by omega) (by omega)) dL_law_547 ?_
  refine lv_topi (fun v2 ev2 => ?_)
  refine lv_aload_n hx hb dL_law_548 rfl (lv_at hl 3 rfl) ?_
  refine lv_iload_n hx hb dL_law_549 rfl (lv_at hl 0 rfl) ?_
  refine lv_iconst (v := 2) hx hb dL_law_550 (by decide) ?_
  refine lv_iadd hx hb dL_law_551 ?_
  refine lv_topi (fun v3 ev3 => ?_)
  obtain rfl : v3 = nI (i + 2) := ev3.trans (nI_add _ 2)
  refine va_sld hx hb hX hbl hbA hS (vp_in_nI (by omega) (by omega)) dL_law_552 ?_
  refine lv_topi (fun v4 ev4 => ?_)
  refine lv_aload_n hx hb dL_law_553 rfl (lv_at hl 3 rfl) ?_
  refine lv_iload_n hx hb dL_law_554 rfl (lv_at hl 0 rfl) ?_
  refine lv_iconst (v := 3) hx hb dL_law_555 (by decide) ?_
  refine lv_iadd hx hb dL_law_556 ?_
  refine lv_topi (fun v5 ev5 => ?_)
  obtain rfl : v5 = nI (i + 3) := ev5.trans (nI_add _ 3)
  refine va_sld hx hb hX hbl hbA hS (vp_in_nI (by omega) (by omega)) dL_law_557 ?_
  refine lv_topi (fun v6 ev6 => ?_)
  obtain ⟨q9, fs9, he9⟩ := hC.recv
  have hFc := va_fr hD.rt hS hA
  refine va_calll (va_runV (As := [.int v2, .int v4, .int v6]) (rest := []) ⟨hx, hb, hml, hown, hts⟩ (m_bucket l D _ adK adV cI cT x0 _ _ _ _ U v2 v4 v6 hC) (cwV 3 hts g_L_m_bucket_54 rfl rfl rfl (by decide +kernel) ⟨(Nat.le_of_ble_eq_true rfl), (Nat.le_of_ble_eq_true rfl)⟩) (PcWS_V (q0 := q9) hP.rt hKc hD.rt hN hST hS hFc he9 rfl) rfl rfl hl.1 rfl (lv_room (Nat.le_of_ble_eq_true rfl)) dL_law_558 ⟨hf1, hf2⟩) hS (fun q _ h => hFc q h) hFc (fun r7 uu tt H locs htt hvm hw hB hz1 hk1 hS => ?_)
  obtain ⟨U8, rfl⟩ : ∃ z, z = uu := ⟨_, rfl⟩
  obtain ⟨hP1, hK1, hD1⟩ := hB
  rw [htt] at hP1
  obtain ⟨hP, hD⟩ := jnC hP hD hk1 hFc hP1 hD1
  have hC := hw
  refine lv_pop2_2 hx hb dL_law_561 rfl ?_
  refine lv_aload_n hx hb dL_law_562 rfl (lv_at hl 1 rfl) ?_
  refine lv_aload_n hx hb dL_law_563 rfl (lv_at hl 3 rfl) ?_
  refine lv_iload_n hx hb dL_law_564 rfl (lv_at hl 0 rfl) ?_
  refine lv_iconst (v := 1) hx hb dL_law_565 (by decide) ?_
  refine lv_iadd hx hb dL_law_566 ?_
  refine lv_topi (fun v9 ev9 => ?_)
  obtain rfl : v9 = nI (i + 1) := ev9.trans (nI_add _ 1)
  refine va_sld hx hb hX hbl hbA hS (vp_in_nI (by omega) (by omega)) dL_law_567 ?_
  refine lv_topi (fun v10 ev10 => ?_)
  refine lv_aload_n hx hb dL_law_568 rfl (lv_at hl 3 rfl) ?_
  refine lv_iload_n hx hb dL_law_569 rfl (lv_at hl 0 rfl) ?_
  refine lv_iconst (v := 2) hx hb dL_law_570 (by decide) ?_
  refine lv_iadd hx hb dL_law_571 ?_
  refine lv_topi (fun v11 ev11 => ?_)
  obtain rfl : v11 = nI (i + 2) := ev11.trans (nI_add _ 2)
  refine va_sld hx hb hX hbl hbA hS (vp_in_nI (by omega) (by omega)) dL_law_572 ?_
  refine lv_topi (fun v12 ev12 => ?_)
  refine lv_aload_n hx hb dL_law_573 rfl (lv_at hl 3 rfl) ?_
  refine lv_iload_n hx hb dL_law_574 rfl (lv_at hl 0 rfl) ?_
  refine lv_iconst (v := 3) hx hb dL_law_575 (by decide) ?_
  refine lv_iadd hx hb dL_law_576 ?_
  refine lv_topi (fun v13 ev13 => ?_)
  obtain rfl : v13 = nI (i + 3) := ev13.trans (nI_add _ 3)
  refine va_sld hx hb hX hbl hbA hS (vp_in_nI (by omega) (by omega)) dL_law_577 ?_
  refine lv_topi (fun v14 ev14 => ?_)
  obtain ⟨q9, fs9, he9⟩ := hR.recv
  have hFc := va_fr hD.lf hS hA
  refine va_calll (va_runV (As := [.int v10, .int v12, .int v14]) (rest := []) ⟨hx, hb, hml, hown, hts⟩ (M_bucket l D _ cm m0 _ _ _ _ V v10 v12 v14 hR) (cwV 3 hts g_L_c_bucketM_58 rfl rfl rfl (by decide +kernel) ⟨(Nat.le_of_ble_eq_true rfl), (Nat.le_of_ble_eq_true rfl)⟩) (PcW_V (q0 := q9) hP.lf hKm hD.lf he9 rfl) rfl rfl hl.1 rfl (lv_room (Nat.le_of_ble_eq_true rfl)) dL_law_578 ⟨hf1, hf2⟩) hS (fun q _ h => hFc q h) hFc (fun r15 uu tt H locs htt hvm hw hB hz1 hk1 hS => ?_)
  obtain ⟨V16, rfl⟩ : ∃ z, z = uu := ⟨_, rfl⟩
  obtain ⟨hP1, hK1, hD1⟩ := hB
  rw [htt] at hP1
  obtain ⟨hP, hD⟩ := jnR hP hD hk1 hFc hP1 hD1
  have hR := hw
  refine lv_pop2_2 hx hb dL_law_581 rfl ?_
  refine lv_goto (tgt := 1727) hx hb dL_law_582 (by decide) ?_
  exact kx cells slots _ _ _ _ V16 U8 H locs ls (by omega) (by omega) hR hC hP hD hS hl

set_option maxRecDepth 20000 in
theorem g_L_m_room_59 : GoodIn lw_tbl (wsV RL 59 RX10 yX10_room wp_m_room) := goodIn_sub (List.forall_mem_append.mpr ⟨List.forall_mem_cons.mpr ⟨lww_57, List.forall_mem_cons.mpr ⟨lww_58, List.forall_mem_cons.mpr ⟨lww_59, List.forall_mem_cons.mpr ⟨lww_3, fun _ h => absurd h List.not_mem_nil⟩⟩⟩⟩, in_m_room⟩) (by decide +kernel)
set_option maxRecDepth 20000 in
theorem g_L_c_roomM_62 : GoodIn lw_tbl (wsV RL 62 RX11 yX11_room wp_c_roomM) := goodIn_sub (List.forall_mem_append.mpr ⟨List.forall_mem_cons.mpr ⟨lww_60, List.forall_mem_cons.mpr ⟨lww_61, List.forall_mem_cons.mpr ⟨lww_62, List.forall_mem_cons.mpr ⟨lww_7, fun _ h => absurd h List.not_mem_nil⟩⟩⟩⟩, in_c_roomM⟩) (by decide +kernel)
set_option maxHeartbeats 4000000 in
set_option maxRecDepth 100000 in
theorem law_case_9 {p : Program} {e : Env} {s : State} {m : MethodId} {below : List Frame} {meth : Method} {c : Code} (l : Launch) {b L : Nat} {xs : Nat → Int32} {D : va_G} {A : Nat → Prop} {adK adV : Nat → Nat} (C0 : lw_At p s m meth c b L xs) (hL : L ≤ 3584) (hN : NC s) (hST : ST adK adV A s s.heap) (hA : ∀ q, s.heap.size ≤ q → A q) (hbA : ¬ A b) {cm : Nat → ClassId} {cI cT : ClassId} (hKm : va_K D vwCl (tyM cm) s) (hKc : va_K D vwCl [(cI, .int), (cT, .object RX9)] s) {x0 m0 i : Nat} (hi : i + 7 ≤ L) (kx : ∀ (cells slots tp : Nat) (bt : Nat → Nat) (ex : Nat → Bool) (Ls : Nat → List (Nat × Int32)) (V U : va_W) (H : Heap) (locs : List Loc) (ls : Array Slot), cells + 14 * cntE ex ≤ 200 → slots + 11072 * cntE ex ≤ 200000 → RWd cm m0 tp bt ex Ls V → CWd cI cT x0 tp bt ex Ls U → va_P D vwCl (V ++ U) H → va_D A (V ++ U) → va_S A s.heap H locs → lv_has ls 4 [(3, .int (nI i)), (2, .ref m0), (1, .ref x0), (0, .ref b)] → W p l e room_1 s m #[Value.ref b] below meth c H locs (cells) (slots) (lw_Z below #[Value.ref b] s) (F0 m 1727 ls [])) : ∀ (cells slots tp : Nat) (bt : Nat → Nat) (ex : Nat → Bool) (Ls : Nat → List (Nat × Int32)) (V U : va_W) (H : Heap) (locs : List Loc) (ls : Array Slot), cells + 14 * cntE ex ≤ 200 → slots + 11072 * cntE ex ≤ 200000 → RWd cm m0 tp bt ex Ls V → CWd cI cT x0 tp bt ex Ls U → va_P D vwCl (V ++ U) H → va_D A (V ++ U) → va_S A s.heap H locs → lv_has ls 4 [(3, .int (nI i)), (2, .ref m0), (1, .ref x0), (0, .ref b)] → W p l e room_1 s m #[Value.ref b] below meth c H locs (cells) (slots) (lw_Z below #[Value.ref b] s) (F0 m 585 ls []) := by
  intro cells slots tp bt ex Ls V U H locs ls hc9 hs9 hR hC hP hD hS hl
  have hf1 : cells ≤ room_1.cells := Nat.le_trans (show cells ≤ 200 by omega) (by decide +kernel)
  have hf2 : slots ≤ room_1.slots := Nat.le_trans (show slots ≤ 200000 by omega) (by decide +kernel)
  obtain ⟨hx, hb, hr, hml, hown, hts, hX, hbl, hlocks, hgv⟩ := id C0
  have hown : s.vm.findClass RL = some m.cls := hown
  refine lv_aload_n hx hb dL_law_585 rfl (lv_at hl 2 rfl) ?_
  refine lv_aload_n hx hb dL_law_586 rfl (lv_at hl 3 rfl) ?_
  refine lv_iload_n hx hb dL_law_587 rfl (lv_at hl 0 rfl) ?_
  refine lv_iconst (v := 1) hx hb dL_law_588 (by decide) ?_
  refine lv_iadd hx hb dL_law_589 ?_
  refine lv_topi (fun v1 ev1 => ?_)
  obtain rfl : v1 = nI (i + 1) := ev1.trans (nI_add _ 1)
  refine va_sld hx hb hX hbl hbA hS (vp_in_nI (by omega) (by omega)) dL_law_590 ?_
  refine lv_topi (fun v2 ev2 => ?_)
  refine lv_aload_n hx hb dL_law_591 rfl (lv_at hl 3 rfl) ?_
  refine lv_iload_n hx hb dL_law_592 rfl (lv_at hl 0 rfl) ?_
  refine lv_iconst (v := 2) hx hb dL_law_593 (by decide) ?_
  refine lv_iadd hx hb dL_law_594 ?_
  refine lv_topi (fun v3 ev3 => ?_)
  obtain rfl : v3 = nI (i + 2) := ev3.trans (nI_add _ 2)
  refine va_sld hx hb hX hbl hbA hS (vp_in_nI (by omega) (by omega)) dL_law_595 ?_
  refine lv_topi (fun v4 ev4 => ?_)
  refine lv_aload_n hx hb dL_law_596 rfl (lv_at hl 3 rfl) ?_
  refine lv_iload_n hx hb dL_law_597 rfl (lv_at hl 0 rfl) ?_
  refine lv_iconst (v := 3) hx hb dL_law_598 (by decide) ?_
  refine lv_iadd hx hb dL_law_599 ?_
  refine lv_topi (fun v5 ev5 => ?_)
  obtain rfl : v5 = nI (i + 3) := ev5.trans (nI_add _ 3)
  refine va_sld hx hb hX hbl hbA hS (vp_in_nI (by omega) (by omega)) dL_law_600 ?_
  refine lv_topi (fun v6 ev6 => ?_)
  obtain ⟨q9, fs9, he9⟩ := hC.recv
  have hFc := va_fr hD.rt hS hA
  refine va_calli (va_runV (As := [.int v2, .int v4, .int v6]) (rest := []) ⟨hx, hb, hml, hown, hts⟩ (m_room l D _ adK adV cI cT x0 _ _ _ _ U v2 v4 v6 hC) (cwV 3 hts g_L_m_room_59 rfl rfl rfl (by decide +kernel) ⟨(Nat.le_of_ble_eq_true rfl), (Nat.le_of_ble_eq_true rfl)⟩) (PcWS_V (q0 := q9) hP.rt hKc hD.rt hN hST hS hFc he9 rfl) rfl rfl hl.1 rfl (lv_room (Nat.le_of_ble_eq_true rfl)) dL_law_601 ⟨hf1, hf2⟩) hS (fun q _ h => hFc q h) hFc (fun r7 uu tt H locs htt hvm hw hB hz1 hk1 hS => ?_)
  obtain ⟨U8, rfl⟩ : ∃ z, z = uu := ⟨_, rfl⟩
  obtain ⟨hP1, hK1, hD1⟩ := hB
  rw [htt] at hP1
  obtain ⟨hP, hD⟩ := jnC hP hD hk1 hFc hP1 hD1
  have hC := hw
  refine lv_pop hx hb dL_law_604 rfl ?_
  refine lv_aload_n hx hb dL_law_605 rfl (lv_at hl 1 rfl) ?_
  refine lv_aload_n hx hb dL_law_606 rfl (lv_at hl 3 rfl) ?_
  refine lv_iload_n hx hb dL_law_607 rfl (lv_at hl 0 rfl) ?_
  refine lv_iconst (v := 1) hx hb dL_law_608 (by decide) ?_
  refine lv_iadd hx hb dL_law_609 ?_
  refine lv_topi (fun v9 ev9 => ?_)
  obtain rfl : v9 = nI (i + 1) := ev9.trans (nI_add _ 1)
  refine va_sld hx hb hX hbl hbA hS (vp_in_nI (by omega) (by omega)) dL_law_610 ?_
  refine lv_topi (fun v10 ev10 => ?_)
  refine lv_aload_n hx hb dL_law_611 rfl (lv_at hl 3 rfl) ?_
  refine lv_iload_n hx hb dL_law_612 rfl (lv_at hl 0 rfl) ?_
  refine lv_iconst (v := 2) hx hb dL_law_613 (by decide) ?_
  refine lv_iadd hx hb dL_law_614 ?_
  refine lv_topi (fun v11 ev11 => ?_)
  obtain rfl : v11 = nI (i + 2) := ev11.trans (nI_add _ 2)
  refine va_sld hx hb hX hbl hbA hS (vp_in_nI (by omega) (by omega)) dL_law_615 ?_
  refine lv_topi (fun v12 ev12 => ?_)
  refine lv_aload_n hx hb dL_law_616 rfl (lv_at hl 3 rfl) ?_
  refine lv_iload_n hx hb dL_law_617 rfl (lv_at hl 0 rfl) ?_
  refine lv_iconst (v := 3) hx hb dL_law_618 (by decide) ?_
  refine lv_iadd hx hb dL_law_619 ?_
  refine lv_topi (fun v13 ev13 => ?_)
  obtain rfl : v13 = nI (i + 3) := ev13.trans (nI_add _ 3)
  refine va_sld hx hb hX hbl hbA hS (vp_in_nI (by omega) (by omega)) dL_law_620 ?_
  refine lv_topi (fun v14 ev14 => ?_)
  obtain ⟨q9, fs9, he9⟩ := hR.recv
  have hFc := va_fr hD.lf hS hA
  refine va_calli (va_runV (As := [.int v10, .int v12, .int v14]) (rest := []) ⟨hx, hb, hml, hown, hts⟩ (M_room l D _ cm m0 _ _ _ _ V v10 v12 v14 hR) (cwV 3 hts g_L_c_roomM_62 rfl rfl rfl (by decide +kernel) ⟨(Nat.le_of_ble_eq_true rfl), (Nat.le_of_ble_eq_true rfl)⟩) (PcW_V (q0 := q9) hP.lf hKm hD.lf he9 rfl) rfl rfl hl.1 rfl (lv_room (Nat.le_of_ble_eq_true rfl)) dL_law_621 ⟨hf1, hf2⟩) hS (fun q _ h => hFc q h) hFc (fun r15 uu tt H locs htt hvm hw hB hz1 hk1 hS => ?_)
  obtain ⟨V16, rfl⟩ : ∃ z, z = uu := ⟨_, rfl⟩
  obtain ⟨hP1, hK1, hD1⟩ := hB
  rw [htt] at hP1
  obtain ⟨hP, hD⟩ := jnR hP hD hk1 hFc hP1 hD1
  have hR := hw
  refine lv_pop hx hb dL_law_624 rfl ?_
  refine lv_goto (tgt := 1727) hx hb dL_law_625 (by decide) ?_
  exact kx cells slots _ _ _ _ V16 U8 H locs ls (by omega) (by omega) hR hC hP hD hS hl

set_option maxRecDepth 20000 in
theorem g_L_m_place_63 : GoodIn lw_tbl (wsV RL 63 RX10 yX10_place wp_m_place) := goodIn_sub (List.forall_mem_append.mpr ⟨List.forall_mem_cons.mpr ⟨lww_63, List.forall_mem_cons.mpr ⟨lww_64, List.forall_mem_cons.mpr ⟨lww_65, List.forall_mem_cons.mpr ⟨lww_3, fun _ h => absurd h List.not_mem_nil⟩⟩⟩⟩, in_m_place⟩) (by decide +kernel)
set_option maxRecDepth 20000 in
theorem g_L_c_placeM_66 : GoodIn lw_tbl (wsV RL 66 RX11 yX11_place wp_c_placeM) := goodIn_sub (List.forall_mem_append.mpr ⟨List.forall_mem_cons.mpr ⟨lww_66, List.forall_mem_cons.mpr ⟨lww_67, List.forall_mem_cons.mpr ⟨lww_68, List.forall_mem_cons.mpr ⟨lww_7, fun _ h => absurd h List.not_mem_nil⟩⟩⟩⟩, in_c_placeM⟩) (by decide +kernel)
set_option maxHeartbeats 4000000 in
set_option maxRecDepth 100000 in
theorem law_case_10 {p : Program} {e : Env} {s : State} {m : MethodId} {below : List Frame} {meth : Method} {c : Code} (l : Launch) {b L : Nat} {xs : Nat → Int32} {D : va_G} {A : Nat → Prop} {adK adV : Nat → Nat} (C0 : lw_At p s m meth c b L xs) (hL : L ≤ 3584) (hN : NC s) (hST : ST adK adV A s s.heap) (hA : ∀ q, s.heap.size ≤ q → A q) (hbA : ¬ A b) {cm : Nat → ClassId} {cI cT : ClassId} (hKm : va_K D vwCl (tyM cm) s) (hKc : va_K D vwCl [(cI, .int), (cT, .object RX9)] s) {x0 m0 i : Nat} (hi : i + 7 ≤ L) (kx : ∀ (cells slots tp : Nat) (bt : Nat → Nat) (ex : Nat → Bool) (Ls : Nat → List (Nat × Int32)) (V U : va_W) (H : Heap) (locs : List Loc) (ls : Array Slot), cells + 14 * cntE ex ≤ 200 → slots + 11072 * cntE ex ≤ 200000 → RWd cm m0 tp bt ex Ls V → CWd cI cT x0 tp bt ex Ls U → va_P D vwCl (V ++ U) H → va_D A (V ++ U) → va_S A s.heap H locs → lv_has ls 4 [(3, .int (nI i)), (2, .ref m0), (1, .ref x0), (0, .ref b)] → W p l e room_1 s m #[Value.ref b] below meth c H locs (cells) (slots) (lw_Z below #[Value.ref b] s) (F0 m 1727 ls [])) : ∀ (cells slots tp : Nat) (bt : Nat → Nat) (ex : Nat → Bool) (Ls : Nat → List (Nat × Int32)) (V U : va_W) (H : Heap) (locs : List Loc) (ls : Array Slot), cells + 14 * cntE ex ≤ 200 → slots + 11072 * cntE ex ≤ 200000 → RWd cm m0 tp bt ex Ls V → CWd cI cT x0 tp bt ex Ls U → va_P D vwCl (V ++ U) H → va_D A (V ++ U) → va_S A s.heap H locs → lv_has ls 4 [(3, .int (nI i)), (2, .ref m0), (1, .ref x0), (0, .ref b)] → W p l e room_1 s m #[Value.ref b] below meth c H locs (cells) (slots) (lw_Z below #[Value.ref b] s) (F0 m 628 ls []) := by
  intro cells slots tp bt ex Ls V U H locs ls hc9 hs9 hR hC hP hD hS hl
  have hf1 : cells ≤ room_1.cells := Nat.le_trans (show cells ≤ 200 by omega) (by decide +kernel)
  have hf2 : slots ≤ room_1.slots := Nat.le_trans (show slots ≤ 200000 by omega) (by decide +kernel)
  obtain ⟨hx, hb, hr, hml, hown, hts, hX, hbl, hlocks, hgv⟩ := id C0
  have hown : s.vm.findClass RL = some m.cls := hown
  refine lv_aload_n hx hb dL_law_628 rfl (lv_at hl 2 rfl) ?_
  refine lv_aload_n hx hb dL_law_629 rfl (lv_at hl 3 rfl) ?_
  refine lv_iload_n hx hb dL_law_630 rfl (lv_at hl 0 rfl) ?_
  refine lv_iconst (v := 1) hx hb dL_law_631 (by decide) ?_
  refine lv_iadd hx hb dL_law_632 ?_
  refine lv_topi (fun v1 ev1 => ?_)
  obtain rfl : v1 = nI (i + 1) := ev1.trans (nI_add _ 1)
  refine va_sld hx hb hX hbl hbA hS (vp_in_nI (by omega) (by omega)) dL_law_633 ?_
  refine lv_topi (fun v2 ev2 => ?_)
  refine lv_aload_n hx hb dL_law_634 rfl (lv_at hl 3 rfl) ?_
  refine lv_iload_n hx hb dL_law_635 rfl (lv_at hl 0 rfl) ?_
  refine lv_iconst (v := 2) hx hb dL_law_636 (by decide) ?_
  refine lv_iadd hx hb dL_law_637 ?_
  refine lv_topi (fun v3 ev3 => ?_)
  obtain rfl : v3 = nI (i + 2) := ev3.trans (nI_add _ 2)
  refine va_sld hx hb hX hbl hbA hS (vp_in_nI (by omega) (by omega)) dL_law_638 ?_
  refine lv_topi (fun v4 ev4 => ?_)
  refine lv_aload_n hx hb dL_law_639 rfl (lv_at hl 3 rfl) ?_
  refine lv_iload_n hx hb dL_law_640 rfl (lv_at hl 0 rfl) ?_
  refine lv_iconst (v := 3) hx hb dL_law_641 (by decide) ?_
  refine lv_iadd hx hb dL_law_642 ?_
  refine lv_topi (fun v5 ev5 => ?_)
  obtain rfl : v5 = nI (i + 3) := ev5.trans (nI_add _ 3)
  refine va_sld hx hb hX hbl hbA hS (vp_in_nI (by omega) (by omega)) dL_law_643 ?_
  refine lv_topi (fun v6 ev6 => ?_)
  obtain ⟨q9, fs9, he9⟩ := hC.recv
  have hFc := va_fr hD.rt hS hA
  refine va_calli (va_runV (As := [.int v2, .int v4, .int v6]) (rest := []) ⟨hx, hb, hml, hown, hts⟩ (m_place l D _ adK adV cI cT x0 _ _ _ _ U v2 v4 v6 hC) (cwV 3 hts g_L_m_place_63 rfl rfl rfl (by decide +kernel) ⟨(Nat.le_of_ble_eq_true rfl), (Nat.le_of_ble_eq_true rfl)⟩) (PcWS_V (q0 := q9) hP.rt hKc hD.rt hN hST hS hFc he9 rfl) rfl rfl hl.1 rfl (lv_room (Nat.le_of_ble_eq_true rfl)) dL_law_644 ⟨hf1, hf2⟩) hS (fun q _ h => hFc q h) hFc (fun r7 uu tt H locs htt hvm hw hB hz1 hk1 hS => ?_)
  obtain ⟨U8, rfl⟩ : ∃ z, z = uu := ⟨_, rfl⟩
  obtain ⟨hP1, hK1, hD1⟩ := hB
  rw [htt] at hP1
  obtain ⟨hP, hD⟩ := jnC hP hD hk1 hFc hP1 hD1
  have hC := hw
  refine lv_pop hx hb dL_law_647 rfl ?_
  refine lv_aload_n hx hb dL_law_648 rfl (lv_at hl 1 rfl) ?_
  refine lv_aload_n hx hb dL_law_649 rfl (lv_at hl 3 rfl) ?_
  refine lv_iload_n hx hb dL_law_650 rfl (lv_at hl 0 rfl) ?_
  refine lv_iconst (v := 1) hx hb dL_law_651 (by decide) ?_
  refine lv_iadd hx hb dL_law_652 ?_
  refine lv_topi (fun v9 ev9 => ?_)
  obtain rfl : v9 = nI (i + 1) := ev9.trans (nI_add _ 1)
  refine va_sld hx hb hX hbl hbA hS (vp_in_nI (by omega) (by omega)) dL_law_653 ?_
  refine lv_topi (fun v10 ev10 => ?_)
  refine lv_aload_n hx hb dL_law_654 rfl (lv_at hl 3 rfl) ?_
  refine lv_iload_n hx hb dL_law_655 rfl (lv_at hl 0 rfl) ?_
  refine lv_iconst (v := 2) hx hb dL_law_656 (by decide) ?_
  refine lv_iadd hx hb dL_law_657 ?_
  refine lv_topi (fun v11 ev11 => ?_)
  obtain rfl : v11 = nI (i + 2) := ev11.trans (nI_add _ 2)
  refine va_sld hx hb hX hbl hbA hS (vp_in_nI (by omega) (by omega)) dL_law_658 ?_
  refine lv_topi (fun v12 ev12 => ?_)
  refine lv_aload_n hx hb dL_law_659 rfl (lv_at hl 3 rfl) ?_
  refine lv_iload_n hx hb dL_law_660 rfl (lv_at hl 0 rfl) ?_
  refine lv_iconst (v := 3) hx hb dL_law_661 (by decide) ?_
  refine lv_iadd hx hb dL_law_662 ?_
  refine lv_topi (fun v13 ev13 => ?_)
  obtain rfl : v13 = nI (i + 3) := ev13.trans (nI_add _ 3)
  refine va_sld hx hb hX hbl hbA hS (vp_in_nI (by omega) (by omega)) dL_law_663 ?_
  refine lv_topi (fun v14 ev14 => ?_)
  obtain ⟨q9, fs9, he9⟩ := hR.recv
  have hFc := va_fr hD.lf hS hA
  refine va_calli (va_runV (As := [.int v10, .int v12, .int v14]) (rest := []) ⟨hx, hb, hml, hown, hts⟩ (M_place l D _ cm m0 _ _ _ _ V v10 v12 v14 hR) (cwV 3 hts g_L_c_placeM_66 rfl rfl rfl (by decide +kernel) ⟨(Nat.le_of_ble_eq_true rfl), (Nat.le_of_ble_eq_true rfl)⟩) (PcW_V (q0 := q9) hP.lf hKm hD.lf he9 rfl) rfl rfl hl.1 rfl (lv_room (Nat.le_of_ble_eq_true rfl)) dL_law_664 ⟨hf1, hf2⟩) hS (fun q _ h => hFc q h) hFc (fun r15 uu tt H locs htt hvm hw hB hz1 hk1 hS => ?_)
  obtain ⟨V16, rfl⟩ : ∃ z, z = uu := ⟨_, rfl⟩
  obtain ⟨hP1, hK1, hD1⟩ := hB
  rw [htt] at hP1
  obtain ⟨hP, hD⟩ := jnR hP hD hk1 hFc hP1 hD1
  have hR := hw
  refine lv_pop hx hb dL_law_667 rfl ?_
  refine lv_goto (tgt := 1727) hx hb dL_law_668 (by decide) ?_
  exact kx cells slots _ _ _ _ V16 U8 H locs ls (by omega) (by omega) hR hC hP hD hS hl

set_option maxRecDepth 20000 in
theorem g_L_m_key_67 : GoodIn lw_tbl (wsV RL 67 RX10 yX10_key wp_m_key) := goodIn_sub (List.forall_mem_append.mpr ⟨List.forall_mem_cons.mpr ⟨lww_69, List.forall_mem_cons.mpr ⟨lww_70, List.forall_mem_cons.mpr ⟨lww_71, List.forall_mem_cons.mpr ⟨lww_3, fun _ h => absurd h List.not_mem_nil⟩⟩⟩⟩, in_m_key⟩) (by decide +kernel)
set_option maxRecDepth 20000 in
theorem g_L_c_keyM_70 : GoodIn lw_tbl (wsV RL 70 RX11 yX11_key wp_c_keyM) := goodIn_sub (List.forall_mem_append.mpr ⟨List.forall_mem_cons.mpr ⟨lww_72, List.forall_mem_cons.mpr ⟨lww_73, List.forall_mem_cons.mpr ⟨lww_74, List.forall_mem_cons.mpr ⟨lww_7, fun _ h => absurd h List.not_mem_nil⟩⟩⟩⟩, in_c_keyM⟩) (by decide +kernel)
set_option maxHeartbeats 4000000 in
set_option maxRecDepth 100000 in
theorem law_case_11 {p : Program} {e : Env} {s : State} {m : MethodId} {below : List Frame} {meth : Method} {c : Code} (l : Launch) {b L : Nat} {xs : Nat → Int32} {D : va_G} {A : Nat → Prop} {adK adV : Nat → Nat} (C0 : lw_At p s m meth c b L xs) (hL : L ≤ 3584) (hN : NC s) (hST : ST adK adV A s s.heap) (hA : ∀ q, s.heap.size ≤ q → A q) (hbA : ¬ A b) {cm : Nat → ClassId} {cI cT : ClassId} (hKm : va_K D vwCl (tyM cm) s) (hKc : va_K D vwCl [(cI, .int), (cT, .object RX9)] s) {x0 m0 i : Nat} (hi : i + 7 ≤ L) (kx : ∀ (cells slots tp : Nat) (bt : Nat → Nat) (ex : Nat → Bool) (Ls : Nat → List (Nat × Int32)) (V U : va_W) (H : Heap) (locs : List Loc) (ls : Array Slot), cells + 14 * cntE ex ≤ 200 → slots + 11072 * cntE ex ≤ 200000 → RWd cm m0 tp bt ex Ls V → CWd cI cT x0 tp bt ex Ls U → va_P D vwCl (V ++ U) H → va_D A (V ++ U) → va_S A s.heap H locs → lv_has ls 4 [(3, .int (nI i)), (2, .ref m0), (1, .ref x0), (0, .ref b)] → W p l e room_1 s m #[Value.ref b] below meth c H locs (cells) (slots) (lw_Z below #[Value.ref b] s) (F0 m 1727 ls [])) : ∀ (cells slots tp : Nat) (bt : Nat → Nat) (ex : Nat → Bool) (Ls : Nat → List (Nat × Int32)) (V U : va_W) (H : Heap) (locs : List Loc) (ls : Array Slot), cells + 14 * cntE ex ≤ 200 → slots + 11072 * cntE ex ≤ 200000 → RWd cm m0 tp bt ex Ls V → CWd cI cT x0 tp bt ex Ls U → va_P D vwCl (V ++ U) H → va_D A (V ++ U) → va_S A s.heap H locs → lv_has ls 4 [(3, .int (nI i)), (2, .ref m0), (1, .ref x0), (0, .ref b)] → W p l e room_1 s m #[Value.ref b] below meth c H locs (cells) (slots) (lw_Z below #[Value.ref b] s) (F0 m 671 ls []) := by
  intro cells slots tp bt ex Ls V U H locs ls hc9 hs9 hR hC hP hD hS hl
  have hf1 : cells ≤ room_1.cells := Nat.le_trans (show cells ≤ 200 by omega) (by decide +kernel)
  have hf2 : slots ≤ room_1.slots := Nat.le_trans (show slots ≤ 200000 by omega) (by decide +kernel)
  obtain ⟨hx, hb, hr, hml, hown, hts, hX, hbl, hlocks, hgv⟩ := id C0
  have hown : s.vm.findClass RL = some m.cls := hown
  refine lv_aload_n hx hb dL_law_671 rfl (lv_at hl 2 rfl) ?_
  refine lv_aload_n hx hb dL_law_672 rfl (lv_at hl 3 rfl) ?_
  refine lv_iload_n hx hb dL_law_673 rfl (lv_at hl 0 rfl) ?_
  refine lv_iconst (v := 1) hx hb dL_law_674 (by decide) ?_
  refine lv_iadd hx hb dL_law_675 ?_
  refine lv_topi (fun v1 ev1 => ?_)
  obtain rfl : v1 = nI (i + 1) := ev1.trans (nI_add _ 1)
  refine va_sld hx hb hX hbl hbA hS (vp_in_nI (by omega) (by omega)) dL_law_676 ?_
  refine lv_topi (fun v2 ev2 => ?_)
  refine lv_aload_n hx hb dL_law_677 rfl (lv_at hl 3 rfl) ?_
  refine lv_iload_n hx hb dL_law_678 rfl (lv_at hl 0 rfl) ?_
  refine lv_iconst (v := 2) hx hb dL_law_679 (by decide) ?_
  refine lv_iadd hx hb dL_law_680 ?_
  refine lv_topi (fun v3 ev3 => ?_)
  obtain rfl : v3 = nI (i + 2) := ev3.trans (nI_add _ 2)
  refine va_sld hx hb hX hbl hbA hS (vp_in_nI (by omega) (by omega)) dL_law_681 ?_
  refine lv_topi (fun v4 ev4 => ?_)
  obtain ⟨q9, fs9, he9⟩ := hC.recv
  have hFc := va_fr hD.rt hS hA
  refine va_calli (va_runV (As := [.int v2, .int v4]) (rest := []) ⟨hx, hb, hml, hown, hts⟩ (m_key l D _ adK adV cI cT x0 _ _ _ _ U v2 v4 hC) (cwV 2 hts g_L_m_key_67 rfl rfl rfl (by decide +kernel) ⟨(Nat.le_of_ble_eq_true rfl), (Nat.le_of_ble_eq_true rfl)⟩) (PcWS_V (q0 := q9) hP.rt hKc hD.rt hN hST hS hFc he9 rfl) rfl rfl hl.1 rfl (lv_room (Nat.le_of_ble_eq_true rfl)) dL_law_682 ⟨hf1, hf2⟩) hS (fun q _ h => hFc q h) hFc (fun r5 uu tt H locs htt hvm hw hB hz1 hk1 hS => ?_)
  obtain ⟨U6, rfl⟩ : ∃ z, z = uu := ⟨_, rfl⟩
  obtain ⟨hP1, hK1, hD1⟩ := hB
  rw [htt] at hP1
  obtain ⟨hP, hD⟩ := jnC hP hD hk1 hFc hP1 hD1
  have hC := hw.1
  have emC := hw.2
  refine lv_pop hx hb dL_law_685 rfl ?_
  refine lv_aload_n hx hb dL_law_686 rfl (lv_at hl 1 rfl) ?_
  refine lv_aload_n hx hb dL_law_687 rfl (lv_at hl 3 rfl) ?_
  refine lv_iload_n hx hb dL_law_688 rfl (lv_at hl 0 rfl) ?_
  refine lv_iconst (v := 1) hx hb dL_law_689 (by decide) ?_
  refine lv_iadd hx hb dL_law_690 ?_
  refine lv_topi (fun v7 ev7 => ?_)
  obtain rfl : v7 = nI (i + 1) := ev7.trans (nI_add _ 1)
  refine va_sld hx hb hX hbl hbA hS (vp_in_nI (by omega) (by omega)) dL_law_691 ?_
  refine lv_topi (fun v8 ev8 => ?_)
  refine lv_aload_n hx hb dL_law_692 rfl (lv_at hl 3 rfl) ?_
  refine lv_iload_n hx hb dL_law_693 rfl (lv_at hl 0 rfl) ?_
  refine lv_iconst (v := 2) hx hb dL_law_694 (by decide) ?_
  refine lv_iadd hx hb dL_law_695 ?_
  refine lv_topi (fun v9 ev9 => ?_)
  obtain rfl : v9 = nI (i + 2) := ev9.trans (nI_add _ 2)
  refine va_sld hx hb hX hbl hbA hS (vp_in_nI (by omega) (by omega)) dL_law_696 ?_
  refine lv_topi (fun v10 ev10 => ?_)
  obtain ⟨q9, fs9, he9⟩ := hR.recv
  have hFc := va_fr hD.lf hS hA
  refine va_calli (va_runV (As := [.int v8, .int v10]) (rest := []) ⟨hx, hb, hml, hown, hts⟩ (M_key l D _ cm m0 _ _ _ _ V v8 v10 hR) (cwV 2 hts g_L_c_keyM_70 rfl rfl rfl (by decide +kernel) ⟨(Nat.le_of_ble_eq_true rfl), (Nat.le_of_ble_eq_true rfl)⟩) (PcW_V (q0 := q9) hP.lf hKm hD.lf he9 rfl) rfl rfl hl.1 rfl (lv_room (Nat.le_of_ble_eq_true rfl)) dL_law_697 ⟨hf1, hf2⟩) hS (fun q _ h => hFc q h) hFc (fun r11 uu tt H locs htt hvm hw hB hz1 hk1 hS => ?_)
  obtain ⟨V12, rfl⟩ : ∃ z, z = uu := ⟨_, rfl⟩
  obtain ⟨hP1, hK1, hD1⟩ := hB
  rw [htt] at hP1
  obtain ⟨hP, hD⟩ := jnR hP hD hk1 hFc hP1 hD1
  have hR := hw.1
  have emR := hw.2
  have e9x : v8 = v2 := ev8.trans ev2.symm
  try rw [e9x] at hR
  try rw [e9x] at emR
  clear e9x
  have e9x : v10 = v4 := ev10.trans ev4.symm
  try rw [e9x] at hR
  try rw [e9x] at emR
  clear e9x
  refine lv_pop hx hb dL_law_700 rfl ?_
  refine lv_goto (tgt := 1727) hx hb dL_law_701 (by decide) ?_
  exact kx cells slots _ _ _ _ V12 U6 H locs ls (by omega) (by omega) hR hC hP hD hS hl

set_option maxRecDepth 20000 in
theorem g_L_m_walk_71 : GoodIn lw_tbl (wsV RL 71 RX10 yX10_walk wp_m_walk) := goodIn_sub (List.forall_mem_append.mpr ⟨List.forall_mem_cons.mpr ⟨lww_75, List.forall_mem_cons.mpr ⟨lww_76, List.forall_mem_cons.mpr ⟨lww_77, List.forall_mem_cons.mpr ⟨lww_3, fun _ h => absurd h List.not_mem_nil⟩⟩⟩⟩, in_m_walk⟩) (by decide +kernel)
set_option maxRecDepth 20000 in
theorem g_L_c_walkM_74 : GoodIn lw_tbl (wsV RL 74 RX11 yX11_walk wp_c_walkM) := goodIn_sub (List.forall_mem_append.mpr ⟨List.forall_mem_cons.mpr ⟨lww_78, List.forall_mem_cons.mpr ⟨lww_79, List.forall_mem_cons.mpr ⟨lww_80, List.forall_mem_cons.mpr ⟨lww_7, fun _ h => absurd h List.not_mem_nil⟩⟩⟩⟩, in_c_walkM⟩) (by decide +kernel)
set_option maxHeartbeats 4000000 in
set_option maxRecDepth 100000 in
theorem law_case_12 {p : Program} {e : Env} {s : State} {m : MethodId} {below : List Frame} {meth : Method} {c : Code} (l : Launch) {b L : Nat} {xs : Nat → Int32} {D : va_G} {A : Nat → Prop} {adK adV : Nat → Nat} (C0 : lw_At p s m meth c b L xs) (hL : L ≤ 3584) (hN : NC s) (hST : ST adK adV A s s.heap) (hA : ∀ q, s.heap.size ≤ q → A q) (hbA : ¬ A b) {cm : Nat → ClassId} {cI cT : ClassId} (hKm : va_K D vwCl (tyM cm) s) (hKc : va_K D vwCl [(cI, .int), (cT, .object RX9)] s) {x0 m0 i : Nat} (hi : i + 7 ≤ L) (kx : ∀ (cells slots tp : Nat) (bt : Nat → Nat) (ex : Nat → Bool) (Ls : Nat → List (Nat × Int32)) (V U : va_W) (H : Heap) (locs : List Loc) (ls : Array Slot), cells + 14 * cntE ex ≤ 200 → slots + 11072 * cntE ex ≤ 200000 → RWd cm m0 tp bt ex Ls V → CWd cI cT x0 tp bt ex Ls U → va_P D vwCl (V ++ U) H → va_D A (V ++ U) → va_S A s.heap H locs → lv_has ls 4 [(3, .int (nI i)), (2, .ref m0), (1, .ref x0), (0, .ref b)] → W p l e room_1 s m #[Value.ref b] below meth c H locs (cells) (slots) (lw_Z below #[Value.ref b] s) (F0 m 1727 ls [])) : ∀ (cells slots tp : Nat) (bt : Nat → Nat) (ex : Nat → Bool) (Ls : Nat → List (Nat × Int32)) (V U : va_W) (H : Heap) (locs : List Loc) (ls : Array Slot), cells + 14 * cntE ex ≤ 200 → slots + 11072 * cntE ex ≤ 200000 → RWd cm m0 tp bt ex Ls V → CWd cI cT x0 tp bt ex Ls U → va_P D vwCl (V ++ U) H → va_D A (V ++ U) → va_S A s.heap H locs → lv_has ls 4 [(3, .int (nI i)), (2, .ref m0), (1, .ref x0), (0, .ref b)] → W p l e room_1 s m #[Value.ref b] below meth c H locs (cells) (slots) (lw_Z below #[Value.ref b] s) (F0 m 704 ls []) := by
  intro cells slots tp bt ex Ls V U H locs ls hc9 hs9 hR hC hP hD hS hl
  have hf1 : cells ≤ room_1.cells := Nat.le_trans (show cells ≤ 200 by omega) (by decide +kernel)
  have hf2 : slots ≤ room_1.slots := Nat.le_trans (show slots ≤ 200000 by omega) (by decide +kernel)
  obtain ⟨hx, hb, hr, hml, hown, hts, hX, hbl, hlocks, hgv⟩ := id C0
  have hown : s.vm.findClass RL = some m.cls := hown
  refine lv_aload_n hx hb dL_law_704 rfl (lv_at hl 2 rfl) ?_
  refine lv_aload_n hx hb dL_law_705 rfl (lv_at hl 3 rfl) ?_
  refine lv_iload_n hx hb dL_law_706 rfl (lv_at hl 0 rfl) ?_
  refine lv_iconst (v := 1) hx hb dL_law_707 (by decide) ?_
  refine lv_iadd hx hb dL_law_708 ?_
  refine lv_topi (fun v1 ev1 => ?_)
  obtain rfl : v1 = nI (i + 1) := ev1.trans (nI_add _ 1)
  refine va_sld hx hb hX hbl hbA hS (vp_in_nI (by omega) (by omega)) dL_law_709 ?_
  refine lv_topi (fun v2 ev2 => ?_)
  refine lv_aload_n hx hb dL_law_710 rfl (lv_at hl 3 rfl) ?_
  refine lv_iload_n hx hb dL_law_711 rfl (lv_at hl 0 rfl) ?_
  refine lv_iconst (v := 2) hx hb dL_law_712 (by decide) ?_
  refine lv_iadd hx hb dL_law_713 ?_
  refine lv_topi (fun v3 ev3 => ?_)
  obtain rfl : v3 = nI (i + 2) := ev3.trans (nI_add _ 2)
  refine va_sld hx hb hX hbl hbA hS (vp_in_nI (by omega) (by omega)) dL_law_714 ?_
  refine lv_topi (fun v4 ev4 => ?_)
  obtain ⟨q9, fs9, he9⟩ := hC.recv
  have hFc := va_fr hD.rt hS hA
  refine va_calli (va_runV (As := [.int v2, .int v4]) (rest := []) ⟨hx, hb, hml, hown, hts⟩ (m_walk l D _ adK adV cI cT x0 _ _ _ _ U v2 v4 hC) (cwV 2 hts g_L_m_walk_71 rfl rfl rfl (by decide +kernel) ⟨(Nat.le_of_ble_eq_true rfl), (Nat.le_of_ble_eq_true rfl)⟩) (PcWS_V (q0 := q9) hP.rt hKc hD.rt hN hST hS hFc he9 rfl) rfl rfl hl.1 rfl (lv_room (Nat.le_of_ble_eq_true rfl)) dL_law_715 ⟨hf1, hf2⟩) hS (fun q _ h => hFc q h) hFc (fun r5 uu tt H locs htt hvm hw hB hz1 hk1 hS => ?_)
  obtain ⟨U6, rfl⟩ : ∃ z, z = uu := ⟨_, rfl⟩
  obtain ⟨hP1, hK1, hD1⟩ := hB
  rw [htt] at hP1
  obtain ⟨hP, hD⟩ := jnC hP hD hk1 hFc hP1 hD1
  have hC := hw
  refine lv_pop hx hb dL_law_718 rfl ?_
  refine lv_aload_n hx hb dL_law_719 rfl (lv_at hl 1 rfl) ?_
  refine lv_aload_n hx hb dL_law_720 rfl (lv_at hl 3 rfl) ?_
  refine lv_iload_n hx hb dL_law_721 rfl (lv_at hl 0 rfl) ?_
  refine lv_iconst (v := 1) hx hb dL_law_722 (by decide) ?_
  refine lv_iadd hx hb dL_law_723 ?_
  refine lv_topi (fun v7 ev7 => ?_)
  obtain rfl : v7 = nI (i + 1) := ev7.trans (nI_add _ 1)
  refine va_sld hx hb hX hbl hbA hS (vp_in_nI (by omega) (by omega)) dL_law_724 ?_
  refine lv_topi (fun v8 ev8 => ?_)
  refine lv_aload_n hx hb dL_law_725 rfl (lv_at hl 3 rfl) ?_
  refine lv_iload_n hx hb dL_law_726 rfl (lv_at hl 0 rfl) ?_
  refine lv_iconst (v := 2) hx hb dL_law_727 (by decide) ?_
  refine lv_iadd hx hb dL_law_728 ?_
  refine lv_topi (fun v9 ev9 => ?_)
  obtain rfl : v9 = nI (i + 2) := ev9.trans (nI_add _ 2)
  refine va_sld hx hb hX hbl hbA hS (vp_in_nI (by omega) (by omega)) dL_law_729 ?_
  refine lv_topi (fun v10 ev10 => ?_)
  obtain ⟨q9, fs9, he9⟩ := hR.recv
  have hFc := va_fr hD.lf hS hA
  refine va_calli (va_runV (As := [.int v8, .int v10]) (rest := []) ⟨hx, hb, hml, hown, hts⟩ (M_walk l D _ cm m0 _ _ _ _ V v8 v10 hR) (cwV 2 hts g_L_c_walkM_74 rfl rfl rfl (by decide +kernel) ⟨(Nat.le_of_ble_eq_true rfl), (Nat.le_of_ble_eq_true rfl)⟩) (PcW_V (q0 := q9) hP.lf hKm hD.lf he9 rfl) rfl rfl hl.1 rfl (lv_room (Nat.le_of_ble_eq_true rfl)) dL_law_730 ⟨hf1, hf2⟩) hS (fun q _ h => hFc q h) hFc (fun r11 uu tt H locs htt hvm hw hB hz1 hk1 hS => ?_)
  obtain ⟨V12, rfl⟩ : ∃ z, z = uu := ⟨_, rfl⟩
  obtain ⟨hP1, hK1, hD1⟩ := hB
  rw [htt] at hP1
  obtain ⟨hP, hD⟩ := jnR hP hD hk1 hFc hP1 hD1
  have hR := hw
  refine lv_pop hx hb dL_law_733 rfl ?_
  refine lv_goto (tgt := 1727) hx hb dL_law_734 (by decide) ?_
  exact kx cells slots _ _ _ _ V12 U6 H locs ls (by omega) (by omega) hR hC hP hD hS hl

