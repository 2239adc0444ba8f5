theorem dL_law_492 : decode cL_law 492 = .ok (.lastore, 1) := by decide +kernel
theorem dL_law_493 : decode cL_law 493 = .ok (.iconst 0, 1) := by decide +kernel
theorem dL_law_494 : decode cL_law 494 = .ok (.istore 20, 2) := by decide +kernel
theorem dL_law_496 : decode cL_law 496 = .ok (.iload 20, 2) := by decide +kernel
theorem dL_law_498 : decode cL_law 498 = .ok (.iload 19, 2) := by decide +kernel
theorem dL_law_500 : decode cL_law 500 = .ok (.if_icmp .ge 24, 3) := by decide +kernel
theorem dL_law_503 : decode cL_law 503 = .ok (.aload_n 3, 1) := by decide +kernel
theorem dL_law_504 : decode cL_law 504 = .ok (.iload_n 2, 1) := by decide +kernel
theorem dL_law_505 : decode cL_law 505 = .ok (.aload 4, 2) := by decide +kernel
theorem dL_law_507 : decode cL_law 507 = .ok (.aload 8, 2) := by decide +kernel
theorem dL_law_509 : decode cL_law 509 = .ok (.aload 9, 2) := by decide +kernel
theorem dL_law_511 : decode cL_law 511 = .ok (.aload 10, 2) := by decide +kernel
theorem dL_law_513 : decode cL_law 513 = .ok (.aload 12, 2) := by decide +kernel
theorem dL_law_515 : decode cL_law 515 = .ok (.invokestatic 88, 3) := by decide +kernel
theorem dL_law_518 : decode cL_law 518 = .ok (.iinc 20 1, 3) := by decide +kernel
theorem dL_law_521 : decode cL_law 521 = .ok (.goto (-25), 3) := by decide +kernel
theorem dL_law_524 : decode cL_law 524 = .ok (.iconst 0, 1) := by decide +kernel
theorem dL_law_525 : decode cL_law 525 = .ok (.istore 20, 2) := by decide +kernel
theorem dL_law_527 : decode cL_law 527 = .ok (.iload 20, 2) := by decide +kernel
theorem dL_law_529 : decode cL_law 529 = .ok (.bipush 7, 2) := by decide +kernel
theorem dL_law_531 : decode cL_law 531 = .ok (.if_icmp .ge 46, 3) := by decide +kernel
theorem dL_law_534 : decode cL_law 534 = .ok (.aload_n 1, 1) := by decide +kernel
theorem dL_law_535 : decode cL_law 535 = .ok (.iload 18, 2) := by decide +kernel
theorem dL_law_537 : decode cL_law 537 = .ok (.iload 20, 2) := by decide +kernel
theorem dL_law_539 : decode cL_law 539 = .ok (.iload 19, 2) := by decide +kernel
theorem dL_law_541 : decode cL_law 541 = .ok (.invokevirtual 92, 3) := by decide +kernel
theorem dL_law_544 : decode cL_law 544 = .ok (.aload 8, 2) := by decide +kernel
theorem dL_law_546 : decode cL_law 546 = .ok (.iload 20, 2) := by decide +kernel
theorem dL_law_548 : decode cL_law 548 = .ok (.iaload, 1) := by decide +kernel
theorem dL_law_549 : decode cL_law 549 = .ok (.if_icmp .ne 20, 3) := by decide +kernel
theorem dL_law_552 : decode cL_law 552 = .ok (.aload_n 1, 1) := by decide +kernel
theorem dL_law_553 : decode cL_law 553 = .ok (.iload 18, 2) := by decide +kernel
theorem dL_law_555 : decode cL_law 555 = .ok (.iload 20, 2) := by decide +kernel
theorem dL_law_557 : decode cL_law 557 = .ok (.iconst 0, 1) := by decide +kernel
theorem dL_law_558 : decode cL_law 558 = .ok (.invokevirtual 92, 3) := by decide +kernel
theorem dL_law_561 : decode cL_law 561 = .ok (.aload 5, 2) := by decide +kernel
theorem dL_law_563 : decode cL_law 563 = .ok (.iload 20, 2) := by decide +kernel
theorem dL_law_565 : decode cL_law 565 = .ok (.iaload, 1) := by decide +kernel
theorem dL_law_566 : decode cL_law 566 = .ok (.if_icmp .eq 5, 3) := by decide +kernel
theorem dL_law_569 : decode cL_law 569 = .ok (.iconst 0, 1) := by decide +kernel
theorem dL_law_570 : decode cL_law 570 = .ok (.ireturn, 1) := by decide +kernel
theorem dL_law_571 : decode cL_law 571 = .ok (.iinc 20 1, 3) := by decide +kernel
theorem dL_law_574 : decode cL_law 574 = .ok (.goto (-47), 3) := by decide +kernel
theorem dL_law_577 : decode cL_law 577 = .ok (.iload 15, 2) := by decide +kernel
theorem dL_law_579 : decode cL_law 579 = .ok (.bipush 8, 2) := by decide +kernel
theorem dL_law_581 : decode cL_law 581 = .ok (.irem, 1) := by decide +kernel
theorem dL_law_582 : decode cL_law 582 = .ok (.iconst 3, 1) := by decide +kernel
theorem dL_law_583 : decode cL_law 583 = .ok (.if_icmp .le 50, 3) := by decide +kernel
theorem dL_law_586 : decode cL_law 586 = .ok (.aload 8, 2) := by decide +kernel
theorem dL_law_588 : decode cL_law 588 = .ok (.aload 5, 2) := by decide +kernel
theorem dL_law_590 : decode cL_law 590 = .ok (.invokestatic 84, 3) := by decide +kernel
theorem dL_law_593 : decode cL_law 593 = .ok (.aload 9, 2) := by decide +kernel
theorem dL_law_595 : decode cL_law 595 = .ok (.aload 6, 2) := by decide +kernel
theorem dL_law_597 : decode cL_law 597 = .ok (.invokestatic 84, 3) := by decide +kernel
theorem dL_law_600 : decode cL_law 600 = .ok (.aload 10, 2) := by decide +kernel
theorem dL_law_602 : decode cL_law 602 = .ok (.aload 7, 2) := by decide +kernel
theorem dL_law_604 : decode cL_law 604 = .ok (.invokestatic 84, 3) := by decide +kernel
theorem dL_law_607 : decode cL_law 607 = .ok (.aload 11, 2) := by decide +kernel
theorem dL_law_609 : decode cL_law 609 = .ok (.iconst 0, 1) := by decide +kernel
theorem dL_law_610 : decode cL_law 610 = .ok (.aload 12, 2) := by decide +kernel
theorem dL_law_612 : decode cL_law 612 = .ok (.iconst 0, 1) := by decide +kernel
theorem dL_law_613 : decode cL_law 613 = .ok (.laload, 1) := by decide +kernel
theorem dL_law_614 : decode cL_law 614 = .ok (.lastore, 1) := by decide +kernel
theorem dL_law_615 : decode cL_law 615 = .ok (.aload_n 1, 1) := by decide +kernel
theorem dL_law_616 : decode cL_law 616 = .ok (.iload 18, 2) := by decide +kernel
theorem dL_law_618 : decode cL_law 618 = .ok (.iload 19, 2) := by decide +kernel
theorem dL_law_620 : decode cL_law 620 = .ok (.invokevirtual 96, 3) := by decide +kernel
theorem dL_law_623 : decode cL_law 623 = .ok (.aload 5, 2) := by decide +kernel
theorem dL_law_625 : decode cL_law 625 = .ok (.invokestatic 99, 3) := by decide +kernel
theorem dL_law_628 : decode cL_law 628 = .ok (.if_icmp .eq 5, 3) := by decide +kernel
theorem dL_law_631 : decode cL_law 631 = .ok (.iconst 0, 1) := by decide +kernel
theorem dL_law_632 : decode cL_law 632 = .ok (.ireturn, 1) := by decide +kernel
theorem dL_law_633 : decode cL_law 633 = .ok (.iconst 0, 1) := by decide +kernel
theorem dL_law_634 : decode cL_law 634 = .ok (.istore 20, 2) := by decide +kernel
theorem dL_law_636 : decode cL_law 636 = .ok (.iload 20, 2) := by decide +kernel
theorem dL_law_638 : decode cL_law 638 = .ok (.bipush 7, 2) := by decide +kernel
theorem dL_law_640 : decode cL_law 640 = .ok (.if_icmp .ge 182, 3) := by decide +kernel
theorem dL_law_643 : decode cL_law 643 = .ok (.aload_n 1, 1) := by decide +kernel
theorem dL_law_644 : decode cL_law 644 = .ok (.iload 20, 2) := by decide +kernel
theorem dL_law_646 : decode cL_law 646 = .ok (.invokevirtual 103, 3) := by decide +kernel
theorem dL_law_649 : decode cL_law 649 = .ok (.aload 5, 2) := by decide +kernel
theorem dL_law_651 : decode cL_law 651 = .ok (.iload 20, 2) := by decide +kernel
theorem dL_law_653 : decode cL_law 653 = .ok (.iaload, 1) := by decide +kernel
theorem dL_law_654 : decode cL_law 654 = .ok (.if_icmp .ne 28, 3) := by decide +kernel
theorem dL_law_657 : decode cL_law 657 = .ok (.aload 5, 2) := by decide +kernel
theorem dL_law_659 : decode cL_law 659 = .ok (.iload 20, 2) := by decide +kernel
theorem dL_law_661 : decode cL_law 661 = .ok (.iaload, 1) := by decide +kernel
theorem dL_law_662 : decode cL_law 662 = .ok (.bipush 60, 2) := by decide +kernel
theorem dL_law_664 : decode cL_law 664 = .ok (.if_icmp .ge 20, 3) := by decide +kernel
theorem dL_law_667 : decode cL_law 667 = .ok (.aload_n 1, 1) := by decide +kernel
theorem dL_law_668 : decode cL_law 668 = .ok (.iload 20, 2) := by decide +kernel
theorem dL_law_670 : decode cL_law 670 = .ok (.aload 5, 2) := by decide +kernel
theorem dL_law_672 : decode cL_law 672 = .ok (.iload 20, 2) := by decide +kernel
theorem dL_law_674 : decode cL_law 674 = .ok (.iaload, 1) := by decide +kernel
theorem dL_law_675 : decode cL_law 675 = .ok (.invokevirtual 106, 3) := by decide +kernel
theorem dL_law_678 : decode cL_law 678 = .ok (.iconst (-1), 1) := by decide +kernel
theorem dL_law_679 : decode cL_law 679 = .ok (.if_icmp .eq 5, 3) := by decide +kernel
theorem dL_law_682 : decode cL_law 682 = .ok (.iconst 0, 1) := by decide +kernel
theorem dL_law_683 : decode cL_law 683 = .ok (.ireturn, 1) := by decide +kernel
theorem dL_law_684 : decode cL_law 684 = .ok (.iconst 0, 1) := by decide +kernel
theorem dL_law_685 : decode cL_law 685 = .ok (.istore 21, 2) := by decide +kernel
theorem dL_law_687 : decode cL_law 687 = .ok (.iconst 0, 1) := by decide +kernel
theorem dL_law_688 : decode cL_law 688 = .ok (.istore 22, 2) := by decide +kernel
theorem dL_law_690 : decode cL_law 690 = .ok (.iload 22, 2) := by decide +kernel
theorem dL_law_692 : decode cL_law 692 = .ok (.aload 5, 2) := by decide +kernel
theorem dL_law_694 : decode cL_law 694 = .ok (.iload 20, 2) := by decide +kernel
theorem dL_law_696 : decode cL_law 696 = .ok (.iaload, 1) := by decide +kernel
theorem dL_law_697 : decode cL_law 697 = .ok (.if_icmp .ge 94, 3) := by decide +kernel
theorem dL_law_700 : decode cL_law 700 = .ok (.iload 22, 2) := by decide +kernel
theorem dL_law_702 : decode cL_law 702 = .ok (.bipush 9, 2) := by decide +kernel
theorem dL_law_704 : decode cL_law 704 = .ok (.if_icmp .ge 87, 3) := by decide +kernel
theorem dL_law_707 : decode cL_law 707 = .ok (.iload 21, 2) := by decide +kernel
theorem dL_law_709 : decode cL_law 709 = .ok (.aload 6, 2) := by decide +kernel
theorem dL_law_711 : decode cL_law 711 = .ok (.bipush 9, 2) := by decide +kernel
theorem dL_law_713 : decode cL_law 713 = .ok (.iload 20, 2) := by decide +kernel
theorem dL_law_715 : decode cL_law 715 = .ok (.imul, 1) := by decide +kernel
theorem dL_law_716 : decode cL_law 716 = .ok (.iload 22, 2) := by decide +kernel
theorem dL_law_718 : decode cL_law 718 = .ok (.iadd, 1) := by decide +kernel
theorem dL_law_719 : decode cL_law 719 = .ok (.iaload, 1) := by decide +kernel
theorem dL_law_720 : decode cL_law 720 = .ok (.aload 7, 2) := by decide +kernel
theorem dL_law_722 : decode cL_law 722 = .ok (.iconst 0, 1) := by decide +kernel
theorem dL_law_723 : decode cL_law 723 = .ok (.iaload, 1) := by decide +kernel
theorem dL_law_724 : decode cL_law 724 = .ok (.if_icmp .ne 7, 3) := by decide +kernel
theorem dL_law_727 : decode cL_law 727 = .ok (.iconst 1, 1) := by decide +kernel
theorem dL_law_728 : decode cL_law 728 = .ok (.goto 4, 3) := by decide +kernel
theorem dL_law_731 : decode cL_law 731 = .ok (.iconst 0, 1) := by decide +kernel
theorem dL_law_732 : decode cL_law 732 = .ok (.iadd, 1) := by decide +kernel
theorem dL_law_733 : decode cL_law 733 = .ok (.istore 21, 2) := by decide +kernel
theorem dL_law_735 : decode cL_law 735 = .ok (.aload 5, 2) := by decide +kernel
theorem dL_law_737 : decode cL_law 737 = .ok (.iload 20, 2) := by decide +kernel
theorem dL_law_739 : decode cL_law 739 = .ok (.iaload, 1) := by decide +kernel
theorem dL_law_740 : decode cL_law 740 = .ok (.bipush 10, 2) := by decide +kernel
theorem dL_law_742 : decode cL_law 742 = .ok (.if_icmp .ge 43, 3) := by decide +kernel
theorem dL_law_745 : decode cL_law 745 = .ok (.aload 7, 2) := by decide +kernel
theorem dL_law_747 : decode cL_law 747 = .ok (.bipush 6, 2) := by decide +kernel
theorem dL_law_749 : decode cL_law 749 = .ok (.iaload, 1) := by decide +kernel
theorem dL_law_750 : decode cL_law 750 = .ok (.ifCond .ne 35, 3) := by decide +kernel
theorem dL_law_753 : decode cL_law 753 = .ok (.aload_n 1, 1) := by decide +kernel
theorem dL_law_754 : decode cL_law 754 = .ok (.iload 20, 2) := by decide +kernel
theorem dL_law_756 : decode cL_law 756 = .ok (.aload 5, 2) := by decide +kernel
theorem dL_law_758 : decode cL_law 758 = .ok (.iload 20, 2) := by decide +kernel
theorem dL_law_760 : decode cL_law 760 = .ok (.iaload, 1) := by decide +kernel
theorem dL_law_761 : decode cL_law 761 = .ok (.iconst 1, 1) := by decide +kernel
theorem dL_law_762 : decode cL_law 762 = .ok (.isub, 1) := by decide +kernel
theorem dL_law_763 : decode cL_law 763 = .ok (.iload 22, 2) := by decide +kernel
theorem dL_law_765 : decode cL_law 765 = .ok (.isub, 1) := by decide +kernel
theorem dL_law_766 : decode cL_law 766 = .ok (.invokevirtual 106, 3) := by decide +kernel
theorem dL_law_769 : decode cL_law 769 = .ok (.aload 6, 2) := by decide +kernel
theorem dL_law_771 : decode cL_law 771 = .ok (.bipush 9, 2) := by decide +kernel
theorem dL_law_773 : decode cL_law 773 = .ok (.iload 20, 2) := by decide +kernel
theorem dL_law_775 : decode cL_law 775 = .ok (.imul, 1) := by decide +kernel
theorem dL_law_776 : decode cL_law 776 = .ok (.iload 22, 2) := by decide +kernel
theorem dL_law_778 : decode cL_law 778 = .ok (.iadd, 1) := by decide +kernel
theorem dL_law_779 : decode cL_law 779 = .ok (.iaload, 1) := by decide +kernel
theorem dL_law_780 : decode cL_law 780 = .ok (.if_icmp .eq 5, 3) := by decide +kernel
theorem dL_law_783 : decode cL_law 783 = .ok (.iconst 0, 1) := by decide +kernel
theorem dL_law_784 : decode cL_law 784 = .ok (.ireturn, 1) := by decide +kernel
theorem dL_law_785 : decode cL_law 785 = .ok (.iinc 22 1, 3) := by decide +kernel
theorem dL_law_788 : decode cL_law 788 = .ok (.goto (-98), 3) := by decide +kernel
theorem dL_law_791 : decode cL_law 791 = .ok (.aload 7, 2) := by decide +kernel
theorem dL_law_793 : decode cL_law 793 = .ok (.bipush 6, 2) := by decide +kernel
theorem dL_law_795 : decode cL_law 795 = .ok (.iaload, 1) := by decide +kernel
theorem dL_law_796 : decode cL_law 796 = .ok (.ifCond .ne 20, 3) := by decide +kernel
theorem dL_law_799 : decode cL_law 799 = .ok (.aload_n 1, 1) := by decide +kernel
theorem dL_law_800 : decode cL_law 800 = .ok (.iload 20, 2) := by decide +kernel
theorem dL_law_802 : decode cL_law 802 = .ok (.aload 7, 2) := by decide +kernel
theorem dL_law_804 : decode cL_law 804 = .ok (.iconst 0, 1) := by decide +kernel
theorem dL_law_805 : decode cL_law 805 = .ok (.iaload, 1) := by decide +kernel
theorem dL_law_806 : decode cL_law 806 = .ok (.invokevirtual 109, 3) := by decide +kernel
theorem dL_law_809 : decode cL_law 809 = .ok (.iload 21, 2) := by decide +kernel
theorem dL_law_811 : decode cL_law 811 = .ok (.if_icmp .eq 5, 3) := by decide +kernel
theorem dL_law_814 : decode cL_law 814 = .ok (.iconst 0, 1) := by decide +kernel
theorem dL_law_815 : decode cL_law 815 = .ok (.ireturn, 1) := by decide +kernel
theorem dL_law_816 : decode cL_law 816 = .ok (.iinc 20 1, 3) := by decide +kernel
theorem dL_law_819 : decode cL_law 819 = .ok (.goto (-183), 3) := by decide +kernel
theorem dL_law_822 : decode cL_law 822 = .ok (.aload_n 1, 1) := by decide +kernel
theorem dL_law_823 : decode cL_law 823 = .ok (.iconst 2, 1) := by decide +kernel
theorem dL_law_824 : decode cL_law 824 = .ok (.invokevirtual 28, 3) := by decide +kernel
theorem dL_law_827 : decode cL_law 827 = .ok (.aload 5, 2) := by decide +kernel
theorem dL_law_829 : decode cL_law 829 = .ok (.invokestatic 99, 3) := by decide +kernel
theorem dL_law_832 : decode cL_law 832 = .ok (.if_icmp .ne 102, 3) := by decide +kernel
theorem dL_law_835 : decode cL_law 835 = .ok (.aload_n 1, 1) := by decide +kernel
theorem dL_law_836 : decode cL_law 836 = .ok (.iconst 3, 1) := by decide +kernel
theorem dL_law_837 : decode cL_law 837 = .ok (.invokevirtual 28, 3) := by decide +kernel
theorem dL_law_840 : decode cL_law 840 = .ok (.aload 7, 2) := by decide +kernel
