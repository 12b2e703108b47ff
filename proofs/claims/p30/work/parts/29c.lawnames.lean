theorem dL_acts_534 : decode cL_acts 534 = .ok (.aload_n 1, 1) := by decide +kernel
theorem dL_acts_535 : decode cL_acts 535 = .ok (.aload_n 2, 1) := by decide +kernel
theorem dL_acts_536 : decode cL_acts 536 = .ok (.invokestatic 113, 3) := by decide +kernel
theorem dL_acts_539 : decode cL_acts 539 = .ok (.istore 9, 2) := by decide +kernel
theorem dL_acts_541 : decode cL_acts 541 = .ok (.aload_n 1, 1) := by decide +kernel
theorem dL_acts_542 : decode cL_acts 542 = .ok (.aload_n 2, 1) := by decide +kernel
theorem dL_acts_543 : decode cL_acts 543 = .ok (.aload_n 3, 1) := by decide +kernel
theorem dL_acts_544 : decode cL_acts 544 = .ok (.invokestatic 90, 3) := by decide +kernel
theorem dL_acts_547 : decode cL_acts 547 = .ok (.aload_n 0, 1) := by decide +kernel
theorem dL_acts_548 : decode cL_acts 548 = .ok (.aload_n 1, 1) := by decide +kernel
theorem dL_acts_549 : decode cL_acts 549 = .ok (.iconst 1, 1) := by decide +kernel
theorem dL_acts_550 : decode cL_acts 550 = .ok (.iaload, 1) := by decide +kernel
theorem dL_acts_551 : decode cL_acts 551 = .ok (.invokestatic 116, 3) := by decide +kernel
theorem dL_acts_554 : decode cL_acts 554 = .ok (.iload 9, 2) := by decide +kernel
theorem dL_acts_556 : decode cL_acts 556 = .ok (.if_icmp .ne 7, 3) := by decide +kernel
theorem dL_acts_559 : decode cL_acts 559 = .ok (.iconst 1, 1) := by decide +kernel
theorem dL_acts_560 : decode cL_acts 560 = .ok (.goto 4, 3) := by decide +kernel
theorem dL_acts_563 : decode cL_acts 563 = .ok (.iconst 0, 1) := by decide +kernel
theorem dL_acts_564 : decode cL_acts 564 = .ok (.ireturn, 1) := by decide +kernel
theorem dL_acts_565 : decode cL_acts 565 = .ok (.iload 6, 2) := by decide +kernel
theorem dL_acts_567 : decode cL_acts 567 = .ok (.bipush 19, 2) := by decide +kernel
theorem dL_acts_569 : decode cL_acts 569 = .ok (.if_icmp .ne 51, 3) := by decide +kernel
theorem dL_acts_572 : decode cL_acts 572 = .ok (.aload_n 1, 1) := by decide +kernel
theorem dL_acts_573 : decode cL_acts 573 = .ok (.iconst 2, 1) := by decide +kernel
theorem dL_acts_574 : decode cL_acts 574 = .ok (.iload 5, 2) := by decide +kernel
theorem dL_acts_576 : decode cL_acts 576 = .ok (.iconst 2, 1) := by decide +kernel
theorem dL_acts_577 : decode cL_acts 577 = .ok (.irem, 1) := by decide +kernel
theorem dL_acts_578 : decode cL_acts 578 = .ok (.iastore, 1) := by decide +kernel
theorem dL_acts_579 : decode cL_acts 579 = .ok (.aload_n 1, 1) := by decide +kernel
theorem dL_acts_580 : decode cL_acts 580 = .ok (.aload_n 2, 1) := by decide +kernel
theorem dL_acts_581 : decode cL_acts 581 = .ok (.invokestatic 109, 3) := by decide +kernel
theorem dL_acts_584 : decode cL_acts 584 = .ok (.istore 9, 2) := by decide +kernel
theorem dL_acts_586 : decode cL_acts 586 = .ok (.aload_n 1, 1) := by decide +kernel
theorem dL_acts_587 : decode cL_acts 587 = .ok (.aload_n 2, 1) := by decide +kernel
theorem dL_acts_588 : decode cL_acts 588 = .ok (.aload_n 3, 1) := by decide +kernel
theorem dL_acts_589 : decode cL_acts 589 = .ok (.invokestatic 90, 3) := by decide +kernel
theorem dL_acts_592 : decode cL_acts 592 = .ok (.aload_n 0, 1) := by decide +kernel
theorem dL_acts_593 : decode cL_acts 593 = .ok (.iload 5, 2) := by decide +kernel
theorem dL_acts_595 : decode cL_acts 595 = .ok (.iconst 2, 1) := by decide +kernel
theorem dL_acts_596 : decode cL_acts 596 = .ok (.irem, 1) := by decide +kernel
theorem dL_acts_597 : decode cL_acts 597 = .ok (.iconst 1, 1) := by decide +kernel
theorem dL_acts_598 : decode cL_acts 598 = .ok (.if_icmp .ne 7, 3) := by decide +kernel
theorem dL_acts_601 : decode cL_acts 601 = .ok (.iconst 1, 1) := by decide +kernel
theorem dL_acts_602 : decode cL_acts 602 = .ok (.goto 4, 3) := by decide +kernel
theorem dL_acts_605 : decode cL_acts 605 = .ok (.iconst 0, 1) := by decide +kernel
theorem dL_acts_606 : decode cL_acts 606 = .ok (.invokevirtual 119, 3) := by decide +kernel
theorem dL_acts_609 : decode cL_acts 609 = .ok (.iload 9, 2) := by decide +kernel
theorem dL_acts_611 : decode cL_acts 611 = .ok (.if_icmp .ne 7, 3) := by decide +kernel
theorem dL_acts_614 : decode cL_acts 614 = .ok (.iconst 1, 1) := by decide +kernel
theorem dL_acts_615 : decode cL_acts 615 = .ok (.goto 4, 3) := by decide +kernel
theorem dL_acts_618 : decode cL_acts 618 = .ok (.iconst 0, 1) := by decide +kernel
theorem dL_acts_619 : decode cL_acts 619 = .ok (.ireturn, 1) := by decide +kernel
theorem dL_acts_620 : decode cL_acts 620 = .ok (.iload 6, 2) := by decide +kernel
theorem dL_acts_622 : decode cL_acts 622 = .ok (.bipush 20, 2) := by decide +kernel
theorem dL_acts_624 : decode cL_acts 624 = .ok (.if_icmp .ne 53, 3) := by decide +kernel
theorem dL_acts_627 : decode cL_acts 627 = .ok (.aload_n 1, 1) := by decide +kernel
theorem dL_acts_628 : decode cL_acts 628 = .ok (.iconst 3, 1) := by decide +kernel
theorem dL_acts_629 : decode cL_acts 629 = .ok (.iload 5, 2) := by decide +kernel
theorem dL_acts_631 : decode cL_acts 631 = .ok (.iconst 2, 1) := by decide +kernel
theorem dL_acts_632 : decode cL_acts 632 = .ok (.irem, 1) := by decide +kernel
theorem dL_acts_633 : decode cL_acts 633 = .ok (.iastore, 1) := by decide +kernel
theorem dL_acts_634 : decode cL_acts 634 = .ok (.aload_n 1, 1) := by decide +kernel
theorem dL_acts_635 : decode cL_acts 635 = .ok (.iconst 4, 1) := by decide +kernel
theorem dL_acts_636 : decode cL_acts 636 = .ok (.iaload, 1) := by decide +kernel
theorem dL_acts_637 : decode cL_acts 637 = .ok (.istore 9, 2) := by decide +kernel
theorem dL_acts_639 : decode cL_acts 639 = .ok (.aload_n 1, 1) := by decide +kernel
theorem dL_acts_640 : decode cL_acts 640 = .ok (.aload_n 2, 1) := by decide +kernel
theorem dL_acts_641 : decode cL_acts 641 = .ok (.aload_n 3, 1) := by decide +kernel
theorem dL_acts_642 : decode cL_acts 642 = .ok (.invokestatic 90, 3) := by decide +kernel
theorem dL_acts_645 : decode cL_acts 645 = .ok (.aload_n 0, 1) := by decide +kernel
theorem dL_acts_646 : decode cL_acts 646 = .ok (.iload 5, 2) := by decide +kernel
theorem dL_acts_648 : decode cL_acts 648 = .ok (.iconst 2, 1) := by decide +kernel
theorem dL_acts_649 : decode cL_acts 649 = .ok (.irem, 1) := by decide +kernel
theorem dL_acts_650 : decode cL_acts 650 = .ok (.iconst 1, 1) := by decide +kernel
theorem dL_acts_651 : decode cL_acts 651 = .ok (.if_icmp .ne 7, 3) := by decide +kernel
theorem dL_acts_654 : decode cL_acts 654 = .ok (.iconst 1, 1) := by decide +kernel
theorem dL_acts_655 : decode cL_acts 655 = .ok (.goto 4, 3) := by decide +kernel
theorem dL_acts_658 : decode cL_acts 658 = .ok (.iconst 0, 1) := by decide +kernel
theorem dL_acts_659 : decode cL_acts 659 = .ok (.invokevirtual 123, 3) := by decide +kernel
theorem dL_acts_662 : decode cL_acts 662 = .ok (.aload_n 1, 1) := by decide +kernel
theorem dL_acts_663 : decode cL_acts 663 = .ok (.iconst 4, 1) := by decide +kernel
theorem dL_acts_664 : decode cL_acts 664 = .ok (.iaload, 1) := by decide +kernel
theorem dL_acts_665 : decode cL_acts 665 = .ok (.iload 9, 2) := by decide +kernel
theorem dL_acts_667 : decode cL_acts 667 = .ok (.isub, 1) := by decide +kernel
theorem dL_acts_668 : decode cL_acts 668 = .ok (.if_icmp .ne 7, 3) := by decide +kernel
theorem dL_acts_671 : decode cL_acts 671 = .ok (.iconst 1, 1) := by decide +kernel
theorem dL_acts_672 : decode cL_acts 672 = .ok (.goto 4, 3) := by decide +kernel
theorem dL_acts_675 : decode cL_acts 675 = .ok (.iconst 0, 1) := by decide +kernel
theorem dL_acts_676 : decode cL_acts 676 = .ok (.ireturn, 1) := by decide +kernel
theorem dL_acts_677 : decode cL_acts 677 = .ok (.iload 6, 2) := by decide +kernel
theorem dL_acts_679 : decode cL_acts 679 = .ok (.bipush 21, 2) := by decide +kernel
theorem dL_acts_681 : decode cL_acts 681 = .ok (.if_icmp .ne 22, 3) := by decide +kernel
theorem dL_acts_684 : decode cL_acts 684 = .ok (.aload_n 0, 1) := by decide +kernel
theorem dL_acts_685 : decode cL_acts 685 = .ok (.invokevirtual 126, 3) := by decide +kernel
theorem dL_acts_688 : decode cL_acts 688 = .ok (.aload_n 1, 1) := by decide +kernel
theorem dL_acts_689 : decode cL_acts 689 = .ok (.aload_n 2, 1) := by decide +kernel
theorem dL_acts_690 : decode cL_acts 690 = .ok (.aload_n 3, 1) := by decide +kernel
theorem dL_acts_691 : decode cL_acts 691 = .ok (.invokestatic 64, 3) := by decide +kernel
theorem dL_acts_694 : decode cL_acts 694 = .ok (.if_icmp .ne 7, 3) := by decide +kernel
theorem dL_acts_697 : decode cL_acts 697 = .ok (.iconst 1, 1) := by decide +kernel
theorem dL_acts_698 : decode cL_acts 698 = .ok (.goto 4, 3) := by decide +kernel
theorem dL_acts_701 : decode cL_acts 701 = .ok (.iconst 0, 1) := by decide +kernel
theorem dL_acts_702 : decode cL_acts 702 = .ok (.ireturn, 1) := by decide +kernel
theorem dL_acts_703 : decode cL_acts 703 = .ok (.iload 6, 2) := by decide +kernel
theorem dL_acts_705 : decode cL_acts 705 = .ok (.bipush 22, 2) := by decide +kernel
theorem dL_acts_707 : decode cL_acts 707 = .ok (.if_icmp .ne 29, 3) := by decide +kernel
theorem dL_acts_710 : decode cL_acts 710 = .ok (.iload 5, 2) := by decide +kernel
theorem dL_acts_712 : decode cL_acts 712 = .ok (.iconst 3, 1) := by decide +kernel
theorem dL_acts_713 : decode cL_acts 713 = .ok (.irem, 1) := by decide +kernel
theorem dL_acts_714 : decode cL_acts 714 = .ok (.ifCond .ne 22, 3) := by decide +kernel
theorem dL_acts_717 : decode cL_acts 717 = .ok (.aload_n 0, 1) := by decide +kernel
theorem dL_acts_718 : decode cL_acts 718 = .ok (.invokevirtual 129, 3) := by decide +kernel
theorem dL_acts_721 : decode cL_acts 721 = .ok (.aload_n 1, 1) := by decide +kernel
theorem dL_acts_722 : decode cL_acts 722 = .ok (.aload_n 2, 1) := by decide +kernel
theorem dL_acts_723 : decode cL_acts 723 = .ok (.aload_n 3, 1) := by decide +kernel
theorem dL_acts_724 : decode cL_acts 724 = .ok (.invokestatic 68, 3) := by decide +kernel
theorem dL_acts_727 : decode cL_acts 727 = .ok (.if_icmp .ne 7, 3) := by decide +kernel
theorem dL_acts_730 : decode cL_acts 730 = .ok (.iconst 1, 1) := by decide +kernel
theorem dL_acts_731 : decode cL_acts 731 = .ok (.goto 4, 3) := by decide +kernel
theorem dL_acts_734 : decode cL_acts 734 = .ok (.iconst 0, 1) := by decide +kernel
theorem dL_acts_735 : decode cL_acts 735 = .ok (.ireturn, 1) := by decide +kernel
theorem dL_acts_736 : decode cL_acts 736 = .ok (.iconst 3, 1) := by decide +kernel
theorem dL_acts_737 : decode cL_acts 737 = .ok (.newarray .int, 2) := by decide +kernel
theorem dL_acts_739 : decode cL_acts 739 = .ok (.astore 9, 2) := by decide +kernel
theorem dL_acts_741 : decode cL_acts 741 = .ok (.iload 5, 2) := by decide +kernel
theorem dL_acts_743 : decode cL_acts 743 = .ok (.iconst 2, 1) := by decide +kernel
theorem dL_acts_744 : decode cL_acts 744 = .ok (.irem, 1) := by decide +kernel
theorem dL_acts_745 : decode cL_acts 745 = .ok (.ifCond .ne 22, 3) := by decide +kernel
theorem dL_acts_748 : decode cL_acts 748 = .ok (.aload_n 1, 1) := by decide +kernel
theorem dL_acts_749 : decode cL_acts 749 = .ok (.iconst 0, 1) := by decide +kernel
theorem dL_acts_750 : decode cL_acts 750 = .ok (.iaload, 1) := by decide +kernel
theorem dL_acts_751 : decode cL_acts 751 = .ok (.ifCond .le 16, 3) := by decide +kernel
theorem dL_acts_754 : decode cL_acts 754 = .ok (.aload_n 2, 1) := by decide +kernel
theorem dL_acts_755 : decode cL_acts 755 = .ok (.iload 5, 2) := by decide +kernel
theorem dL_acts_757 : decode cL_acts 757 = .ok (.iconst 2, 1) := by decide +kernel
theorem dL_acts_758 : decode cL_acts 758 = .ok (.idiv, 1) := by decide +kernel
theorem dL_acts_759 : decode cL_acts 759 = .ok (.aload_n 1, 1) := by decide +kernel
theorem dL_acts_760 : decode cL_acts 760 = .ok (.iconst 0, 1) := by decide +kernel
theorem dL_acts_761 : decode cL_acts 761 = .ok (.iaload, 1) := by decide +kernel
theorem dL_acts_762 : decode cL_acts 762 = .ok (.irem, 1) := by decide +kernel
theorem dL_acts_763 : decode cL_acts 763 = .ok (.laload, 1) := by decide +kernel
theorem dL_acts_764 : decode cL_acts 764 = .ok (.goto 5, 3) := by decide +kernel
theorem dL_acts_767 : decode cL_acts 767 = .ok (.lload 7, 2) := by decide +kernel
theorem dL_acts_769 : decode cL_acts 769 = .ok (.lstore 7, 2) := by decide +kernel
theorem dL_acts_771 : decode cL_acts 771 = .ok (.aload_n 1, 1) := by decide +kernel
theorem dL_acts_772 : decode cL_acts 772 = .ok (.aload_n 2, 1) := by decide +kernel
theorem dL_acts_773 : decode cL_acts 773 = .ok (.lload 7, 2) := by decide +kernel
theorem dL_acts_775 : decode cL_acts 775 = .ok (.aload 9, 2) := by decide +kernel
theorem dL_acts_777 : decode cL_acts 777 = .ok (.invokestatic 131, 3) := by decide +kernel
theorem dL_acts_780 : decode cL_acts 780 = .ok (.istore 10, 2) := by decide +kernel
theorem dL_acts_782 : decode cL_acts 782 = .ok (.aload_n 1, 1) := by decide +kernel
theorem dL_acts_783 : decode cL_acts 783 = .ok (.iconst 5, 1) := by decide +kernel
theorem dL_acts_784 : decode cL_acts 784 = .ok (.dup2, 1) := by decide +kernel
theorem dL_acts_785 : decode cL_acts 785 = .ok (.iaload, 1) := by decide +kernel
theorem dL_acts_786 : decode cL_acts 786 = .ok (.aload 9, 2) := by decide +kernel
theorem dL_acts_788 : decode cL_acts 788 = .ok (.iconst 0, 1) := by decide +kernel
theorem dL_acts_789 : decode cL_acts 789 = .ok (.iaload, 1) := by decide +kernel
theorem dL_acts_790 : decode cL_acts 790 = .ok (.iadd, 1) := by decide +kernel
theorem dL_acts_791 : decode cL_acts 791 = .ok (.iastore, 1) := by decide +kernel
theorem dL_acts_792 : decode cL_acts 792 = .ok (.aload_n 0, 1) := by decide +kernel
theorem dL_acts_793 : decode cL_acts 793 = .ok (.lload 7, 2) := by decide +kernel
theorem dL_acts_795 : decode cL_acts 795 = .ok (.invokevirtual 135, 3) := by decide +kernel
theorem dL_acts_798 : decode cL_acts 798 = .ok (.iload 10, 2) := by decide +kernel
theorem dL_acts_800 : decode cL_acts 800 = .ok (.if_icmp .ne 7, 3) := by decide +kernel
theorem dL_acts_803 : decode cL_acts 803 = .ok (.iconst 1, 1) := by decide +kernel
theorem dL_acts_804 : decode cL_acts 804 = .ok (.goto 4, 3) := by decide +kernel
theorem dL_acts_807 : decode cL_acts 807 = .ok (.iconst 0, 1) := by decide +kernel
theorem dL_acts_808 : decode cL_acts 808 = .ok (.ireturn, 1) := by decide +kernel
theorem dL_atOf_0 : decode cL_atOf 0 = .ok (.aload_n 0, 1) := by decide +kernel
theorem dL_atOf_1 : decode cL_atOf 1 = .ok (.iload_n 1, 1) := by decide +kernel
theorem dL_atOf_2 : decode cL_atOf 2 = .ok (.invokevirtual 137, 3) := by decide +kernel
theorem dL_atOf_5 : decode cL_atOf 5 = .ok (.lreturn, 1) := by decide +kernel
theorem dL_atOf_6 : decode cL_atOf 6 = .ok (.astore_n 2, 1) := by decide +kernel
theorem dL_atOf_7 : decode cL_atOf 7 = .ok (.ldc2_w 36, 3) := by decide +kernel
theorem dL_atOf_10 : decode cL_atOf 10 = .ok (.lreturn, 1) := by decide +kernel
theorem dL_elementOf_0 : decode cL_elementOf 0 = .ok (.aload_n 0, 1) := by decide +kernel
theorem dL_elementOf_1 : decode cL_elementOf 1 = .ok (.iload_n 1, 1) := by decide +kernel
theorem dL_elementOf_2 : decode cL_elementOf 2 = .ok (.iload_n 2, 1) := by decide +kernel
theorem dL_elementOf_3 : decode cL_elementOf 3 = .ok (.invokevirtual 140, 3) := by decide +kernel
theorem dL_elementOf_6 : decode cL_elementOf 6 = .ok (.ireturn, 1) := by decide +kernel
theorem dL_elementOf_7 : decode cL_elementOf 7 = .ok (.astore_n 3, 1) := by decide +kernel
theorem dL_elementOf_8 : decode cL_elementOf 8 = .ok (.ldc 31, 2) := by decide +kernel
theorem dL_elementOf_10 : decode cL_elementOf 10 = .ok (.ireturn, 1) := by decide +kernel
theorem dL_elementOf_11 : decode cL_elementOf 11 = .ok (.astore_n 3, 1) := by decide +kernel
theorem dL_elementOf_12 : decode cL_elementOf 12 = .ok (.ldc 24, 2) := by decide +kernel
theorem dL_elementOf_14 : decode cL_elementOf 14 = .ok (.ireturn, 1) := by decide +kernel
theorem dL_rankedOf_0 : decode cL_rankedOf 0 = .ok (.aload_n 0, 1) := by decide +kernel
theorem dL_rankedOf_1 : decode cL_rankedOf 1 = .ok (.iload_n 1, 1) := by decide +kernel
theorem dL_rankedOf_2 : decode cL_rankedOf 2 = .ok (.invokevirtual 143, 3) := by decide +kernel
theorem dL_rankedOf_5 : decode cL_rankedOf 5 = .ok (.lreturn, 1) := by decide +kernel
theorem dL_rankedOf_6 : decode cL_rankedOf 6 = .ok (.astore_n 2, 1) := by decide +kernel
theorem dL_rankedOf_7 : decode cL_rankedOf 7 = .ok (.ldc2_w 36, 3) := by decide +kernel
theorem dL_rankedOf_10 : decode cL_rankedOf 10 = .ok (.lreturn, 1) := by decide +kernel
theorem dL_wholeOf_0 : decode cL_wholeOf 0 = .ok (.aload_n 0, 1) := by decide +kernel
theorem dL_wholeOf_1 : decode cL_wholeOf 1 = .ok (.iload_n 1, 1) := by decide +kernel
theorem dL_wholeOf_2 : decode cL_wholeOf 2 = .ok (.invokevirtual 146, 3) := by decide +kernel
theorem dL_wholeOf_5 : decode cL_wholeOf 5 = .ok (.ireturn, 1) := by decide +kernel
theorem dL_wholeOf_6 : decode cL_wholeOf 6 = .ok (.astore_n 2, 1) := by decide +kernel
theorem dL_wholeOf_7 : decode cL_wholeOf 7 = .ok (.ldc 24, 2) := by decide +kernel
theorem dL_wholeOf_9 : decode cL_wholeOf 9 = .ok (.ireturn, 1) := by decide +kernel
theorem dL_isSo_0 : decode cL_isSo 0 = .ok (.iconst 0, 1) := by decide +kernel
theorem dL_isSo_1 : decode cL_isSo 1 = .ok (.istore 4, 2) := by decide +kernel
theorem dL_isSo_3 : decode cL_isSo 3 = .ok (.iconst 0, 1) := by decide +kernel
theorem dL_isSo_4 : decode cL_isSo 4 = .ok (.istore 5, 2) := by decide +kernel
theorem dL_isSo_6 : decode cL_isSo 6 = .ok (.iconst 0, 1) := by decide +kernel
theorem dL_isSo_7 : decode cL_isSo 7 = .ok (.istore 6, 2) := by decide +kernel
theorem dL_isSo_9 : decode cL_isSo 9 = .ok (.lconst 0, 1) := by decide +kernel
theorem dL_isSo_10 : decode cL_isSo 10 = .ok (.lstore 7, 2) := by decide +kernel
theorem dL_isSo_12 : decode cL_isSo 12 = .ok (.iconst 1, 1) := by decide +kernel
theorem dL_isSo_13 : decode cL_isSo 13 = .ok (.istore 9, 2) := by decide +kernel
theorem dL_isSo_15 : decode cL_isSo 15 = .ok (.iconst 0, 1) := by decide +kernel
theorem dL_isSo_16 : decode cL_isSo 16 = .ok (.istore 10, 2) := by decide +kernel
theorem dL_isSo_18 : decode cL_isSo 18 = .ok (.iload 10, 2) := by decide +kernel
theorem dL_isSo_20 : decode cL_isSo 20 = .ok (.aload_n 1, 1) := by decide +kernel
theorem dL_isSo_21 : decode cL_isSo 21 = .ok (.iconst 0, 1) := by decide +kernel
theorem dL_isSo_22 : decode cL_isSo 22 = .ok (.iaload, 1) := by decide +kernel
theorem dL_isSo_23 : decode cL_isSo 23 = .ok (.if_icmp .ge 309, 3) := by decide +kernel
theorem dL_isSo_26 : decode cL_isSo 26 = .ok (.iload 9, 2) := by decide +kernel
theorem dL_isSo_28 : decode cL_isSo 28 = .ok (.ifCond .eq 304, 3) := by decide +kernel
theorem dL_isSo_31 : decode cL_isSo 31 = .ok (.aload_n 1, 1) := by decide +kernel
theorem dL_isSo_32 : decode cL_isSo 32 = .ok (.aload_n 2, 1) := by decide +kernel
theorem dL_isSo_33 : decode cL_isSo 33 = .ok (.iload 10, 2) := by decide +kernel
theorem dL_isSo_35 : decode cL_isSo 35 = .ok (.invokestatic 50, 3) := by decide +kernel
theorem dL_isSo_38 : decode cL_isSo 38 = .ok (.istore 11, 2) := by decide +kernel
theorem dL_isSo_40 : decode cL_isSo 40 = .ok (.aload_n 1, 1) := by decide +kernel
theorem dL_isSo_41 : decode cL_isSo 41 = .ok (.aload_n 2, 1) := by decide +kernel
theorem dL_isSo_42 : decode cL_isSo 42 = .ok (.iload 10, 2) := by decide +kernel
theorem dL_isSo_44 : decode cL_isSo 44 = .ok (.invokestatic 54, 3) := by decide +kernel
theorem dL_isSo_47 : decode cL_isSo 47 = .ok (.istore 12, 2) := by decide +kernel
theorem dL_isSo_49 : decode cL_isSo 49 = .ok (.iconst 0, 1) := by decide +kernel
theorem dL_isSo_50 : decode cL_isSo 50 = .ok (.istore 13, 2) := by decide +kernel
theorem dL_isSo_52 : decode cL_isSo 52 = .ok (.iconst 0, 1) := by decide +kernel
theorem dL_isSo_53 : decode cL_isSo 53 = .ok (.istore 14, 2) := by decide +kernel
theorem dL_isSo_55 : decode cL_isSo 55 = .ok (.iload 14, 2) := by decide +kernel
theorem dL_isSo_57 : decode cL_isSo 57 = .ok (.aload_n 1, 1) := by decide +kernel
theorem dL_isSo_58 : decode cL_isSo 58 = .ok (.iconst 0, 1) := by decide +kernel
theorem dL_isSo_59 : decode cL_isSo 59 = .ok (.iaload, 1) := by decide +kernel
theorem dL_isSo_60 : decode cL_isSo 60 = .ok (.if_icmp .ge 63, 3) := by decide +kernel
theorem dL_isSo_63 : decode cL_isSo 63 = .ok (.iload 13, 2) := by decide +kernel
theorem dL_isSo_65 : decode cL_isSo 65 = .ok (.iload 14, 2) := by decide +kernel
theorem dL_isSo_67 : decode cL_isSo 67 = .ok (.iload 10, 2) := by decide +kernel
theorem dL_isSo_69 : decode cL_isSo 69 = .ok (.if_icmp .ge 18, 3) := by decide +kernel
theorem dL_isSo_72 : decode cL_isSo 72 = .ok (.aload_n 1, 1) := by decide +kernel
theorem dL_isSo_73 : decode cL_isSo 73 = .ok (.aload_n 2, 1) := by decide +kernel
theorem dL_isSo_74 : decode cL_isSo 74 = .ok (.iload 10, 2) := by decide +kernel
theorem dL_isSo_76 : decode cL_isSo 76 = .ok (.laload, 1) := by decide +kernel
theorem dL_isSo_77 : decode cL_isSo 77 = .ok (.aload_n 2, 1) := by decide +kernel
theorem dL_isSo_78 : decode cL_isSo 78 = .ok (.iload 14, 2) := by decide +kernel
theorem dL_isSo_80 : decode cL_isSo 80 = .ok (.laload, 1) := by decide +kernel
theorem dL_isSo_81 : decode cL_isSo 81 = .ok (.invokestatic 44, 3) := by decide +kernel
theorem dL_isSo_84 : decode cL_isSo 84 = .ok (.ifCond .ne 25, 3) := by decide +kernel
theorem dL_isSo_87 : decode cL_isSo 87 = .ok (.iload 14, 2) := by decide +kernel
theorem dL_isSo_89 : decode cL_isSo 89 = .ok (.iload 10, 2) := by decide +kernel
theorem dL_isSo_91 : decode cL_isSo 91 = .ok (.if_icmp .le 22, 3) := by decide +kernel
theorem dL_isSo_94 : decode cL_isSo 94 = .ok (.aload_n 1, 1) := by decide +kernel
theorem dL_isSo_95 : decode cL_isSo 95 = .ok (.aload_n 2, 1) := by decide +kernel
theorem dL_isSo_96 : decode cL_isSo 96 = .ok (.iload 14, 2) := by decide +kernel
theorem dL_isSo_98 : decode cL_isSo 98 = .ok (.laload, 1) := by decide +kernel
theorem dL_isSo_99 : decode cL_isSo 99 = .ok (.aload_n 2, 1) := by decide +kernel
theorem dL_isSo_100 : decode cL_isSo 100 = .ok (.iload 10, 2) := by decide +kernel
theorem dL_isSo_102 : decode cL_isSo 102 = .ok (.laload, 1) := by decide +kernel
theorem dL_isSo_103 : decode cL_isSo 103 = .ok (.invokestatic 44, 3) := by decide +kernel
theorem dL_isSo_106 : decode cL_isSo 106 = .ok (.ifCond .eq 7, 3) := by decide +kernel
theorem dL_isSo_109 : decode cL_isSo 109 = .ok (.iconst 1, 1) := by decide +kernel
theorem dL_isSo_110 : decode cL_isSo 110 = .ok (.goto 4, 3) := by decide +kernel
theorem dL_isSo_113 : decode cL_isSo 113 = .ok (.iconst 0, 1) := by decide +kernel
theorem dL_isSo_114 : decode cL_isSo 114 = .ok (.iadd, 1) := by decide +kernel
theorem dL_isSo_115 : decode cL_isSo 115 = .ok (.istore 13, 2) := by decide +kernel
theorem dL_isSo_117 : decode cL_isSo 117 = .ok (.iinc 14 1, 3) := by decide +kernel
theorem dL_isSo_120 : decode cL_isSo 120 = .ok (.goto (-65), 3) := by decide +kernel
theorem dL_isSo_123 : decode cL_isSo 123 = .ok (.iload 6, 2) := by decide +kernel
theorem dL_isSo_125 : decode cL_isSo 125 = .ok (.iload 13, 2) := by decide +kernel
theorem dL_isSo_127 : decode cL_isSo 127 = .ok (.iadd, 1) := by decide +kernel
theorem dL_isSo_128 : decode cL_isSo 128 = .ok (.istore 6, 2) := by decide +kernel
theorem dL_isSo_130 : decode cL_isSo 130 = .ok (.iload 12, 2) := by decide +kernel
theorem dL_isSo_132 : decode cL_isSo 132 = .ok (.iload 4, 2) := by decide +kernel
theorem dL_isSo_134 : decode cL_isSo 134 = .ok (.if_icmp .le 8, 3) := by decide +kernel
theorem dL_isSo_137 : decode cL_isSo 137 = .ok (.iload 12, 2) := by decide +kernel
theorem dL_isSo_139 : decode cL_isSo 139 = .ok (.goto 5, 3) := by decide +kernel
theorem dL_isSo_142 : decode cL_isSo 142 = .ok (.iload 4, 2) := by decide +kernel
theorem dL_isSo_144 : decode cL_isSo 144 = .ok (.istore 4, 2) := by decide +kernel
theorem dL_isSo_146 : decode cL_isSo 146 = .ok (.lload 7, 2) := by decide +kernel
theorem dL_isSo_148 : decode cL_isSo 148 = .ok (.iload 12, 2) := by decide +kernel
theorem dL_isSo_150 : decode cL_isSo 150 = .ok (.aload_n 1, 1) := by decide +kernel
theorem dL_isSo_151 : decode cL_isSo 151 = .ok (.iconst 1, 1) := by decide +kernel
theorem dL_isSo_152 : decode cL_isSo 152 = .ok (.iaload, 1) := by decide +kernel
theorem dL_isSo_153 : decode cL_isSo 153 = .ok (.if_icmp .le 10, 3) := by decide +kernel
theorem dL_isSo_156 : decode cL_isSo 156 = .ok (.lconst 1, 1) := by decide +kernel
theorem dL_isSo_157 : decode cL_isSo 157 = .ok (.iload 10, 2) := by decide +kernel
theorem dL_isSo_159 : decode cL_isSo 159 = .ok (.lshl, 1) := by decide +kernel
theorem dL_isSo_160 : decode cL_isSo 160 = .ok (.goto 4, 3) := by decide +kernel
theorem dL_isSo_163 : decode cL_isSo 163 = .ok (.lconst 0, 1) := by decide +kernel
theorem dL_isSo_164 : decode cL_isSo 164 = .ok (.lor, 1) := by decide +kernel
theorem dL_isSo_165 : decode cL_isSo 165 = .ok (.lstore 7, 2) := by decide +kernel
theorem dL_isSo_167 : decode cL_isSo 167 = .ok (.iload 5, 2) := by decide +kernel
theorem dL_isSo_169 : decode cL_isSo 169 = .ok (.aload_n 1, 1) := by decide +kernel
theorem dL_isSo_170 : decode cL_isSo 170 = .ok (.aload_n 2, 1) := by decide +kernel
theorem dL_isSo_171 : decode cL_isSo 171 = .ok (.iload 10, 2) := by decide +kernel
theorem dL_isSo_173 : decode cL_isSo 173 = .ok (.invokestatic 57, 3) := by decide +kernel
theorem dL_isSo_176 : decode cL_isSo 176 = .ok (.ifCond .eq 7, 3) := by decide +kernel
theorem dL_isSo_179 : decode cL_isSo 179 = .ok (.iconst 1, 1) := by decide +kernel
theorem dL_isSo_180 : decode cL_isSo 180 = .ok (.goto 4, 3) := by decide +kernel
theorem dL_isSo_183 : decode cL_isSo 183 = .ok (.iconst 0, 1) := by decide +kernel
theorem dL_isSo_184 : decode cL_isSo 184 = .ok (.iadd, 1) := by decide +kernel
theorem dL_isSo_185 : decode cL_isSo 185 = .ok (.istore 5, 2) := by decide +kernel
theorem dL_isSo_187 : decode cL_isSo 187 = .ok (.aload_n 0, 1) := by decide +kernel
theorem dL_isSo_188 : decode cL_isSo 188 = .ok (.iload 10, 2) := by decide +kernel
theorem dL_isSo_190 : decode cL_isSo 190 = .ok (.invokestatic 149, 3) := by decide +kernel
theorem dL_isSo_193 : decode cL_isSo 193 = .ok (.aload_n 2, 1) := by decide +kernel
theorem dL_isSo_194 : decode cL_isSo 194 = .ok (.iload 10, 2) := by decide +kernel
theorem dL_isSo_196 : decode cL_isSo 196 = .ok (.laload, 1) := by decide +kernel
theorem dL_isSo_197 : decode cL_isSo 197 = .ok (.lcmp, 1) := by decide +kernel
theorem dL_isSo_198 : decode cL_isSo 198 = .ok (.ifCond .ne 125, 3) := by decide +kernel
theorem dL_isSo_201 : decode cL_isSo 201 = .ok (.aload_n 0, 1) := by decide +kernel
theorem dL_isSo_202 : decode cL_isSo 202 = .ok (.iload 10, 2) := by decide +kernel
theorem dL_isSo_204 : decode cL_isSo 204 = .ok (.iconst 0, 1) := by decide +kernel
theorem dL_isSo_205 : decode cL_isSo 205 = .ok (.invokestatic 153, 3) := by decide +kernel
theorem dL_isSo_208 : decode cL_isSo 208 = .ok (.aload_n 3, 1) := by decide +kernel
theorem dL_isSo_209 : decode cL_isSo 209 = .ok (.iload 10, 2) := by decide +kernel
theorem dL_isSo_211 : decode cL_isSo 211 = .ok (.iaload, 1) := by decide +kernel
theorem dL_isSo_212 : decode cL_isSo 212 = .ok (.if_icmp .ne 111, 3) := by decide +kernel
theorem dL_isSo_215 : decode cL_isSo 215 = .ok (.aload_n 0, 1) := by decide +kernel
theorem dL_isSo_216 : decode cL_isSo 216 = .ok (.iload 10, 2) := by decide +kernel
theorem dL_isSo_218 : decode cL_isSo 218 = .ok (.iconst 1, 1) := by decide +kernel
theorem dL_isSo_219 : decode cL_isSo 219 = .ok (.invokestatic 153, 3) := by decide +kernel
theorem dL_isSo_222 : decode cL_isSo 222 = .ok (.iload 10, 2) := by decide +kernel
theorem dL_isSo_224 : decode cL_isSo 224 = .ok (.iload 11, 2) := by decide +kernel
theorem dL_isSo_226 : decode cL_isSo 226 = .ok (.isub, 1) := by decide +kernel
theorem dL_isSo_227 : decode cL_isSo 227 = .ok (.if_icmp .ne 96, 3) := by decide +kernel
theorem dL_isSo_230 : decode cL_isSo 230 = .ok (.aload_n 0, 1) := by decide +kernel
theorem dL_isSo_231 : decode cL_isSo 231 = .ok (.iload 10, 2) := by decide +kernel
theorem dL_isSo_233 : decode cL_isSo 233 = .ok (.iconst 2, 1) := by decide +kernel
theorem dL_isSo_234 : decode cL_isSo 234 = .ok (.invokestatic 153, 3) := by decide +kernel
theorem dL_isSo_237 : decode cL_isSo 237 = .ok (.iload 11, 2) := by decide +kernel
theorem dL_isSo_239 : decode cL_isSo 239 = .ok (.if_icmp .ne 84, 3) := by decide +kernel
theorem dL_isSo_242 : decode cL_isSo 242 = .ok (.aload_n 0, 1) := by decide +kernel
theorem dL_isSo_243 : decode cL_isSo 243 = .ok (.iload 10, 2) := by decide +kernel
theorem dL_isSo_245 : decode cL_isSo 245 = .ok (.iconst 3, 1) := by decide +kernel
theorem dL_isSo_246 : decode cL_isSo 246 = .ok (.invokestatic 153, 3) := by decide +kernel
theorem dL_isSo_249 : decode cL_isSo 249 = .ok (.iload 12, 2) := by decide +kernel
theorem dL_isSo_251 : decode cL_isSo 251 = .ok (.aload_n 1, 1) := by decide +kernel
theorem dL_isSo_252 : decode cL_isSo 252 = .ok (.iconst 1, 1) := by decide +kernel
theorem dL_isSo_253 : decode cL_isSo 253 = .ok (.iaload, 1) := by decide +kernel
theorem dL_isSo_254 : decode cL_isSo 254 = .ok (.if_icmp .le 7, 3) := by decide +kernel
theorem dL_isSo_257 : decode cL_isSo 257 = .ok (.iconst 1, 1) := by decide +kernel
theorem dL_isSo_258 : decode cL_isSo 258 = .ok (.goto 4, 3) := by decide +kernel
theorem dL_isSo_261 : decode cL_isSo 261 = .ok (.iconst 0, 1) := by decide +kernel
theorem dL_isSo_262 : decode cL_isSo 262 = .ok (.if_icmp .ne 61, 3) := by decide +kernel
theorem dL_isSo_265 : decode cL_isSo 265 = .ok (.aload_n 0, 1) := by decide +kernel
theorem dL_isSo_266 : decode cL_isSo 266 = .ok (.iload 10, 2) := by decide +kernel
theorem dL_isSo_268 : decode cL_isSo 268 = .ok (.iconst 4, 1) := by decide +kernel
theorem dL_isSo_269 : decode cL_isSo 269 = .ok (.invokestatic 153, 3) := by decide +kernel
theorem dL_isSo_272 : decode cL_isSo 272 = .ok (.aload_n 1, 1) := by decide +kernel
theorem dL_isSo_273 : decode cL_isSo 273 = .ok (.aload_n 2, 1) := by decide +kernel
theorem dL_isSo_274 : decode cL_isSo 274 = .ok (.iload 10, 2) := by decide +kernel
theorem dL_isSo_276 : decode cL_isSo 276 = .ok (.invokestatic 57, 3) := by decide +kernel
theorem dL_isSo_279 : decode cL_isSo 279 = .ok (.ifCond .eq 7, 3) := by decide +kernel
theorem dL_isSo_282 : decode cL_isSo 282 = .ok (.iconst 1, 1) := by decide +kernel
theorem dL_isSo_283 : decode cL_isSo 283 = .ok (.goto 4, 3) := by decide +kernel
theorem dL_isSo_286 : decode cL_isSo 286 = .ok (.iconst 0, 1) := by decide +kernel
theorem dL_isSo_287 : decode cL_isSo 287 = .ok (.if_icmp .ne 36, 3) := by decide +kernel
theorem dL_isSo_290 : decode cL_isSo 290 = .ok (.aload_n 0, 1) := by decide +kernel
theorem dL_isSo_291 : decode cL_isSo 291 = .ok (.iload 10, 2) := by decide +kernel
theorem dL_isSo_293 : decode cL_isSo 293 = .ok (.iconst 5, 1) := by decide +kernel
theorem dL_isSo_294 : decode cL_isSo 294 = .ok (.invokestatic 153, 3) := by decide +kernel
theorem dL_isSo_297 : decode cL_isSo 297 = .ok (.iload 13, 2) := by decide +kernel
theorem dL_isSo_299 : decode cL_isSo 299 = .ok (.if_icmp .ne 24, 3) := by decide +kernel
theorem dL_isSo_302 : decode cL_isSo 302 = .ok (.aload_n 0, 1) := by decide +kernel
theorem dL_isSo_303 : decode cL_isSo 303 = .ok (.iload 10, 2) := by decide +kernel
theorem dL_isSo_305 : decode cL_isSo 305 = .ok (.iload 11, 2) := by decide +kernel
theorem dL_isSo_307 : decode cL_isSo 307 = .ok (.isub, 1) := by decide +kernel
theorem dL_isSo_308 : decode cL_isSo 308 = .ok (.invokestatic 157, 3) := by decide +kernel
theorem dL_isSo_311 : decode cL_isSo 311 = .ok (.aload_n 2, 1) := by decide +kernel
theorem dL_isSo_312 : decode cL_isSo 312 = .ok (.iload 10, 2) := by decide +kernel
theorem dL_isSo_314 : decode cL_isSo 314 = .ok (.laload, 1) := by decide +kernel
theorem dL_isSo_315 : decode cL_isSo 315 = .ok (.lcmp, 1) := by decide +kernel
theorem dL_isSo_316 : decode cL_isSo 316 = .ok (.ifCond .ne 7, 3) := by decide +kernel
theorem dL_isSo_319 : decode cL_isSo 319 = .ok (.iconst 1, 1) := by decide +kernel
theorem dL_isSo_320 : decode cL_isSo 320 = .ok (.goto 4, 3) := by decide +kernel
theorem dL_isSo_323 : decode cL_isSo 323 = .ok (.iconst 0, 1) := by decide +kernel
theorem dL_isSo_324 : decode cL_isSo 324 = .ok (.istore 9, 2) := by decide +kernel
theorem dL_isSo_326 : decode cL_isSo 326 = .ok (.iinc 10 1, 3) := by decide +kernel
theorem dL_isSo_329 : decode cL_isSo 329 = .ok (.goto (-311), 3) := by decide +kernel
theorem dL_isSo_332 : decode cL_isSo 332 = .ok (.aload_n 1, 1) := by decide +kernel
theorem dL_isSo_333 : decode cL_isSo 333 = .ok (.aload_n 2, 1) := by decide +kernel
theorem dL_isSo_334 : decode cL_isSo 334 = .ok (.invokestatic 113, 3) := by decide +kernel
theorem dL_isSo_337 : decode cL_isSo 337 = .ok (.istore 10, 2) := by decide +kernel
theorem dL_isSo_339 : decode cL_isSo 339 = .ok (.iload 9, 2) := by decide +kernel
theorem dL_isSo_341 : decode cL_isSo 341 = .ok (.ifCond .eq 96, 3) := by decide +kernel
theorem dL_isSo_344 : decode cL_isSo 344 = .ok (.aload_n 0, 1) := by decide +kernel
theorem dL_isSo_345 : decode cL_isSo 345 = .ok (.invokevirtual 160, 3) := by decide +kernel
theorem dL_isSo_348 : decode cL_isSo 348 = .ok (.lload 7, 2) := by decide +kernel
theorem dL_isSo_350 : decode cL_isSo 350 = .ok (.lcmp, 1) := by decide +kernel
theorem dL_isSo_351 : decode cL_isSo 351 = .ok (.ifCond .ne 86, 3) := by decide +kernel
theorem dL_isSo_354 : decode cL_isSo 354 = .ok (.iload 10, 2) := by decide +kernel
theorem dL_isSo_356 : decode cL_isSo 356 = .ok (.ifCond .gt 10, 3) := by decide +kernel
theorem dL_isSo_359 : decode cL_isSo 359 = .ok (.aload_n 0, 1) := by decide +kernel
theorem dL_isSo_360 : decode cL_isSo 360 = .ok (.invokevirtual 163, 3) := by decide +kernel
theorem dL_isSo_363 : decode cL_isSo 363 = .ok (.ifCond .ne 74, 3) := by decide +kernel
theorem dL_isSo_366 : decode cL_isSo 366 = .ok (.aload_n 0, 1) := by decide +kernel
theorem dL_isSo_367 : decode cL_isSo 367 = .ok (.iconst 0, 1) := by decide +kernel
theorem dL_isSo_368 : decode cL_isSo 368 = .ok (.invokestatic 166, 3) := by decide +kernel
theorem dL_isSo_371 : decode cL_isSo 371 = .ok (.aload_n 1, 1) := by decide +kernel
theorem dL_isSo_372 : decode cL_isSo 372 = .ok (.iconst 0, 1) := by decide +kernel
theorem dL_isSo_373 : decode cL_isSo 373 = .ok (.iaload, 1) := by decide +kernel
theorem dL_isSo_374 : decode cL_isSo 374 = .ok (.if_icmp .ne 63, 3) := by decide +kernel
theorem dL_isSo_377 : decode cL_isSo 377 = .ok (.aload_n 0, 1) := by decide +kernel
theorem dL_isSo_378 : decode cL_isSo 378 = .ok (.iconst 1, 1) := by decide +kernel
theorem dL_isSo_379 : decode cL_isSo 379 = .ok (.invokestatic 166, 3) := by decide +kernel
theorem dL_isSo_382 : decode cL_isSo 382 = .ok (.aload_n 1, 1) := by decide +kernel
theorem dL_isSo_383 : decode cL_isSo 383 = .ok (.iconst 1, 1) := by decide +kernel
theorem dL_isSo_384 : decode cL_isSo 384 = .ok (.iaload, 1) := by decide +kernel
theorem dL_isSo_385 : decode cL_isSo 385 = .ok (.if_icmp .ne 52, 3) := by decide +kernel
theorem dL_isSo_388 : decode cL_isSo 388 = .ok (.aload_n 0, 1) := by decide +kernel
theorem dL_isSo_389 : decode cL_isSo 389 = .ok (.iconst 2, 1) := by decide +kernel
theorem dL_isSo_390 : decode cL_isSo 390 = .ok (.invokestatic 166, 3) := by decide +kernel
theorem dL_isSo_393 : decode cL_isSo 393 = .ok (.aload_n 1, 1) := by decide +kernel
theorem dL_isSo_394 : decode cL_isSo 394 = .ok (.iconst 2, 1) := by decide +kernel
theorem dL_isSo_395 : decode cL_isSo 395 = .ok (.iaload, 1) := by decide +kernel
theorem dL_isSo_396 : decode cL_isSo 396 = .ok (.if_icmp .ne 41, 3) := by decide +kernel
theorem dL_isSo_399 : decode cL_isSo 399 = .ok (.aload_n 0, 1) := by decide +kernel
theorem dL_isSo_400 : decode cL_isSo 400 = .ok (.iconst 3, 1) := by decide +kernel
theorem dL_isSo_401 : decode cL_isSo 401 = .ok (.invokestatic 166, 3) := by decide +kernel
theorem dL_isSo_404 : decode cL_isSo 404 = .ok (.aload_n 1, 1) := by decide +kernel
theorem dL_isSo_405 : decode cL_isSo 405 = .ok (.iconst 3, 1) := by decide +kernel
theorem dL_isSo_406 : decode cL_isSo 406 = .ok (.iaload, 1) := by decide +kernel
theorem dL_isSo_407 : decode cL_isSo 407 = .ok (.if_icmp .ne 30, 3) := by decide +kernel
theorem dL_isSo_410 : decode cL_isSo 410 = .ok (.aload_n 0, 1) := by decide +kernel
theorem dL_isSo_411 : decode cL_isSo 411 = .ok (.iconst 4, 1) := by decide +kernel
theorem dL_isSo_412 : decode cL_isSo 412 = .ok (.invokestatic 166, 3) := by decide +kernel
theorem dL_isSo_415 : decode cL_isSo 415 = .ok (.iload 10, 2) := by decide +kernel
theorem dL_isSo_417 : decode cL_isSo 417 = .ok (.if_icmp .ne 20, 3) := by decide +kernel
theorem dL_isSo_420 : decode cL_isSo 420 = .ok (.aload_n 0, 1) := by decide +kernel
theorem dL_isSo_421 : decode cL_isSo 421 = .ok (.iconst 5, 1) := by decide +kernel
theorem dL_isSo_422 : decode cL_isSo 422 = .ok (.invokestatic 166, 3) := by decide +kernel
theorem dL_isSo_425 : decode cL_isSo 425 = .ok (.aload_n 1, 1) := by decide +kernel
theorem dL_isSo_426 : decode cL_isSo 426 = .ok (.aload_n 2, 1) := by decide +kernel
theorem dL_isSo_427 : decode cL_isSo 427 = .ok (.invokestatic 109, 3) := by decide +kernel
theorem dL_isSo_430 : decode cL_isSo 430 = .ok (.if_icmp .ne 7, 3) := by decide +kernel
theorem dL_isSo_433 : decode cL_isSo 433 = .ok (.iconst 1, 1) := by decide +kernel
theorem dL_isSo_434 : decode cL_isSo 434 = .ok (.goto 4, 3) := by decide +kernel
theorem dL_isSo_437 : decode cL_isSo 437 = .ok (.iconst 0, 1) := by decide +kernel
theorem dL_isSo_438 : decode cL_isSo 438 = .ok (.istore 9, 2) := by decide +kernel
theorem dL_isSo_440 : decode cL_isSo 440 = .ok (.iload 9, 2) := by decide +kernel
theorem dL_isSo_442 : decode cL_isSo 442 = .ok (.ifCond .eq 87, 3) := by decide +kernel
theorem dL_isSo_445 : decode cL_isSo 445 = .ok (.iconst 2, 1) := by decide +kernel
theorem dL_isSo_446 : decode cL_isSo 446 = .ok (.aload_n 0, 1) := by decide +kernel
theorem dL_isSo_447 : decode cL_isSo 447 = .ok (.iconst 5, 1) := by decide +kernel
theorem dL_isSo_448 : decode cL_isSo 448 = .ok (.invokestatic 166, 3) := by decide +kernel
theorem dL_isSo_451 : decode cL_isSo 451 = .ok (.imul, 1) := by decide +kernel
theorem dL_isSo_452 : decode cL_isSo 452 = .ok (.iload 6, 2) := by decide +kernel
theorem dL_isSo_454 : decode cL_isSo 454 = .ok (.if_icmp .ne 75, 3) := by decide +kernel
theorem dL_isSo_457 : decode cL_isSo 457 = .ok (.aload_n 0, 1) := by decide +kernel
theorem dL_isSo_458 : decode cL_isSo 458 = .ok (.bipush 6, 2) := by decide +kernel
theorem dL_isSo_460 : decode cL_isSo 460 = .ok (.invokestatic 166, 3) := by decide +kernel
theorem dL_isSo_463 : decode cL_isSo 463 = .ok (.iload 5, 2) := by decide +kernel
theorem dL_isSo_465 : decode cL_isSo 465 = .ok (.if_icmp .ne 64, 3) := by decide +kernel
theorem dL_isSo_468 : decode cL_isSo 468 = .ok (.aload_n 0, 1) := by decide +kernel
theorem dL_isSo_469 : decode cL_isSo 469 = .ok (.bipush 7, 2) := by decide +kernel
theorem dL_isSo_471 : decode cL_isSo 471 = .ok (.invokestatic 166, 3) := by decide +kernel
theorem dL_isSo_474 : decode cL_isSo 474 = .ok (.aload_n 1, 1) := by decide +kernel
theorem dL_isSo_475 : decode cL_isSo 475 = .ok (.iconst 4, 1) := by decide +kernel
theorem dL_isSo_476 : decode cL_isSo 476 = .ok (.iaload, 1) := by decide +kernel
theorem dL_isSo_477 : decode cL_isSo 477 = .ok (.if_icmp .ne 52, 3) := by decide +kernel
theorem dL_isSo_480 : decode cL_isSo 480 = .ok (.aload_n 0, 1) := by decide +kernel
theorem dL_isSo_481 : decode cL_isSo 481 = .ok (.bipush 8, 2) := by decide +kernel
theorem dL_isSo_483 : decode cL_isSo 483 = .ok (.invokestatic 166, 3) := by decide +kernel
theorem dL_isSo_486 : decode cL_isSo 486 = .ok (.aload_n 1, 1) := by decide +kernel
theorem dL_isSo_487 : decode cL_isSo 487 = .ok (.iconst 5, 1) := by decide +kernel
theorem dL_isSo_488 : decode cL_isSo 488 = .ok (.iaload, 1) := by decide +kernel
theorem dL_isSo_489 : decode cL_isSo 489 = .ok (.if_icmp .ne 40, 3) := by decide +kernel
theorem dL_isSo_492 : decode cL_isSo 492 = .ok (.aload_n 0, 1) := by decide +kernel
theorem dL_isSo_493 : decode cL_isSo 493 = .ok (.bipush 9, 2) := by decide +kernel
theorem dL_isSo_495 : decode cL_isSo 495 = .ok (.invokestatic 166, 3) := by decide +kernel
theorem dL_isSo_498 : decode cL_isSo 498 = .ok (.aload_n 1, 1) := by decide +kernel
theorem dL_isSo_499 : decode cL_isSo 499 = .ok (.bipush 6, 2) := by decide +kernel
theorem dL_isSo_501 : decode cL_isSo 501 = .ok (.iaload, 1) := by decide +kernel
theorem dL_isSo_502 : decode cL_isSo 502 = .ok (.if_icmp .ne 27, 3) := by decide +kernel
theorem dL_isSo_505 : decode cL_isSo 505 = .ok (.aload_n 0, 1) := by decide +kernel
theorem dL_isSo_506 : decode cL_isSo 506 = .ok (.bipush 10, 2) := by decide +kernel
theorem dL_isSo_508 : decode cL_isSo 508 = .ok (.invokestatic 166, 3) := by decide +kernel
theorem dL_isSo_511 : decode cL_isSo 511 = .ok (.iload 4, 2) := by decide +kernel
theorem dL_isSo_513 : decode cL_isSo 513 = .ok (.if_icmp .ne 16, 3) := by decide +kernel
theorem dL_isSo_516 : decode cL_isSo 516 = .ok (.aload_n 0, 1) := by decide +kernel
theorem dL_isSo_517 : decode cL_isSo 517 = .ok (.bipush 11, 2) := by decide +kernel
theorem dL_isSo_519 : decode cL_isSo 519 = .ok (.invokestatic 166, 3) := by decide +kernel
theorem dL_isSo_522 : decode cL_isSo 522 = .ok (.ifCond .ne 7, 3) := by decide +kernel
theorem dL_isSo_525 : decode cL_isSo 525 = .ok (.iconst 1, 1) := by decide +kernel
theorem dL_isSo_526 : decode cL_isSo 526 = .ok (.goto 4, 3) := by decide +kernel
theorem dL_isSo_529 : decode cL_isSo 529 = .ok (.iconst 0, 1) := by decide +kernel
theorem dL_isSo_530 : decode cL_isSo 530 = .ok (.ireturn, 1) := by decide +kernel
theorem dL_law_0 : decode cL_law 0 = .ok (.new 10, 3) := by decide +kernel
theorem dL_law_3 : decode cL_law 3 = .ok (.dup, 1) := by decide +kernel
theorem dL_law_4 : decode cL_law 4 = .ok (.invokespecial 169, 3) := by decide +kernel
theorem dL_law_7 : decode cL_law 7 = .ok (.astore_n 1, 1) := by decide +kernel
theorem dL_law_8 : decode cL_law 8 = .ok (.bipush 7, 2) := by decide +kernel
theorem dL_law_10 : decode cL_law 10 = .ok (.newarray .int, 2) := by decide +kernel
theorem dL_law_12 : decode cL_law 12 = .ok (.astore_n 2, 1) := by decide +kernel
theorem dL_law_13 : decode cL_law 13 = .ok (.bipush 32, 2) := by decide +kernel
theorem dL_law_15 : decode cL_law 15 = .ok (.newarray .long, 2) := by decide +kernel
theorem dL_law_17 : decode cL_law 17 = .ok (.astore_n 3, 1) := by decide +kernel
theorem dL_law_18 : decode cL_law 18 = .ok (.bipush 32, 2) := by decide +kernel
theorem dL_law_20 : decode cL_law 20 = .ok (.newarray .int, 2) := by decide +kernel
theorem dL_law_22 : decode cL_law 22 = .ok (.astore 4, 2) := by decide +kernel
theorem dL_law_24 : decode cL_law 24 = .ok (.aload_n 2, 1) := by decide +kernel
theorem dL_law_25 : decode cL_law 25 = .ok (.iconst 1, 1) := by decide +kernel
theorem dL_law_26 : decode cL_law 26 = .ok (.iconst 2, 1) := by decide +kernel
theorem dL_law_27 : decode cL_law 27 = .ok (.iastore, 1) := by decide +kernel
theorem dL_law_28 : decode cL_law 28 = .ok (.aload_n 1, 1) := by decide +kernel
theorem dL_law_29 : decode cL_law 29 = .ok (.aload_n 2, 1) := by decide +kernel
theorem dL_law_30 : decode cL_law 30 = .ok (.aload_n 3, 1) := by decide +kernel
theorem dL_law_31 : decode cL_law 31 = .ok (.aload 4, 2) := by decide +kernel
theorem dL_law_33 : decode cL_law 33 = .ok (.invokestatic 170, 3) := by decide +kernel
theorem dL_law_36 : decode cL_law 36 = .ok (.istore 5, 2) := by decide +kernel
theorem dL_law_38 : decode cL_law 38 = .ok (.iconst 0, 1) := by decide +kernel
theorem dL_law_39 : decode cL_law 39 = .ok (.istore 6, 2) := by decide +kernel
theorem dL_law_41 : decode cL_law 41 = .ok (.iload 6, 2) := by decide +kernel
theorem dL_law_43 : decode cL_law 43 = .ok (.bipush 12, 2) := by decide +kernel
theorem dL_law_45 : decode cL_law 45 = .ok (.if_icmp .ge 43, 3) := by decide +kernel
theorem dL_law_48 : decode cL_law 48 = .ok (.iload 5, 2) := by decide +kernel
theorem dL_law_50 : decode cL_law 50 = .ok (.ifCond .eq 38, 3) := by decide +kernel
theorem dL_law_53 : decode cL_law 53 = .ok (.aload_n 1, 1) := by decide +kernel
theorem dL_law_54 : decode cL_law 54 = .ok (.aload_n 2, 1) := by decide +kernel
theorem dL_law_55 : decode cL_law 55 = .ok (.aload_n 3, 1) := by decide +kernel
theorem dL_law_56 : decode cL_law 56 = .ok (.aload 4, 2) := by decide +kernel
theorem dL_law_58 : decode cL_law 58 = .ok (.aload_n 0, 1) := by decide +kernel
theorem dL_law_59 : decode cL_law 59 = .ok (.iconst 1, 1) := by decide +kernel
theorem dL_law_60 : decode cL_law 60 = .ok (.iload 6, 2) := by decide +kernel
theorem dL_law_62 : decode cL_law 62 = .ok (.iadd, 1) := by decide +kernel
theorem dL_law_63 : decode cL_law 63 = .ok (.invokestatic 174, 3) := by decide +kernel
theorem dL_law_66 : decode cL_law 66 = .ok (.ldc 8, 2) := by decide +kernel
theorem dL_law_68 : decode cL_law 68 = .ok (.iand, 1) := by decide +kernel
theorem dL_law_69 : decode cL_law 69 = .ok (.sipush 800, 3) := by decide +kernel
theorem dL_law_72 : decode cL_law 72 = .ok (.idiv, 1) := by decide +kernel
theorem dL_law_73 : decode cL_law 73 = .ok (.sipush 800, 3) := by decide +kernel
theorem dL_law_76 : decode cL_law 76 = .ok (.imul, 1) := by decide +kernel
theorem dL_law_77 : decode cL_law 77 = .ok (.invokestatic 178, 3) := by decide +kernel
theorem dL_law_80 : decode cL_law 80 = .ok (.istore 5, 2) := by decide +kernel
theorem dL_law_82 : decode cL_law 82 = .ok (.iinc 6 1, 3) := by decide +kernel
theorem dL_law_85 : decode cL_law 85 = .ok (.goto (-44), 3) := by decide +kernel
theorem dL_law_88 : decode cL_law 88 = .ok (.bipush 8, 2) := by decide +kernel
theorem dL_law_90 : decode cL_law 90 = .ok (.aload_n 0, 1) := by decide +kernel
theorem dL_law_91 : decode cL_law 91 = .ok (.iconst 0, 1) := by decide +kernel
theorem dL_law_92 : decode cL_law 92 = .ok (.invokestatic 174, 3) := by decide +kernel
theorem dL_law_95 : decode cL_law 95 = .ok (.bipush 42, 2) := by decide +kernel
theorem dL_law_97 : decode cL_law 97 = .ok (.invokestatic 74, 3) := by decide +kernel
theorem dL_law_100 : decode cL_law 100 = .ok (.iadd, 1) := by decide +kernel
theorem dL_law_101 : decode cL_law 101 = .ok (.istore 6, 2) := by decide +kernel
theorem dL_law_103 : decode cL_law 103 = .ok (.iconst 0, 1) := by decide +kernel
theorem dL_law_104 : decode cL_law 104 = .ok (.istore 7, 2) := by decide +kernel
theorem dL_law_106 : decode cL_law 106 = .ok (.iload 7, 2) := by decide +kernel
theorem dL_law_108 : decode cL_law 108 = .ok (.iload 6, 2) := by decide +kernel
theorem dL_law_110 : decode cL_law 110 = .ok (.if_icmp .ge 59, 3) := by decide +kernel
theorem dL_law_113 : decode cL_law 113 = .ok (.iload 5, 2) := by decide +kernel
theorem dL_law_115 : decode cL_law 115 = .ok (.ifCond .eq 54, 3) := by decide +kernel
theorem dL_law_118 : decode cL_law 118 = .ok (.aload_n 1, 1) := by decide +kernel
theorem dL_law_119 : decode cL_law 119 = .ok (.aload_n 2, 1) := by decide +kernel
theorem dL_law_120 : decode cL_law 120 = .ok (.aload_n 3, 1) := by decide +kernel
theorem dL_law_121 : decode cL_law 121 = .ok (.aload 4, 2) := by decide +kernel
theorem dL_law_123 : decode cL_law 123 = .ok (.aload_n 0, 1) := by decide +kernel
theorem dL_law_124 : decode cL_law 124 = .ok (.bipush 13, 2) := by decide +kernel
theorem dL_law_126 : decode cL_law 126 = .ok (.iload 7, 2) := by decide +kernel
theorem dL_law_128 : decode cL_law 128 = .ok (.iadd, 1) := by decide +kernel
theorem dL_law_129 : decode cL_law 129 = .ok (.invokestatic 174, 3) := by decide +kernel
theorem dL_law_132 : decode cL_law 132 = .ok (.sipush 7919, 3) := by decide +kernel
theorem dL_law_135 : decode cL_law 135 = .ok (.iload 7, 2) := by decide +kernel
theorem dL_law_137 : decode cL_law 137 = .ok (.imul, 1) := by decide +kernel
theorem dL_law_138 : decode cL_law 138 = .ok (.ixor, 1) := by decide +kernel
theorem dL_law_139 : decode cL_law 139 = .ok (.invokestatic 178, 3) := by decide +kernel
theorem dL_law_142 : decode cL_law 142 = .ok (.ifCond .eq 18, 3) := by decide +kernel
theorem dL_law_145 : decode cL_law 145 = .ok (.aload_n 1, 1) := by decide +kernel
theorem dL_law_146 : decode cL_law 146 = .ok (.aload_n 2, 1) := by decide +kernel
theorem dL_law_147 : decode cL_law 147 = .ok (.aload_n 3, 1) := by decide +kernel
theorem dL_law_148 : decode cL_law 148 = .ok (.aload 4, 2) := by decide +kernel
theorem dL_law_150 : decode cL_law 150 = .ok (.invokestatic 170, 3) := by decide +kernel
theorem dL_law_153 : decode cL_law 153 = .ok (.ifCond .eq 7, 3) := by decide +kernel
theorem dL_law_156 : decode cL_law 156 = .ok (.iconst 1, 1) := by decide +kernel
theorem dL_law_157 : decode cL_law 157 = .ok (.goto 4, 3) := by decide +kernel
theorem dL_law_160 : decode cL_law 160 = .ok (.iconst 0, 1) := by decide +kernel
theorem dL_law_161 : decode cL_law 161 = .ok (.istore 5, 2) := by decide +kernel
theorem dL_law_163 : decode cL_law 163 = .ok (.iinc 7 1, 3) := by decide +kernel
theorem dL_law_166 : decode cL_law 166 = .ok (.goto (-60), 3) := by decide +kernel
theorem dL_law_169 : decode cL_law 169 = .ok (.iload 5, 2) := by decide +kernel
theorem dL_law_171 : decode cL_law 171 = .ok (.ifCond .eq 112, 3) := by decide +kernel
theorem dL_law_174 : decode cL_law 174 = .ok (.aload_n 1, 1) := by decide +kernel
theorem dL_law_175 : decode cL_law 175 = .ok (.bipush 12, 2) := by decide +kernel
theorem dL_law_177 : decode cL_law 177 = .ok (.invokestatic 166, 3) := by decide +kernel
theorem dL_law_180 : decode cL_law 180 = .ok (.ldc 24, 2) := by decide +kernel
theorem dL_law_182 : decode cL_law 182 = .ok (.if_icmp .ne 101, 3) := by decide +kernel
theorem dL_law_185 : decode cL_law 185 = .ok (.aload_n 1, 1) := by decide +kernel
theorem dL_law_186 : decode cL_law 186 = .ok (.iconst (-1), 1) := by decide +kernel
theorem dL_law_187 : decode cL_law 187 = .ok (.invokestatic 166, 3) := by decide +kernel
theorem dL_law_190 : decode cL_law 190 = .ok (.ldc 24, 2) := by decide +kernel
theorem dL_law_192 : decode cL_law 192 = .ok (.if_icmp .ne 91, 3) := by decide +kernel
theorem dL_law_195 : decode cL_law 195 = .ok (.aload_n 1, 1) := by decide +kernel
theorem dL_law_196 : decode cL_law 196 = .ok (.aload_n 2, 1) := by decide +kernel
theorem dL_law_197 : decode cL_law 197 = .ok (.iconst 0, 1) := by decide +kernel
theorem dL_law_198 : decode cL_law 198 = .ok (.iaload, 1) := by decide +kernel
theorem dL_law_199 : decode cL_law 199 = .ok (.invokestatic 149, 3) := by decide +kernel
theorem dL_law_202 : decode cL_law 202 = .ok (.ldc2_w 36, 3) := by decide +kernel
theorem dL_law_205 : decode cL_law 205 = .ok (.lcmp, 1) := by decide +kernel
theorem dL_law_206 : decode cL_law 206 = .ok (.ifCond .ne 77, 3) := by decide +kernel
theorem dL_law_209 : decode cL_law 209 = .ok (.aload_n 1, 1) := by decide +kernel
theorem dL_law_210 : decode cL_law 210 = .ok (.iconst (-1), 1) := by decide +kernel
theorem dL_law_211 : decode cL_law 211 = .ok (.invokestatic 149, 3) := by decide +kernel
theorem dL_law_214 : decode cL_law 214 = .ok (.ldc2_w 36, 3) := by decide +kernel
theorem dL_law_217 : decode cL_law 217 = .ok (.lcmp, 1) := by decide +kernel
theorem dL_law_218 : decode cL_law 218 = .ok (.ifCond .ne 65, 3) := by decide +kernel
theorem dL_law_221 : decode cL_law 221 = .ok (.aload_n 1, 1) := by decide +kernel
theorem dL_law_222 : decode cL_law 222 = .ok (.aload_n 2, 1) := by decide +kernel
theorem dL_law_223 : decode cL_law 223 = .ok (.iconst 0, 1) := by decide +kernel
theorem dL_law_224 : decode cL_law 224 = .ok (.iaload, 1) := by decide +kernel
theorem dL_law_225 : decode cL_law 225 = .ok (.bipush 9, 2) := by decide +kernel
theorem dL_law_227 : decode cL_law 227 = .ok (.invokestatic 153, 3) := by decide +kernel
theorem dL_law_230 : decode cL_law 230 = .ok (.ldc 31, 2) := by decide +kernel
theorem dL_law_232 : decode cL_law 232 = .ok (.if_icmp .ne 51, 3) := by decide +kernel
theorem dL_law_235 : decode cL_law 235 = .ok (.aload_n 1, 1) := by decide +kernel
theorem dL_law_236 : decode cL_law 236 = .ok (.aload_n 2, 1) := by decide +kernel
theorem dL_law_237 : decode cL_law 237 = .ok (.iconst 0, 1) := by decide +kernel
theorem dL_law_238 : decode cL_law 238 = .ok (.iaload, 1) := by decide +kernel
theorem dL_law_239 : decode cL_law 239 = .ok (.invokestatic 157, 3) := by decide +kernel
theorem dL_law_242 : decode cL_law 242 = .ok (.ldc2_w 36, 3) := by decide +kernel
theorem dL_law_245 : decode cL_law 245 = .ok (.lcmp, 1) := by decide +kernel
theorem dL_law_246 : decode cL_law 246 = .ok (.ifCond .ne 37, 3) := by decide +kernel
theorem dL_law_249 : decode cL_law 249 = .ok (.aload_n 1, 1) := by decide +kernel
theorem dL_law_250 : decode cL_law 250 = .ok (.iconst (-1), 1) := by decide +kernel
theorem dL_law_251 : decode cL_law 251 = .ok (.invokestatic 157, 3) := by decide +kernel
theorem dL_law_254 : decode cL_law 254 = .ok (.ldc2_w 36, 3) := by decide +kernel
theorem dL_law_257 : decode cL_law 257 = .ok (.lcmp, 1) := by decide +kernel
theorem dL_law_258 : decode cL_law 258 = .ok (.ifCond .ne 25, 3) := by decide +kernel
theorem dL_law_261 : decode cL_law 261 = .ok (.aload_n 2, 1) := by decide +kernel
theorem dL_law_262 : decode cL_law 262 = .ok (.iconst 0, 1) := by decide +kernel
theorem dL_law_263 : decode cL_law 263 = .ok (.iaload, 1) := by decide +kernel
theorem dL_law_264 : decode cL_law 264 = .ok (.ifCond .eq 15, 3) := by decide +kernel
theorem dL_law_267 : decode cL_law 267 = .ok (.aload_n 1, 1) := by decide +kernel
theorem dL_law_268 : decode cL_law 268 = .ok (.iconst 0, 1) := by decide +kernel
theorem dL_law_269 : decode cL_law 269 = .ok (.bipush 6, 2) := by decide +kernel
theorem dL_law_271 : decode cL_law 271 = .ok (.invokestatic 153, 3) := by decide +kernel
theorem dL_law_274 : decode cL_law 274 = .ok (.ldc 24, 2) := by decide +kernel
theorem dL_law_276 : decode cL_law 276 = .ok (.if_icmp .ne 7, 3) := by decide +kernel
theorem dL_law_279 : decode cL_law 279 = .ok (.iconst 1, 1) := by decide +kernel
theorem dL_law_280 : decode cL_law 280 = .ok (.goto 4, 3) := by decide +kernel
theorem dL_law_283 : decode cL_law 283 = .ok (.iconst 0, 1) := by decide +kernel
theorem dL_law_284 : decode cL_law 284 = .ok (.ireturn, 1) := by decide +kernel
