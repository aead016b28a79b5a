theorem dL_acts_597 : decode cL_acts 597 = .ok (.iconst 5, 1) := by decide +kernel
theorem dL_acts_598 : decode cL_acts 598 = .ok (.irem, 1) := by decide +kernel
theorem dL_acts_599 : decode cL_acts 599 = .ok (.ifCond .ne 17, 3) := by decide +kernel
theorem dL_acts_602 : decode cL_acts 602 = .ok (.iconst 1, 1) := by decide +kernel
theorem dL_acts_603 : decode cL_acts 603 = .ok (.iload 7, 2) := by decide +kernel
theorem dL_acts_605 : decode cL_acts 605 = .ok (.bipush 24, 2) := by decide +kernel
theorem dL_acts_607 : decode cL_acts 607 = .ok (.idiv, 1) := by decide +kernel
theorem dL_acts_608 : decode cL_acts 608 = .ok (.sipush 1000, 3) := by decide +kernel
theorem dL_acts_611 : decode cL_acts 611 = .ok (.irem, 1) := by decide +kernel
theorem dL_acts_612 : decode cL_acts 612 = .ok (.iadd, 1) := by decide +kernel
theorem dL_acts_613 : decode cL_acts 613 = .ok (.goto 13, 3) := by decide +kernel
theorem dL_acts_616 : decode cL_acts 616 = .ok (.iconst 1, 1) := by decide +kernel
theorem dL_acts_617 : decode cL_acts 617 = .ok (.iload 7, 2) := by decide +kernel
theorem dL_acts_619 : decode cL_acts 619 = .ok (.bipush 24, 2) := by decide +kernel
theorem dL_acts_621 : decode cL_acts 621 = .ok (.idiv, 1) := by decide +kernel
theorem dL_acts_622 : decode cL_acts 622 = .ok (.iload 11, 2) := by decide +kernel
theorem dL_acts_624 : decode cL_acts 624 = .ok (.irem, 1) := by decide +kernel
theorem dL_acts_625 : decode cL_acts 625 = .ok (.iadd, 1) := by decide +kernel
theorem dL_acts_626 : decode cL_acts 626 = .ok (.istore 12, 2) := by decide +kernel
theorem dL_acts_628 : decode cL_acts 628 = .ok (.iload 12, 2) := by decide +kernel
theorem dL_acts_630 : decode cL_acts 630 = .ok (.sipush 1000, 3) := by decide +kernel
theorem dL_acts_633 : decode cL_acts 633 = .ok (.if_icmp .le 9, 3) := by decide +kernel
theorem dL_acts_636 : decode cL_acts 636 = .ok (.sipush 1000, 3) := by decide +kernel
theorem dL_acts_639 : decode cL_acts 639 = .ok (.goto 5, 3) := by decide +kernel
theorem dL_acts_642 : decode cL_acts 642 = .ok (.iload 12, 2) := by decide +kernel
theorem dL_acts_644 : decode cL_acts 644 = .ok (.istore 12, 2) := by decide +kernel
theorem dL_acts_646 : decode cL_acts 646 = .ok (.iload 12, 2) := by decide +kernel
theorem dL_acts_648 : decode cL_acts 648 = .ok (.iload 11, 2) := by decide +kernel
theorem dL_acts_650 : decode cL_acts 650 = .ok (.if_icmp .le 24, 3) := by decide +kernel
theorem dL_acts_653 : decode cL_acts 653 = .ok (.aload_n 0, 1) := by decide +kernel
theorem dL_acts_654 : decode cL_acts 654 = .ok (.iload 9, 2) := by decide +kernel
theorem dL_acts_656 : decode cL_acts 656 = .ok (.iload 10, 2) := by decide +kernel
theorem dL_acts_658 : decode cL_acts 658 = .ok (.iload 12, 2) := by decide +kernel
theorem dL_acts_660 : decode cL_acts 660 = .ok (.invokevirtual 65, 3) := by decide +kernel
theorem dL_acts_663 : decode cL_acts 663 = .ok (.bipush (-2), 2) := by decide +kernel
theorem dL_acts_665 : decode cL_acts 665 = .ok (.if_icmp .ne 7, 3) := by decide +kernel
theorem dL_acts_668 : decode cL_acts 668 = .ok (.iconst 1, 1) := by decide +kernel
theorem dL_acts_669 : decode cL_acts 669 = .ok (.goto 4, 3) := by decide +kernel
theorem dL_acts_672 : decode cL_acts 672 = .ok (.iconst 0, 1) := by decide +kernel
theorem dL_acts_673 : decode cL_acts 673 = .ok (.ireturn, 1) := by decide +kernel
theorem dL_acts_674 : decode cL_acts 674 = .ok (.aload_n 1, 1) := by decide +kernel
theorem dL_acts_675 : decode cL_acts 675 = .ok (.iconst 3, 1) := by decide +kernel
theorem dL_acts_676 : decode cL_acts 676 = .ok (.iaload, 1) := by decide +kernel
theorem dL_acts_677 : decode cL_acts 677 = .ok (.bipush 12, 2) := by decide +kernel
theorem dL_acts_679 : decode cL_acts 679 = .ok (.if_icmp .ne 24, 3) := by decide +kernel
theorem dL_acts_682 : decode cL_acts 682 = .ok (.aload_n 0, 1) := by decide +kernel
theorem dL_acts_683 : decode cL_acts 683 = .ok (.iload 9, 2) := by decide +kernel
theorem dL_acts_685 : decode cL_acts 685 = .ok (.iload 10, 2) := by decide +kernel
theorem dL_acts_687 : decode cL_acts 687 = .ok (.iload 12, 2) := by decide +kernel
theorem dL_acts_689 : decode cL_acts 689 = .ok (.invokevirtual 65, 3) := by decide +kernel
theorem dL_acts_692 : decode cL_acts 692 = .ok (.bipush (-3), 2) := by decide +kernel
theorem dL_acts_694 : decode cL_acts 694 = .ok (.if_icmp .ne 7, 3) := by decide +kernel
theorem dL_acts_697 : decode cL_acts 697 = .ok (.iconst 1, 1) := by decide +kernel
theorem dL_acts_698 : decode cL_acts 698 = .ok (.goto 4, 3) := by decide +kernel
theorem dL_acts_701 : decode cL_acts 701 = .ok (.iconst 0, 1) := by decide +kernel
theorem dL_acts_702 : decode cL_acts 702 = .ok (.ireturn, 1) := by decide +kernel
theorem dL_acts_703 : decode cL_acts 703 = .ok (.iconst 5, 1) := by decide +kernel
theorem dL_acts_704 : decode cL_acts 704 = .ok (.aload_n 1, 1) := by decide +kernel
theorem dL_acts_705 : decode cL_acts 705 = .ok (.iconst 3, 1) := by decide +kernel
theorem dL_acts_706 : decode cL_acts 706 = .ok (.iaload, 1) := by decide +kernel
theorem dL_acts_707 : decode cL_acts 707 = .ok (.imul, 1) := by decide +kernel
theorem dL_acts_708 : decode cL_acts 708 = .ok (.istore 13, 2) := by decide +kernel
theorem dL_acts_710 : decode cL_acts 710 = .ok (.aload 5, 2) := by decide +kernel
theorem dL_acts_712 : decode cL_acts 712 = .ok (.iload 13, 2) := by decide +kernel
theorem dL_acts_714 : decode cL_acts 714 = .ok (.iload 9, 2) := by decide +kernel
theorem dL_acts_716 : decode cL_acts 716 = .ok (.iastore, 1) := by decide +kernel
theorem dL_acts_717 : decode cL_acts 717 = .ok (.aload 5, 2) := by decide +kernel
theorem dL_acts_719 : decode cL_acts 719 = .ok (.iload 13, 2) := by decide +kernel
theorem dL_acts_721 : decode cL_acts 721 = .ok (.iconst 1, 1) := by decide +kernel
theorem dL_acts_722 : decode cL_acts 722 = .ok (.iadd, 1) := by decide +kernel
theorem dL_acts_723 : decode cL_acts 723 = .ok (.iload 10, 2) := by decide +kernel
theorem dL_acts_725 : decode cL_acts 725 = .ok (.iastore, 1) := by decide +kernel
theorem dL_acts_726 : decode cL_acts 726 = .ok (.aload 5, 2) := by decide +kernel
theorem dL_acts_728 : decode cL_acts 728 = .ok (.iload 13, 2) := by decide +kernel
theorem dL_acts_730 : decode cL_acts 730 = .ok (.iconst 2, 1) := by decide +kernel
theorem dL_acts_731 : decode cL_acts 731 = .ok (.iadd, 1) := by decide +kernel
theorem dL_acts_732 : decode cL_acts 732 = .ok (.iload 12, 2) := by decide +kernel
theorem dL_acts_734 : decode cL_acts 734 = .ok (.iastore, 1) := by decide +kernel
theorem dL_acts_735 : decode cL_acts 735 = .ok (.aload 5, 2) := by decide +kernel
theorem dL_acts_737 : decode cL_acts 737 = .ok (.iload 13, 2) := by decide +kernel
theorem dL_acts_739 : decode cL_acts 739 = .ok (.iconst 3, 1) := by decide +kernel
theorem dL_acts_740 : decode cL_acts 740 = .ok (.iadd, 1) := by decide +kernel
theorem dL_acts_741 : decode cL_acts 741 = .ok (.ldc 15, 2) := by decide +kernel
theorem dL_acts_743 : decode cL_acts 743 = .ok (.iastore, 1) := by decide +kernel
theorem dL_acts_744 : decode cL_acts 744 = .ok (.aload 5, 2) := by decide +kernel
theorem dL_acts_746 : decode cL_acts 746 = .ok (.iload 13, 2) := by decide +kernel
theorem dL_acts_748 : decode cL_acts 748 = .ok (.iconst 4, 1) := by decide +kernel
theorem dL_acts_749 : decode cL_acts 749 = .ok (.iadd, 1) := by decide +kernel
theorem dL_acts_750 : decode cL_acts 750 = .ok (.iconst 0, 1) := by decide +kernel
theorem dL_acts_751 : decode cL_acts 751 = .ok (.iastore, 1) := by decide +kernel
theorem dL_acts_752 : decode cL_acts 752 = .ok (.aload_n 1, 1) := by decide +kernel
theorem dL_acts_753 : decode cL_acts 753 = .ok (.iconst 3, 1) := by decide +kernel
theorem dL_acts_754 : decode cL_acts 754 = .ok (.dup2, 1) := by decide +kernel
theorem dL_acts_755 : decode cL_acts 755 = .ok (.iaload, 1) := by decide +kernel
theorem dL_acts_756 : decode cL_acts 756 = .ok (.iconst 1, 1) := by decide +kernel
theorem dL_acts_757 : decode cL_acts 757 = .ok (.iadd, 1) := by decide +kernel
theorem dL_acts_758 : decode cL_acts 758 = .ok (.iastore, 1) := by decide +kernel
theorem dL_acts_759 : decode cL_acts 759 = .ok (.aload 4, 2) := by decide +kernel
theorem dL_acts_761 : decode cL_acts 761 = .ok (.iconst 4, 1) := by decide +kernel
theorem dL_acts_762 : decode cL_acts 762 = .ok (.iload 9, 2) := by decide +kernel
theorem dL_acts_764 : decode cL_acts 764 = .ok (.imul, 1) := by decide +kernel
theorem dL_acts_765 : decode cL_acts 765 = .ok (.iload 10, 2) := by decide +kernel
theorem dL_acts_767 : decode cL_acts 767 = .ok (.iadd, 1) := by decide +kernel
theorem dL_acts_768 : decode cL_acts 768 = .ok (.dup2, 1) := by decide +kernel
theorem dL_acts_769 : decode cL_acts 769 = .ok (.iaload, 1) := by decide +kernel
theorem dL_acts_770 : decode cL_acts 770 = .ok (.iload 12, 2) := by decide +kernel
theorem dL_acts_772 : decode cL_acts 772 = .ok (.iadd, 1) := by decide +kernel
theorem dL_acts_773 : decode cL_acts 773 = .ok (.iastore, 1) := by decide +kernel
theorem dL_acts_774 : decode cL_acts 774 = .ok (.aload_n 3, 1) := by decide +kernel
theorem dL_acts_775 : decode cL_acts 775 = .ok (.bipush 7, 2) := by decide +kernel
