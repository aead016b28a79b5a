theorem dL_isSo_560 : decode cL_isSo 560 = .ok (.imul, 1) := by decide +kernel
theorem dL_isSo_561 : decode cL_isSo 561 = .ok (.iconst 4, 1) := by decide +kernel
theorem dL_isSo_562 : decode cL_isSo 562 = .ok (.iadd, 1) := by decide +kernel
theorem dL_isSo_563 : decode cL_isSo 563 = .ok (.iaload, 1) := by decide +kernel
theorem dL_isSo_564 : decode cL_isSo 564 = .ok (.iload 8, 2) := by decide +kernel
theorem dL_isSo_566 : decode cL_isSo 566 = .ok (.aload_n 3, 1) := by decide +kernel
theorem dL_isSo_567 : decode cL_isSo 567 = .ok (.bipush 7, 2) := by decide +kernel
theorem dL_isSo_569 : decode cL_isSo 569 = .ok (.iload 7, 2) := by decide +kernel
theorem dL_isSo_571 : decode cL_isSo 571 = .ok (.imul, 1) := by decide +kernel
theorem dL_isSo_572 : decode cL_isSo 572 = .ok (.iconst 5, 1) := by decide +kernel
theorem dL_isSo_573 : decode cL_isSo 573 = .ok (.iadd, 1) := by decide +kernel
theorem dL_isSo_574 : decode cL_isSo 574 = .ok (.iaload, 1) := by decide +kernel
theorem dL_isSo_575 : decode cL_isSo 575 = .ok (.iadd, 1) := by decide +kernel
theorem dL_isSo_576 : decode cL_isSo 576 = .ok (.aload_n 3, 1) := by decide +kernel
theorem dL_isSo_577 : decode cL_isSo 577 = .ok (.bipush 7, 2) := by decide +kernel
theorem dL_isSo_579 : decode cL_isSo 579 = .ok (.iload 7, 2) := by decide +kernel
theorem dL_isSo_581 : decode cL_isSo 581 = .ok (.imul, 1) := by decide +kernel
theorem dL_isSo_582 : decode cL_isSo 582 = .ok (.bipush 6, 2) := by decide +kernel
theorem dL_isSo_584 : decode cL_isSo 584 = .ok (.iadd, 1) := by decide +kernel
theorem dL_isSo_585 : decode cL_isSo 585 = .ok (.iaload, 1) := by decide +kernel
theorem dL_isSo_586 : decode cL_isSo 586 = .ok (.iadd, 1) := by decide +kernel
theorem dL_isSo_587 : decode cL_isSo 587 = .ok (.if_icmp .ne 7, 3) := by decide +kernel
theorem dL_isSo_590 : decode cL_isSo 590 = .ok (.iconst 1, 1) := by decide +kernel
theorem dL_isSo_591 : decode cL_isSo 591 = .ok (.goto 4, 3) := by decide +kernel
theorem dL_isSo_594 : decode cL_isSo 594 = .ok (.iconst 0, 1) := by decide +kernel
theorem dL_isSo_595 : decode cL_isSo 595 = .ok (.istore 11, 2) := by decide +kernel
theorem dL_isSo_597 : decode cL_isSo 597 = .ok (.iload 10, 2) := by decide +kernel
theorem dL_isSo_599 : decode cL_isSo 599 = .ok (.ifCond .eq 176, 3) := by decide +kernel
theorem dL_isSo_602 : decode cL_isSo 602 = .ok (.iload 11, 2) := by decide +kernel
theorem dL_isSo_604 : decode cL_isSo 604 = .ok (.ifCond .eq 171, 3) := by decide +kernel
theorem dL_isSo_607 : decode cL_isSo 607 = .ok (.aload_n 0, 1) := by decide +kernel
theorem dL_isSo_608 : decode cL_isSo 608 = .ok (.iload 7, 2) := by decide +kernel
theorem dL_isSo_610 : decode cL_isSo 610 = .ok (.iconst 0, 1) := by decide +kernel
theorem dL_isSo_611 : decode cL_isSo 611 = .ok (.invokevirtual 99, 3) := by decide +kernel
theorem dL_isSo_614 : decode cL_isSo 614 = .ok (.aload_n 3, 1) := by decide +kernel
theorem dL_isSo_615 : decode cL_isSo 615 = .ok (.bipush 7, 2) := by decide +kernel
theorem dL_isSo_617 : decode cL_isSo 617 = .ok (.iload 7, 2) := by decide +kernel
theorem dL_isSo_619 : decode cL_isSo 619 = .ok (.imul, 1) := by decide +kernel
theorem dL_isSo_620 : decode cL_isSo 620 = .ok (.iaload, 1) := by decide +kernel
theorem dL_isSo_621 : decode cL_isSo 621 = .ok (.if_icmp .ne 154, 3) := by decide +kernel
theorem dL_isSo_624 : decode cL_isSo 624 = .ok (.aload_n 0, 1) := by decide +kernel
theorem dL_isSo_625 : decode cL_isSo 625 = .ok (.iload 7, 2) := by decide +kernel
theorem dL_isSo_627 : decode cL_isSo 627 = .ok (.iconst 1, 1) := by decide +kernel
theorem dL_isSo_628 : decode cL_isSo 628 = .ok (.invokevirtual 99, 3) := by decide +kernel
theorem dL_isSo_631 : decode cL_isSo 631 = .ok (.aload_n 3, 1) := by decide +kernel
theorem dL_isSo_632 : decode cL_isSo 632 = .ok (.bipush 7, 2) := by decide +kernel
theorem dL_isSo_634 : decode cL_isSo 634 = .ok (.iload 7, 2) := by decide +kernel
theorem dL_isSo_636 : decode cL_isSo 636 = .ok (.imul, 1) := by decide +kernel
theorem dL_isSo_637 : decode cL_isSo 637 = .ok (.iconst 1, 1) := by decide +kernel
theorem dL_isSo_638 : decode cL_isSo 638 = .ok (.iadd, 1) := by decide +kernel
theorem dL_isSo_639 : decode cL_isSo 639 = .ok (.iaload, 1) := by decide +kernel
theorem dL_isSo_640 : decode cL_isSo 640 = .ok (.if_icmp .ne 135, 3) := by decide +kernel
theorem dL_isSo_643 : decode cL_isSo 643 = .ok (.aload_n 0, 1) := by decide +kernel
theorem dL_isSo_644 : decode cL_isSo 644 = .ok (.iload 7, 2) := by decide +kernel
theorem dL_isSo_646 : decode cL_isSo 646 = .ok (.iconst 2, 1) := by decide +kernel
theorem dL_isSo_647 : decode cL_isSo 647 = .ok (.invokevirtual 99, 3) := by decide +kernel
theorem dL_isSo_650 : decode cL_isSo 650 = .ok (.aload_n 3, 1) := by decide +kernel
theorem dL_isSo_651 : decode cL_isSo 651 = .ok (.bipush 7, 2) := by decide +kernel
theorem dL_isSo_653 : decode cL_isSo 653 = .ok (.iload 7, 2) := by decide +kernel
theorem dL_isSo_655 : decode cL_isSo 655 = .ok (.imul, 1) := by decide +kernel
theorem dL_isSo_656 : decode cL_isSo 656 = .ok (.iconst 2, 1) := by decide +kernel
theorem dL_isSo_657 : decode cL_isSo 657 = .ok (.iadd, 1) := by decide +kernel
theorem dL_isSo_658 : decode cL_isSo 658 = .ok (.iaload, 1) := by decide +kernel
theorem dL_isSo_659 : decode cL_isSo 659 = .ok (.if_icmp .ne 116, 3) := by decide +kernel
theorem dL_isSo_662 : decode cL_isSo 662 = .ok (.aload_n 0, 1) := by decide +kernel
theorem dL_isSo_663 : decode cL_isSo 663 = .ok (.iload 7, 2) := by decide +kernel
theorem dL_isSo_665 : decode cL_isSo 665 = .ok (.iconst 3, 1) := by decide +kernel
theorem dL_isSo_666 : decode cL_isSo 666 = .ok (.invokevirtual 99, 3) := by decide +kernel
theorem dL_isSo_669 : decode cL_isSo 669 = .ok (.aload_n 1, 1) := by decide +kernel
theorem dL_isSo_670 : decode cL_isSo 670 = .ok (.aload_n 3, 1) := by decide +kernel
theorem dL_isSo_671 : decode cL_isSo 671 = .ok (.iload 7, 2) := by decide +kernel
theorem dL_isSo_673 : decode cL_isSo 673 = .ok (.invokestatic 37, 3) := by decide +kernel
theorem dL_isSo_676 : decode cL_isSo 676 = .ok (.if_icmp .ne 99, 3) := by decide +kernel
theorem dL_isSo_679 : decode cL_isSo 679 = .ok (.aload_n 0, 1) := by decide +kernel
theorem dL_isSo_680 : decode cL_isSo 680 = .ok (.iload 7, 2) := by decide +kernel
theorem dL_isSo_682 : decode cL_isSo 682 = .ok (.iconst 4, 1) := by decide +kernel
theorem dL_isSo_683 : decode cL_isSo 683 = .ok (.invokevirtual 99, 3) := by decide +kernel
theorem dL_isSo_686 : decode cL_isSo 686 = .ok (.aload_n 3, 1) := by decide +kernel
theorem dL_isSo_687 : decode cL_isSo 687 = .ok (.bipush 7, 2) := by decide +kernel
theorem dL_isSo_689 : decode cL_isSo 689 = .ok (.iload 7, 2) := by decide +kernel
theorem dL_isSo_691 : decode cL_isSo 691 = .ok (.imul, 1) := by decide +kernel
theorem dL_isSo_692 : decode cL_isSo 692 = .ok (.iconst 3, 1) := by decide +kernel
theorem dL_isSo_693 : decode cL_isSo 693 = .ok (.iadd, 1) := by decide +kernel
theorem dL_isSo_694 : decode cL_isSo 694 = .ok (.iaload, 1) := by decide +kernel
theorem dL_isSo_695 : decode cL_isSo 695 = .ok (.if_icmp .ne 80, 3) := by decide +kernel
theorem dL_isSo_698 : decode cL_isSo 698 = .ok (.aload_n 0, 1) := by decide +kernel
theorem dL_isSo_699 : decode cL_isSo 699 = .ok (.iload 7, 2) := by decide +kernel
theorem dL_isSo_701 : decode cL_isSo 701 = .ok (.iconst 5, 1) := by decide +kernel
theorem dL_isSo_702 : decode cL_isSo 702 = .ok (.invokevirtual 99, 3) := by decide +kernel
theorem dL_isSo_705 : decode cL_isSo 705 = .ok (.aload_n 3, 1) := by decide +kernel
theorem dL_isSo_706 : decode cL_isSo 706 = .ok (.bipush 7, 2) := by decide +kernel
theorem dL_isSo_708 : decode cL_isSo 708 = .ok (.iload 7, 2) := by decide +kernel
theorem dL_isSo_710 : decode cL_isSo 710 = .ok (.imul, 1) := by decide +kernel
theorem dL_isSo_711 : decode cL_isSo 711 = .ok (.iconst 4, 1) := by decide +kernel
theorem dL_isSo_712 : decode cL_isSo 712 = .ok (.iadd, 1) := by decide +kernel
theorem dL_isSo_713 : decode cL_isSo 713 = .ok (.iaload, 1) := by decide +kernel
theorem dL_isSo_714 : decode cL_isSo 714 = .ok (.if_icmp .ne 61, 3) := by decide +kernel
theorem dL_isSo_717 : decode cL_isSo 717 = .ok (.aload_n 0, 1) := by decide +kernel
theorem dL_isSo_718 : decode cL_isSo 718 = .ok (.iload 7, 2) := by decide +kernel
theorem dL_isSo_720 : decode cL_isSo 720 = .ok (.bipush 6, 2) := by decide +kernel
theorem dL_isSo_722 : decode cL_isSo 722 = .ok (.invokevirtual 99, 3) := by decide +kernel
theorem dL_isSo_725 : decode cL_isSo 725 = .ok (.iload 8, 2) := by decide +kernel
theorem dL_isSo_727 : decode cL_isSo 727 = .ok (.if_icmp .ne 48, 3) := by decide +kernel
theorem dL_isSo_730 : decode cL_isSo 730 = .ok (.aload_n 0, 1) := by decide +kernel
theorem dL_isSo_731 : decode cL_isSo 731 = .ok (.iload 7, 2) := by decide +kernel
theorem dL_isSo_733 : decode cL_isSo 733 = .ok (.bipush 7, 2) := by decide +kernel
theorem dL_isSo_735 : decode cL_isSo 735 = .ok (.invokevirtual 99, 3) := by decide +kernel
theorem dL_isSo_738 : decode cL_isSo 738 = .ok (.aload_n 3, 1) := by decide +kernel
theorem dL_isSo_739 : decode cL_isSo 739 = .ok (.bipush 7, 2) := by decide +kernel
theorem dL_isSo_741 : decode cL_isSo 741 = .ok (.iload 7, 2) := by decide +kernel
