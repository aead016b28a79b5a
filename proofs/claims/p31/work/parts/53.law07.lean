theorem dL_stacked_557 : decode cL_stacked 557 = .ok (.imul, 1) := by decide +kernel
theorem dL_stacked_558 : decode cL_stacked 558 = .ok (.iconst 5, 1) := by decide +kernel
theorem dL_stacked_559 : decode cL_stacked 559 = .ok (.iadd, 1) := by decide +kernel
theorem dL_stacked_560 : decode cL_stacked 560 = .ok (.dup2, 1) := by decide +kernel
theorem dL_stacked_561 : decode cL_stacked 561 = .ok (.iaload, 1) := by decide +kernel
theorem dL_stacked_562 : decode cL_stacked 562 = .ok (.iload 8, 2) := by decide +kernel
theorem dL_stacked_564 : decode cL_stacked 564 = .ok (.iadd, 1) := by decide +kernel
theorem dL_stacked_565 : decode cL_stacked 565 = .ok (.iastore, 1) := by decide +kernel
theorem dL_stacked_566 : decode cL_stacked 566 = .ok (.aload_n 2, 1) := by decide +kernel
theorem dL_stacked_567 : decode cL_stacked 567 = .ok (.iconst 3, 1) := by decide +kernel
theorem dL_stacked_568 : decode cL_stacked 568 = .ok (.aload 4, 2) := by decide +kernel
theorem dL_stacked_570 : decode cL_stacked 570 = .ok (.iconst 5, 1) := by decide +kernel
theorem dL_stacked_571 : decode cL_stacked 571 = .ok (.iload 7, 2) := by decide +kernel
theorem dL_stacked_573 : decode cL_stacked 573 = .ok (.imul, 1) := by decide +kernel
theorem dL_stacked_574 : decode cL_stacked 574 = .ok (.iaload, 1) := by decide +kernel
theorem dL_stacked_575 : decode cL_stacked 575 = .ok (.imul, 1) := by decide +kernel
theorem dL_stacked_576 : decode cL_stacked 576 = .ok (.aload 4, 2) := by decide +kernel
theorem dL_stacked_578 : decode cL_stacked 578 = .ok (.iconst 5, 1) := by decide +kernel
theorem dL_stacked_579 : decode cL_stacked 579 = .ok (.iload 7, 2) := by decide +kernel
theorem dL_stacked_581 : decode cL_stacked 581 = .ok (.imul, 1) := by decide +kernel
theorem dL_stacked_582 : decode cL_stacked 582 = .ok (.iconst 3, 1) := by decide +kernel
theorem dL_stacked_583 : decode cL_stacked 583 = .ok (.iadd, 1) := by decide +kernel
theorem dL_stacked_584 : decode cL_stacked 584 = .ok (.iaload, 1) := by decide +kernel
theorem dL_stacked_585 : decode cL_stacked 585 = .ok (.sipush 30000, 3) := by decide +kernel
theorem dL_stacked_588 : decode cL_stacked 588 = .ok (.if_icmp .le 7, 3) := by decide +kernel
theorem dL_stacked_591 : decode cL_stacked 591 = .ok (.iconst 2, 1) := by decide +kernel
theorem dL_stacked_592 : decode cL_stacked 592 = .ok (.goto 4, 3) := by decide +kernel
theorem dL_stacked_595 : decode cL_stacked 595 = .ok (.iconst 1, 1) := by decide +kernel
theorem dL_stacked_596 : decode cL_stacked 596 = .ok (.iadd, 1) := by decide +kernel
theorem dL_stacked_597 : decode cL_stacked 597 = .ok (.dup2, 1) := by decide +kernel
theorem dL_stacked_598 : decode cL_stacked 598 = .ok (.iaload, 1) := by decide +kernel
theorem dL_stacked_599 : decode cL_stacked 599 = .ok (.iload 8, 2) := by decide +kernel
theorem dL_stacked_601 : decode cL_stacked 601 = .ok (.iadd, 1) := by decide +kernel
theorem dL_stacked_602 : decode cL_stacked 602 = .ok (.iastore, 1) := by decide +kernel
theorem dL_stacked_603 : decode cL_stacked 603 = .ok (.aload 4, 2) := by decide +kernel
theorem dL_stacked_605 : decode cL_stacked 605 = .ok (.iconst 5, 1) := by decide +kernel
theorem dL_stacked_606 : decode cL_stacked 606 = .ok (.iload 7, 2) := by decide +kernel
theorem dL_stacked_608 : decode cL_stacked 608 = .ok (.imul, 1) := by decide +kernel
theorem dL_stacked_609 : decode cL_stacked 609 = .ok (.iconst 2, 1) := by decide +kernel
theorem dL_stacked_610 : decode cL_stacked 610 = .ok (.iadd, 1) := by decide +kernel
theorem dL_stacked_611 : decode cL_stacked 611 = .ok (.dup2, 1) := by decide +kernel
theorem dL_stacked_612 : decode cL_stacked 612 = .ok (.iaload, 1) := by decide +kernel
theorem dL_stacked_613 : decode cL_stacked 613 = .ok (.iload 8, 2) := by decide +kernel
theorem dL_stacked_615 : decode cL_stacked 615 = .ok (.isub, 1) := by decide +kernel
theorem dL_stacked_616 : decode cL_stacked 616 = .ok (.iastore, 1) := by decide +kernel
theorem dL_stacked_617 : decode cL_stacked 617 = .ok (.aload 4, 2) := by decide +kernel
theorem dL_stacked_619 : decode cL_stacked 619 = .ok (.iconst 5, 1) := by decide +kernel
theorem dL_stacked_620 : decode cL_stacked 620 = .ok (.iload 7, 2) := by decide +kernel
theorem dL_stacked_622 : decode cL_stacked 622 = .ok (.imul, 1) := by decide +kernel
theorem dL_stacked_623 : decode cL_stacked 623 = .ok (.iconst 2, 1) := by decide +kernel
theorem dL_stacked_624 : decode cL_stacked 624 = .ok (.iadd, 1) := by decide +kernel
theorem dL_stacked_625 : decode cL_stacked 625 = .ok (.iaload, 1) := by decide +kernel
theorem dL_stacked_626 : decode cL_stacked 626 = .ok (.ifCond .ne 11, 3) := by decide +kernel
theorem dL_stacked_629 : decode cL_stacked 629 = .ok (.aload_n 1, 1) := by decide +kernel
theorem dL_stacked_630 : decode cL_stacked 630 = .ok (.aload 4, 2) := by decide +kernel
theorem dL_stacked_632 : decode cL_stacked 632 = .ok (.iload 7, 2) := by decide +kernel
theorem dL_stacked_634 : decode cL_stacked 634 = .ok (.invokestatic 29, 3) := by decide +kernel
theorem dL_stacked_637 : decode cL_stacked 637 = .ok (.aload_n 0, 1) := by decide +kernel
theorem dL_stacked_638 : decode cL_stacked 638 = .ok (.iload 7, 2) := by decide +kernel
theorem dL_stacked_640 : decode cL_stacked 640 = .ok (.iload 8, 2) := by decide +kernel
theorem dL_stacked_642 : decode cL_stacked 642 = .ok (.invokevirtual 22, 3) := by decide +kernel
theorem dL_stacked_645 : decode cL_stacked 645 = .ok (.iload 9, 2) := by decide +kernel
theorem dL_stacked_647 : decode cL_stacked 647 = .ok (.if_icmp .ne 7, 3) := by decide +kernel
theorem dL_stacked_650 : decode cL_stacked 650 = .ok (.iconst 1, 1) := by decide +kernel
theorem dL_stacked_651 : decode cL_stacked 651 = .ok (.goto 4, 3) := by decide +kernel
theorem dL_stacked_654 : decode cL_stacked 654 = .ok (.iconst 0, 1) := by decide +kernel
theorem dL_stacked_655 : decode cL_stacked 655 = .ok (.ireturn, 1) := by decide +kernel
theorem dL_acts_0 : decode cL_acts 0 = .ok (.iload 6, 2) := by decide +kernel
theorem dL_acts_2 : decode cL_acts 2 = .ok (.iconst 5, 1) := by decide +kernel
theorem dL_acts_3 : decode cL_acts 3 = .ok (.ishr, 1) := by decide +kernel
theorem dL_acts_4 : decode cL_acts 4 = .ok (.ldc 41, 2) := by decide +kernel
theorem dL_acts_6 : decode cL_acts 6 = .ok (.invokestatic 42, 3) := by decide +kernel
theorem dL_acts_9 : decode cL_acts 9 = .ok (.istore 7, 2) := by decide +kernel
theorem dL_acts_11 : decode cL_acts 11 = .ok (.iload 6, 2) := by decide +kernel
theorem dL_acts_13 : decode cL_acts 13 = .ok (.bipush 26, 2) := by decide +kernel
theorem dL_acts_15 : decode cL_acts 15 = .ok (.invokestatic 42, 3) := by decide +kernel
theorem dL_acts_18 : decode cL_acts 18 = .ok (.istore 8, 2) := by decide +kernel
theorem dL_acts_20 : decode cL_acts 20 = .ok (.iload 8, 2) := by decide +kernel
theorem dL_acts_22 : decode cL_acts 22 = .ok (.ifCond .eq 9, 3) := by decide +kernel
theorem dL_acts_25 : decode cL_acts 25 = .ok (.aload_n 1, 1) := by decide +kernel
theorem dL_acts_26 : decode cL_acts 26 = .ok (.iconst 1, 1) := by decide +kernel
theorem dL_acts_27 : decode cL_acts 27 = .ok (.iaload, 1) := by decide +kernel
theorem dL_acts_28 : decode cL_acts 28 = .ok (.ifCond .ne 130, 3) := by decide +kernel
theorem dL_acts_31 : decode cL_acts 31 = .ok (.aload_n 1, 1) := by decide +kernel
theorem dL_acts_32 : decode cL_acts 32 = .ok (.iconst 1, 1) := by decide +kernel
theorem dL_acts_33 : decode cL_acts 33 = .ok (.iaload, 1) := by decide +kernel
theorem dL_acts_34 : decode cL_acts 34 = .ok (.bipush 6, 2) := by decide +kernel
theorem dL_acts_36 : decode cL_acts 36 = .ok (.if_icmp .ne 29, 3) := by decide +kernel
theorem dL_acts_39 : decode cL_acts 39 = .ok (.aload_n 0, 1) := by decide +kernel
theorem dL_acts_40 : decode cL_acts 40 = .ok (.iconst 1, 1) := by decide +kernel
theorem dL_acts_41 : decode cL_acts 41 = .ok (.invokevirtual 45, 3) := by decide +kernel
theorem dL_acts_44 : decode cL_acts 44 = .ok (.bipush (-3), 2) := by decide +kernel
theorem dL_acts_46 : decode cL_acts 46 = .ok (.if_icmp .ne 17, 3) := by decide +kernel
theorem dL_acts_49 : decode cL_acts 49 = .ok (.aload_n 0, 1) := by decide +kernel
theorem dL_acts_50 : decode cL_acts 50 = .ok (.bipush 10, 2) := by decide +kernel
theorem dL_acts_52 : decode cL_acts 52 = .ok (.invokevirtual 45, 3) := by decide +kernel
theorem dL_acts_55 : decode cL_acts 55 = .ok (.iconst (-1), 1) := by decide +kernel
theorem dL_acts_56 : decode cL_acts 56 = .ok (.if_icmp .ne 7, 3) := by decide +kernel
theorem dL_acts_59 : decode cL_acts 59 = .ok (.iconst 1, 1) := by decide +kernel
theorem dL_acts_60 : decode cL_acts 60 = .ok (.goto 4, 3) := by decide +kernel
theorem dL_acts_63 : decode cL_acts 63 = .ok (.iconst 0, 1) := by decide +kernel
theorem dL_acts_64 : decode cL_acts 64 = .ok (.ireturn, 1) := by decide +kernel
theorem dL_acts_65 : decode cL_acts 65 = .ok (.aload_n 2, 1) := by decide +kernel
theorem dL_acts_66 : decode cL_acts 66 = .ok (.iconst 3, 1) := by decide +kernel
theorem dL_acts_67 : decode cL_acts 67 = .ok (.aload_n 1, 1) := by decide +kernel
theorem dL_acts_68 : decode cL_acts 68 = .ok (.iconst 1, 1) := by decide +kernel
theorem dL_acts_69 : decode cL_acts 69 = .ok (.iaload, 1) := by decide +kernel
theorem dL_acts_70 : decode cL_acts 70 = .ok (.imul, 1) := by decide +kernel
theorem dL_acts_71 : decode cL_acts 71 = .ok (.iconst 1, 1) := by decide +kernel
theorem dL_acts_72 : decode cL_acts 72 = .ok (.iload 7, 2) := by decide +kernel
