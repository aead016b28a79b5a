theorem dL_goes_3 : decode cL_goes 3 = .ok (.istore_n 3, 1) := by decide +kernel
theorem dL_goes_4 : decode cL_goes 4 = .ok (.iload_n 3, 1) := by decide +kernel
theorem dL_goes_5 : decode cL_goes 5 = .ok (.iconst 5, 1) := by decide +kernel
theorem dL_goes_6 : decode cL_goes 6 = .ok (.aload_n 0, 1) := by decide +kernel
theorem dL_goes_7 : decode cL_goes 7 = .ok (.iconst 3, 1) := by decide +kernel
theorem dL_goes_8 : decode cL_goes 8 = .ok (.iaload, 1) := by decide +kernel
theorem dL_goes_9 : decode cL_goes 9 = .ok (.imul, 1) := by decide +kernel
theorem dL_goes_10 : decode cL_goes 10 = .ok (.iconst 5, 1) := by decide +kernel
theorem dL_goes_11 : decode cL_goes 11 = .ok (.isub, 1) := by decide +kernel
theorem dL_goes_12 : decode cL_goes 12 = .ok (.if_icmp .ge 17, 3) := by decide +kernel
theorem dL_goes_15 : decode cL_goes 15 = .ok (.aload_n 1, 1) := by decide +kernel
theorem dL_goes_16 : decode cL_goes 16 = .ok (.iload_n 3, 1) := by decide +kernel
theorem dL_goes_17 : decode cL_goes 17 = .ok (.aload_n 1, 1) := by decide +kernel
theorem dL_goes_18 : decode cL_goes 18 = .ok (.iload_n 3, 1) := by decide +kernel
theorem dL_goes_19 : decode cL_goes 19 = .ok (.iconst 5, 1) := by decide +kernel
theorem dL_goes_20 : decode cL_goes 20 = .ok (.iadd, 1) := by decide +kernel
theorem dL_goes_21 : decode cL_goes 21 = .ok (.iaload, 1) := by decide +kernel
theorem dL_goes_22 : decode cL_goes 22 = .ok (.iastore, 1) := by decide +kernel
theorem dL_goes_23 : decode cL_goes 23 = .ok (.iinc 3 1, 3) := by decide +kernel
theorem dL_goes_26 : decode cL_goes 26 = .ok (.goto (-22), 3) := by decide +kernel
theorem dL_goes_29 : decode cL_goes 29 = .ok (.aload_n 0, 1) := by decide +kernel
theorem dL_goes_30 : decode cL_goes 30 = .ok (.iconst 3, 1) := by decide +kernel
theorem dL_goes_31 : decode cL_goes 31 = .ok (.dup2, 1) := by decide +kernel
theorem dL_goes_32 : decode cL_goes 32 = .ok (.iaload, 1) := by decide +kernel
theorem dL_goes_33 : decode cL_goes 33 = .ok (.iconst 1, 1) := by decide +kernel
theorem dL_goes_34 : decode cL_goes 34 = .ok (.isub, 1) := by decide +kernel
theorem dL_goes_35 : decode cL_goes 35 = .ok (.iastore, 1) := by decide +kernel
theorem dL_goes_36 : decode cL_goes 36 = .ok (.return_, 1) := by decide +kernel
theorem dL_then_0 : decode cL_then 0 = .ok (.iload_n 0, 1) := by decide +kernel
theorem dL_then_1 : decode cL_then 1 = .ok (.iload_n 0, 1) := by decide +kernel
theorem dL_then_2 : decode cL_then 2 = .ok (.iload_n 2, 1) := by decide +kernel
theorem dL_then_3 : decode cL_then 3 = .ok (.imul, 1) := by decide +kernel
theorem dL_then_4 : decode cL_then 4 = .ok (.iload_n 1, 1) := by decide +kernel
theorem dL_then_5 : decode cL_then 5 = .ok (.iconst 1, 1) := by decide +kernel
theorem dL_then_6 : decode cL_then 6 = .ok (.iadd, 1) := by decide +kernel
theorem dL_then_7 : decode cL_then 7 = .ok (.imul, 1) := by decide +kernel
theorem dL_then_8 : decode cL_then 8 = .ok (.bipush 63, 2) := by decide +kernel
theorem dL_then_10 : decode cL_then 10 = .ok (.iadd, 1) := by decide +kernel
theorem dL_then_11 : decode cL_then 11 = .ok (.bipush 64, 2) := by decide +kernel
theorem dL_then_13 : decode cL_then 13 = .ok (.idiv, 1) := by decide +kernel
theorem dL_then_14 : decode cL_then 14 = .ok (.isub, 1) := by decide +kernel
theorem dL_then_15 : decode cL_then 15 = .ok (.sipush 1500, 3) := by decide +kernel
theorem dL_then_18 : decode cL_then 18 = .ok (.iload_n 3, 1) := by decide +kernel
theorem dL_then_19 : decode cL_then 19 = .ok (.imul, 1) := by decide +kernel
theorem dL_then_20 : decode cL_then 20 = .ok (.iadd, 1) := by decide +kernel
theorem dL_then_21 : decode cL_then 21 = .ok (.istore 4, 2) := by decide +kernel
theorem dL_then_23 : decode cL_then 23 = .ok (.iload 4, 2) := by decide +kernel
theorem dL_then_25 : decode cL_then 25 = .ok (.ldc 15, 2) := by decide +kernel
theorem dL_then_27 : decode cL_then 27 = .ok (.if_icmp .ge 8, 3) := by decide +kernel
theorem dL_then_30 : decode cL_then 30 = .ok (.iload 4, 2) := by decide +kernel
theorem dL_then_32 : decode cL_then 32 = .ok (.goto 5, 3) := by decide +kernel
theorem dL_then_35 : decode cL_then 35 = .ok (.ldc 15, 2) := by decide +kernel
theorem dL_then_37 : decode cL_then 37 = .ok (.ireturn, 1) := by decide +kernel
theorem dL_dry_0 : decode cL_dry 0 = .ok (.iconst 0, 1) := by decide +kernel
theorem dL_dry_1 : decode cL_dry 1 = .ok (.istore_n 2, 1) := by decide +kernel
theorem dL_dry_2 : decode cL_dry 2 = .ok (.iconst 0, 1) := by decide +kernel
theorem dL_dry_3 : decode cL_dry 3 = .ok (.istore_n 3, 1) := by decide +kernel
theorem dL_dry_4 : decode cL_dry 4 = .ok (.iload_n 3, 1) := by decide +kernel
theorem dL_dry_5 : decode cL_dry 5 = .ok (.aload_n 0, 1) := by decide +kernel
theorem dL_dry_6 : decode cL_dry 6 = .ok (.iconst 3, 1) := by decide +kernel
theorem dL_dry_7 : decode cL_dry 7 = .ok (.iaload, 1) := by decide +kernel
theorem dL_dry_8 : decode cL_dry 8 = .ok (.if_icmp .ge 30, 3) := by decide +kernel
theorem dL_dry_11 : decode cL_dry 11 = .ok (.iload_n 2, 1) := by decide +kernel
theorem dL_dry_12 : decode cL_dry 12 = .ok (.aload_n 1, 1) := by decide +kernel
theorem dL_dry_13 : decode cL_dry 13 = .ok (.iconst 5, 1) := by decide +kernel
theorem dL_dry_14 : decode cL_dry 14 = .ok (.iload_n 3, 1) := by decide +kernel
theorem dL_dry_15 : decode cL_dry 15 = .ok (.imul, 1) := by decide +kernel
theorem dL_dry_16 : decode cL_dry 16 = .ok (.iconst 3, 1) := by decide +kernel
theorem dL_dry_17 : decode cL_dry 17 = .ok (.iadd, 1) := by decide +kernel
theorem dL_dry_18 : decode cL_dry 18 = .ok (.iaload, 1) := by decide +kernel
theorem dL_dry_19 : decode cL_dry 19 = .ok (.sipush 30000, 3) := by decide +kernel
theorem dL_dry_22 : decode cL_dry 22 = .ok (.if_icmp .le 7, 3) := by decide +kernel
theorem dL_dry_25 : decode cL_dry 25 = .ok (.iconst 0, 1) := by decide +kernel
theorem dL_dry_26 : decode cL_dry 26 = .ok (.goto 4, 3) := by decide +kernel
theorem dL_dry_29 : decode cL_dry 29 = .ok (.iconst 1, 1) := by decide +kernel
theorem dL_dry_30 : decode cL_dry 30 = .ok (.iadd, 1) := by decide +kernel
theorem dL_dry_31 : decode cL_dry 31 = .ok (.istore_n 2, 1) := by decide +kernel
theorem dL_dry_32 : decode cL_dry 32 = .ok (.iinc 3 1, 3) := by decide +kernel
theorem dL_dry_35 : decode cL_dry 35 = .ok (.goto (-31), 3) := by decide +kernel
theorem dL_dry_38 : decode cL_dry 38 = .ok (.iload_n 2, 1) := by decide +kernel
theorem dL_dry_39 : decode cL_dry 39 = .ok (.ireturn, 1) := by decide +kernel
theorem dL_stacked_0 : decode cL_stacked 0 = .ok (.aload_n 1, 1) := by decide +kernel
theorem dL_stacked_1 : decode cL_stacked 1 = .ok (.iconst 3, 1) := by decide +kernel
theorem dL_stacked_2 : decode cL_stacked 2 = .ok (.iaload, 1) := by decide +kernel
theorem dL_stacked_3 : decode cL_stacked 3 = .ok (.ifCond .ne 38, 3) := by decide +kernel
theorem dL_stacked_6 : decode cL_stacked 6 = .ok (.aload_n 0, 1) := by decide +kernel
theorem dL_stacked_7 : decode cL_stacked 7 = .ok (.iconst 0, 1) := by decide +kernel
theorem dL_stacked_8 : decode cL_stacked 8 = .ok (.invokevirtual 16, 3) := by decide +kernel
theorem dL_stacked_11 : decode cL_stacked 11 = .ok (.iconst (-1), 1) := by decide +kernel
theorem dL_stacked_12 : decode cL_stacked 12 = .ok (.if_icmp .ne 27, 3) := by decide +kernel
theorem dL_stacked_15 : decode cL_stacked 15 = .ok (.aload_n 0, 1) := by decide +kernel
theorem dL_stacked_16 : decode cL_stacked 16 = .ok (.iconst 0, 1) := by decide +kernel
theorem dL_stacked_17 : decode cL_stacked 17 = .ok (.iconst 1, 1) := by decide +kernel
theorem dL_stacked_18 : decode cL_stacked 18 = .ok (.invokevirtual 22, 3) := by decide +kernel
theorem dL_stacked_21 : decode cL_stacked 21 = .ok (.iconst (-1), 1) := by decide +kernel
theorem dL_stacked_22 : decode cL_stacked 22 = .ok (.if_icmp .ne 17, 3) := by decide +kernel
theorem dL_stacked_25 : decode cL_stacked 25 = .ok (.aload_n 0, 1) := by decide +kernel
theorem dL_stacked_26 : decode cL_stacked 26 = .ok (.iconst 0, 1) := by decide +kernel
theorem dL_stacked_27 : decode cL_stacked 27 = .ok (.iconst 1, 1) := by decide +kernel
theorem dL_stacked_28 : decode cL_stacked 28 = .ok (.invokevirtual 26, 3) := by decide +kernel
theorem dL_stacked_31 : decode cL_stacked 31 = .ok (.iconst (-1), 1) := by decide +kernel
theorem dL_stacked_32 : decode cL_stacked 32 = .ok (.if_icmp .ne 7, 3) := by decide +kernel
theorem dL_stacked_35 : decode cL_stacked 35 = .ok (.iconst 1, 1) := by decide +kernel
theorem dL_stacked_36 : decode cL_stacked 36 = .ok (.goto 4, 3) := by decide +kernel
theorem dL_stacked_39 : decode cL_stacked 39 = .ok (.iconst 0, 1) := by decide +kernel
theorem dL_stacked_40 : decode cL_stacked 40 = .ok (.ireturn, 1) := by decide +kernel
theorem dL_stacked_41 : decode cL_stacked 41 = .ok (.iload 5, 2) := by decide +kernel
theorem dL_stacked_43 : decode cL_stacked 43 = .ok (.aload_n 1, 1) := by decide +kernel
theorem dL_stacked_44 : decode cL_stacked 44 = .ok (.iconst 3, 1) := by decide +kernel
theorem dL_stacked_45 : decode cL_stacked 45 = .ok (.iaload, 1) := by decide +kernel
