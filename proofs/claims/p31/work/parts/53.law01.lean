theorem dL_cell_0 : decode cL_cell 0 = .ok (.iload_n 1, 1) := by decide +kernel
theorem dL_cell_1 : decode cL_cell 1 = .ok (.aload_n 0, 1) := by decide +kernel
theorem dL_cell_2 : decode cL_cell 2 = .ok (.arraylength, 1) := by decide +kernel
theorem dL_cell_3 : decode cL_cell 3 = .ok (.if_icmp .ge 9, 3) := by decide +kernel
theorem dL_cell_6 : decode cL_cell 6 = .ok (.aload_n 0, 1) := by decide +kernel
theorem dL_cell_7 : decode cL_cell 7 = .ok (.iload_n 1, 1) := by decide +kernel
theorem dL_cell_8 : decode cL_cell 8 = .ok (.iaload, 1) := by decide +kernel
theorem dL_cell_9 : decode cL_cell 9 = .ok (.goto 9, 3) := by decide +kernel
theorem dL_cell_12 : decode cL_cell 12 = .ok (.ldc 7, 2) := by decide +kernel
theorem dL_cell_14 : decode cL_cell 14 = .ok (.iload_n 1, 1) := by decide +kernel
theorem dL_cell_15 : decode cL_cell 15 = .ok (.iconst 3, 1) := by decide +kernel
theorem dL_cell_16 : decode cL_cell 16 = .ok (.iadd, 1) := by decide +kernel
theorem dL_cell_17 : decode cL_cell 17 = .ok (.imul, 1) := by decide +kernel
theorem dL_cell_18 : decode cL_cell 18 = .ok (.ireturn, 1) := by decide +kernel
theorem dL_low_0 : decode cL_low 0 = .ok (.iload_n 0, 1) := by decide +kernel
theorem dL_low_1 : decode cL_low 1 = .ok (.ldc 8, 2) := by decide +kernel
theorem dL_low_3 : decode cL_low 3 = .ok (.iand, 1) := by decide +kernel
theorem dL_low_4 : decode cL_low 4 = .ok (.iload_n 1, 1) := by decide +kernel
theorem dL_low_5 : decode cL_low 5 = .ok (.irem, 1) := by decide +kernel
theorem dL_low_6 : decode cL_low 6 = .ok (.ireturn, 1) := by decide +kernel
theorem dL_share_0 : decode cL_share 0 = .ok (.aload_n 2, 1) := by decide +kernel
theorem dL_share_1 : decode cL_share 1 = .ok (.bipush 7, 2) := by decide +kernel
theorem dL_share_3 : decode cL_share 3 = .ok (.iload 4, 2) := by decide +kernel
theorem dL_share_5 : decode cL_share 5 = .ok (.imul, 1) := by decide +kernel
theorem dL_share_6 : decode cL_share 6 = .ok (.iconst 3, 1) := by decide +kernel
theorem dL_share_7 : decode cL_share 7 = .ok (.iadd, 1) := by decide +kernel
theorem dL_share_8 : decode cL_share 8 = .ok (.iaload, 1) := by decide +kernel
theorem dL_share_9 : decode cL_share 9 = .ok (.istore 5, 2) := by decide +kernel
theorem dL_share_11 : decode cL_share 11 = .ok (.iload 5, 2) := by decide +kernel
theorem dL_share_13 : decode cL_share 13 = .ok (.iload_n 3, 1) := by decide +kernel
theorem dL_share_14 : decode cL_share 14 = .ok (.ishr, 1) := by decide +kernel
theorem dL_share_15 : decode cL_share 15 = .ok (.iconst 1, 1) := by decide +kernel
theorem dL_share_16 : decode cL_share 16 = .ok (.iand, 1) := by decide +kernel
theorem dL_share_17 : decode cL_share 17 = .ok (.ifCond .ne 5, 3) := by decide +kernel
theorem dL_share_20 : decode cL_share 20 = .ok (.iconst 0, 1) := by decide +kernel
theorem dL_share_21 : decode cL_share 21 = .ok (.ireturn, 1) := by decide +kernel
theorem dL_share_22 : decode cL_share 22 = .ok (.iconst 0, 1) := by decide +kernel
theorem dL_share_23 : decode cL_share 23 = .ok (.istore 6, 2) := by decide +kernel
theorem dL_share_25 : decode cL_share 25 = .ok (.iconst 0, 1) := by decide +kernel
theorem dL_share_26 : decode cL_share 26 = .ok (.istore 7, 2) := by decide +kernel
theorem dL_share_28 : decode cL_share 28 = .ok (.iload 7, 2) := by decide +kernel
theorem dL_share_30 : decode cL_share 30 = .ok (.aload_n 0, 1) := by decide +kernel
theorem dL_share_31 : decode cL_share 31 = .ok (.iconst 1, 1) := by decide +kernel
theorem dL_share_32 : decode cL_share 32 = .ok (.iaload, 1) := by decide +kernel
theorem dL_share_33 : decode cL_share 33 = .ok (.if_icmp .ge 28, 3) := by decide +kernel
theorem dL_share_36 : decode cL_share 36 = .ok (.iload 6, 2) := by decide +kernel
theorem dL_share_38 : decode cL_share 38 = .ok (.iload 5, 2) := by decide +kernel
theorem dL_share_40 : decode cL_share 40 = .ok (.iload 7, 2) := by decide +kernel
theorem dL_share_42 : decode cL_share 42 = .ok (.ishr, 1) := by decide +kernel
theorem dL_share_43 : decode cL_share 43 = .ok (.iconst 1, 1) := by decide +kernel
theorem dL_share_44 : decode cL_share 44 = .ok (.iand, 1) := by decide +kernel
theorem dL_share_45 : decode cL_share 45 = .ok (.aload_n 1, 1) := by decide +kernel
theorem dL_share_46 : decode cL_share 46 = .ok (.iconst 3, 1) := by decide +kernel
theorem dL_share_47 : decode cL_share 47 = .ok (.iload 7, 2) := by decide +kernel
theorem dL_share_49 : decode cL_share 49 = .ok (.imul, 1) := by decide +kernel
theorem dL_share_50 : decode cL_share 50 = .ok (.iaload, 1) := by decide +kernel
theorem dL_share_51 : decode cL_share 51 = .ok (.imul, 1) := by decide +kernel
theorem dL_share_52 : decode cL_share 52 = .ok (.iadd, 1) := by decide +kernel
theorem dL_share_53 : decode cL_share 53 = .ok (.istore 6, 2) := by decide +kernel
theorem dL_share_55 : decode cL_share 55 = .ok (.iinc 7 1, 3) := by decide +kernel
theorem dL_share_58 : decode cL_share 58 = .ok (.goto (-30), 3) := by decide +kernel
theorem dL_share_61 : decode cL_share 61 = .ok (.aload_n 2, 1) := by decide +kernel
theorem dL_share_62 : decode cL_share 62 = .ok (.bipush 7, 2) := by decide +kernel
theorem dL_share_64 : decode cL_share 64 = .ok (.iload 4, 2) := by decide +kernel
theorem dL_share_66 : decode cL_share 66 = .ok (.imul, 1) := by decide +kernel
theorem dL_share_67 : decode cL_share 67 = .ok (.iaload, 1) := by decide +kernel
theorem dL_share_68 : decode cL_share 68 = .ok (.istore 7, 2) := by decide +kernel
theorem dL_share_70 : decode cL_share 70 = .ok (.iconst 0, 1) := by decide +kernel
theorem dL_share_71 : decode cL_share 71 = .ok (.istore 8, 2) := by decide +kernel
theorem dL_share_73 : decode cL_share 73 = .ok (.iload 8, 2) := by decide +kernel
theorem dL_share_75 : decode cL_share 75 = .ok (.aload_n 0, 1) := by decide +kernel
theorem dL_share_76 : decode cL_share 76 = .ok (.iconst 1, 1) := by decide +kernel
theorem dL_share_77 : decode cL_share 77 = .ok (.iaload, 1) := by decide +kernel
theorem dL_share_78 : decode cL_share 78 = .ok (.if_icmp .ge 39, 3) := by decide +kernel
theorem dL_share_81 : decode cL_share 81 = .ok (.iload 7, 2) := by decide +kernel
theorem dL_share_83 : decode cL_share 83 = .ok (.iload 5, 2) := by decide +kernel
theorem dL_share_85 : decode cL_share 85 = .ok (.iload 8, 2) := by decide +kernel
theorem dL_share_87 : decode cL_share 87 = .ok (.ishr, 1) := by decide +kernel
theorem dL_share_88 : decode cL_share 88 = .ok (.iconst 1, 1) := by decide +kernel
theorem dL_share_89 : decode cL_share 89 = .ok (.iand, 1) := by decide +kernel
theorem dL_share_90 : decode cL_share 90 = .ok (.aload_n 2, 1) := by decide +kernel
theorem dL_share_91 : decode cL_share 91 = .ok (.bipush 7, 2) := by decide +kernel
theorem dL_share_93 : decode cL_share 93 = .ok (.iload 4, 2) := by decide +kernel
theorem dL_share_95 : decode cL_share 95 = .ok (.imul, 1) := by decide +kernel
theorem dL_share_96 : decode cL_share 96 = .ok (.iaload, 1) := by decide +kernel
theorem dL_share_97 : decode cL_share 97 = .ok (.aload_n 1, 1) := by decide +kernel
theorem dL_share_98 : decode cL_share 98 = .ok (.iconst 3, 1) := by decide +kernel
theorem dL_share_99 : decode cL_share 99 = .ok (.iload 8, 2) := by decide +kernel
theorem dL_share_101 : decode cL_share 101 = .ok (.imul, 1) := by decide +kernel
theorem dL_share_102 : decode cL_share 102 = .ok (.iaload, 1) := by decide +kernel
theorem dL_share_103 : decode cL_share 103 = .ok (.imul, 1) := by decide +kernel
theorem dL_share_104 : decode cL_share 104 = .ok (.iload 6, 2) := by decide +kernel
theorem dL_share_106 : decode cL_share 106 = .ok (.idiv, 1) := by decide +kernel
theorem dL_share_107 : decode cL_share 107 = .ok (.imul, 1) := by decide +kernel
theorem dL_share_108 : decode cL_share 108 = .ok (.isub, 1) := by decide +kernel
theorem dL_share_109 : decode cL_share 109 = .ok (.istore 7, 2) := by decide +kernel
theorem dL_share_111 : decode cL_share 111 = .ok (.iinc 8 1, 3) := by decide +kernel
theorem dL_share_114 : decode cL_share 114 = .ok (.goto (-41), 3) := by decide +kernel
theorem dL_share_117 : decode cL_share 117 = .ok (.aload_n 2, 1) := by decide +kernel
theorem dL_share_118 : decode cL_share 118 = .ok (.bipush 7, 2) := by decide +kernel
theorem dL_share_120 : decode cL_share 120 = .ok (.iload 4, 2) := by decide +kernel
theorem dL_share_122 : decode cL_share 122 = .ok (.imul, 1) := by decide +kernel
theorem dL_share_123 : decode cL_share 123 = .ok (.iaload, 1) := by decide +kernel
theorem dL_share_124 : decode cL_share 124 = .ok (.aload_n 1, 1) := by decide +kernel
theorem dL_share_125 : decode cL_share 125 = .ok (.iconst 3, 1) := by decide +kernel
theorem dL_share_126 : decode cL_share 126 = .ok (.iload_n 3, 1) := by decide +kernel
theorem dL_share_127 : decode cL_share 127 = .ok (.imul, 1) := by decide +kernel
theorem dL_share_128 : decode cL_share 128 = .ok (.iaload, 1) := by decide +kernel
theorem dL_share_129 : decode cL_share 129 = .ok (.imul, 1) := by decide +kernel
theorem dL_share_130 : decode cL_share 130 = .ok (.iload 6, 2) := by decide +kernel
