theorem dL_share_132 : decode cL_share 132 = .ok (.idiv, 1) := by decide +kernel
theorem dL_share_133 : decode cL_share 133 = .ok (.istore 8, 2) := by decide +kernel
theorem dL_share_135 : decode cL_share 135 = .ok (.iconst 0, 1) := by decide +kernel
theorem dL_share_136 : decode cL_share 136 = .ok (.istore 9, 2) := by decide +kernel
theorem dL_share_138 : decode cL_share 138 = .ok (.iload 9, 2) := by decide +kernel
theorem dL_share_140 : decode cL_share 140 = .ok (.aload_n 0, 1) := by decide +kernel
theorem dL_share_141 : decode cL_share 141 = .ok (.iconst 1, 1) := by decide +kernel
theorem dL_share_142 : decode cL_share 142 = .ok (.iaload, 1) := by decide +kernel
theorem dL_share_143 : decode cL_share 143 = .ok (.if_icmp .ge 44, 3) := by decide +kernel
theorem dL_share_146 : decode cL_share 146 = .ok (.iload 5, 2) := by decide +kernel
theorem dL_share_148 : decode cL_share 148 = .ok (.iload 9, 2) := by decide +kernel
theorem dL_share_150 : decode cL_share 150 = .ok (.ishr, 1) := by decide +kernel
theorem dL_share_151 : decode cL_share 151 = .ok (.iconst 1, 1) := by decide +kernel
theorem dL_share_152 : decode cL_share 152 = .ok (.iand, 1) := by decide +kernel
theorem dL_share_153 : decode cL_share 153 = .ok (.iconst 1, 1) := by decide +kernel
theorem dL_share_154 : decode cL_share 154 = .ok (.if_icmp .ne 27, 3) := by decide +kernel
theorem dL_share_157 : decode cL_share 157 = .ok (.iload 7, 2) := by decide +kernel
theorem dL_share_159 : decode cL_share 159 = .ok (.ifCond .le 22, 3) := by decide +kernel
theorem dL_share_162 : decode cL_share 162 = .ok (.iload 8, 2) := by decide +kernel
theorem dL_share_164 : decode cL_share 164 = .ok (.iload 9, 2) := by decide +kernel
theorem dL_share_166 : decode cL_share 166 = .ok (.iload_n 3, 1) := by decide +kernel
theorem dL_share_167 : decode cL_share 167 = .ok (.if_icmp .ne 7, 3) := by decide +kernel
theorem dL_share_170 : decode cL_share 170 = .ok (.iconst 1, 1) := by decide +kernel
theorem dL_share_171 : decode cL_share 171 = .ok (.goto 4, 3) := by decide +kernel
theorem dL_share_174 : decode cL_share 174 = .ok (.iconst 0, 1) := by decide +kernel
theorem dL_share_175 : decode cL_share 175 = .ok (.iadd, 1) := by decide +kernel
theorem dL_share_176 : decode cL_share 176 = .ok (.istore 8, 2) := by decide +kernel
theorem dL_share_178 : decode cL_share 178 = .ok (.iinc 7 (-1), 3) := by decide +kernel
theorem dL_share_181 : decode cL_share 181 = .ok (.iinc 9 1, 3) := by decide +kernel
theorem dL_share_184 : decode cL_share 184 = .ok (.goto (-46), 3) := by decide +kernel
theorem dL_share_187 : decode cL_share 187 = .ok (.iload 8, 2) := by decide +kernel
theorem dL_share_189 : decode cL_share 189 = .ok (.ireturn, 1) := by decide +kernel
theorem dL_may_0 : decode cL_may 0 = .ok (.aload_n 0, 1) := by decide +kernel
theorem dL_may_1 : decode cL_may 1 = .ok (.aload_n 1, 1) := by decide +kernel
theorem dL_may_2 : decode cL_may 2 = .ok (.aload_n 2, 1) := by decide +kernel
theorem dL_may_3 : decode cL_may 3 = .ok (.iload 4, 2) := by decide +kernel
theorem dL_may_5 : decode cL_may 5 = .ok (.iload 5, 2) := by decide +kernel
theorem dL_may_7 : decode cL_may 7 = .ok (.invokestatic 9, 3) := by decide +kernel
theorem dL_may_10 : decode cL_may 10 = .ok (.aload_n 3, 1) := by decide +kernel
theorem dL_may_11 : decode cL_may 11 = .ok (.iconst 4, 1) := by decide +kernel
theorem dL_may_12 : decode cL_may 12 = .ok (.iload 4, 2) := by decide +kernel
theorem dL_may_14 : decode cL_may 14 = .ok (.imul, 1) := by decide +kernel
theorem dL_may_15 : decode cL_may 15 = .ok (.iload 5, 2) := by decide +kernel
theorem dL_may_17 : decode cL_may 17 = .ok (.iadd, 1) := by decide +kernel
theorem dL_may_18 : decode cL_may 18 = .ok (.iaload, 1) := by decide +kernel
theorem dL_may_19 : decode cL_may 19 = .ok (.isub, 1) := by decide +kernel
theorem dL_may_20 : decode cL_may 20 = .ok (.istore 6, 2) := by decide +kernel
theorem dL_may_22 : decode cL_may 22 = .ok (.iload 6, 2) := by decide +kernel
theorem dL_may_24 : decode cL_may 24 = .ok (.ifCond .le 8, 3) := by decide +kernel
theorem dL_may_27 : decode cL_may 27 = .ok (.iload 6, 2) := by decide +kernel
theorem dL_may_29 : decode cL_may 29 = .ok (.goto 4, 3) := by decide +kernel
theorem dL_may_32 : decode cL_may 32 = .ok (.iconst 0, 1) := by decide +kernel
theorem dL_may_33 : decode cL_may 33 = .ok (.ireturn, 1) := by decide +kernel
theorem dL_bears_0 : decode cL_bears 0 = .ok (.aload_n 1, 1) := by decide +kernel
theorem dL_bears_1 : decode cL_bears 1 = .ok (.bipush 7, 2) := by decide +kernel
theorem dL_bears_3 : decode cL_bears 3 = .ok (.iload_n 2, 1) := by decide +kernel
theorem dL_bears_4 : decode cL_bears 4 = .ok (.imul, 1) := by decide +kernel
theorem dL_bears_5 : decode cL_bears 5 = .ok (.iconst 1, 1) := by decide +kernel
theorem dL_bears_6 : decode cL_bears 6 = .ok (.iadd, 1) := by decide +kernel
theorem dL_bears_7 : decode cL_bears 7 = .ok (.iaload, 1) := by decide +kernel
theorem dL_bears_8 : decode cL_bears 8 = .ok (.aload_n 1, 1) := by decide +kernel
theorem dL_bears_9 : decode cL_bears 9 = .ok (.bipush 7, 2) := by decide +kernel
theorem dL_bears_11 : decode cL_bears 11 = .ok (.iload_n 2, 1) := by decide +kernel
theorem dL_bears_12 : decode cL_bears 12 = .ok (.imul, 1) := by decide +kernel
theorem dL_bears_13 : decode cL_bears 13 = .ok (.iconst 2, 1) := by decide +kernel
theorem dL_bears_14 : decode cL_bears 14 = .ok (.iadd, 1) := by decide +kernel
theorem dL_bears_15 : decode cL_bears 15 = .ok (.iaload, 1) := by decide +kernel
theorem dL_bears_16 : decode cL_bears 16 = .ok (.isub, 1) := by decide +kernel
theorem dL_bears_17 : decode cL_bears 17 = .ok (.bipush 40, 2) := by decide +kernel
theorem dL_bears_19 : decode cL_bears 19 = .ok (.aload_n 0, 1) := by decide +kernel
theorem dL_bears_20 : decode cL_bears 20 = .ok (.iconst 4, 1) := by decide +kernel
theorem dL_bears_21 : decode cL_bears 21 = .ok (.iaload, 1) := by decide +kernel
theorem dL_bears_22 : decode cL_bears 22 = .ok (.imul, 1) := by decide +kernel
theorem dL_bears_23 : decode cL_bears 23 = .ok (.isub, 1) := by decide +kernel
theorem dL_bears_24 : decode cL_bears 24 = .ok (.istore_n 3, 1) := by decide +kernel
theorem dL_bears_25 : decode cL_bears 25 = .ok (.iload_n 3, 1) := by decide +kernel
theorem dL_bears_26 : decode cL_bears 26 = .ok (.ifCond .le 7, 3) := by decide +kernel
theorem dL_bears_29 : decode cL_bears 29 = .ok (.iload_n 3, 1) := by decide +kernel
theorem dL_bears_30 : decode cL_bears 30 = .ok (.goto 4, 3) := by decide +kernel
theorem dL_bears_33 : decode cL_bears 33 = .ok (.iconst 0, 1) := by decide +kernel
theorem dL_bears_34 : decode cL_bears 34 = .ok (.ireturn, 1) := by decide +kernel
theorem dL_heavy_0 : decode cL_heavy 0 = .ok (.iload_n 2, 1) := by decide +kernel
theorem dL_heavy_1 : decode cL_heavy 1 = .ok (.sipush 1000, 3) := by decide +kernel
theorem dL_heavy_4 : decode cL_heavy 4 = .ok (.aload_n 0, 1) := by decide +kernel
theorem dL_heavy_5 : decode cL_heavy 5 = .ok (.iconst 5, 1) := by decide +kernel
theorem dL_heavy_6 : decode cL_heavy 6 = .ok (.iload_n 1, 1) := by decide +kernel
theorem dL_heavy_7 : decode cL_heavy 7 = .ok (.imul, 1) := by decide +kernel
theorem dL_heavy_8 : decode cL_heavy 8 = .ok (.iconst 3, 1) := by decide +kernel
theorem dL_heavy_9 : decode cL_heavy 9 = .ok (.iadd, 1) := by decide +kernel
theorem dL_heavy_10 : decode cL_heavy 10 = .ok (.iaload, 1) := by decide +kernel
theorem dL_heavy_11 : decode cL_heavy 11 = .ok (.bipush 100, 2) := by decide +kernel
theorem dL_heavy_13 : decode cL_heavy 13 = .ok (.idiv, 1) := by decide +kernel
theorem dL_heavy_14 : decode cL_heavy 14 = .ok (.iadd, 1) := by decide +kernel
theorem dL_heavy_15 : decode cL_heavy 15 = .ok (.imul, 1) := by decide +kernel
theorem dL_heavy_16 : decode cL_heavy 16 = .ok (.istore_n 3, 1) := by decide +kernel
theorem dL_heavy_17 : decode cL_heavy 17 = .ok (.iload_n 3, 1) := by decide +kernel
theorem dL_heavy_18 : decode cL_heavy 18 = .ok (.sipush 1000, 3) := by decide +kernel
theorem dL_heavy_21 : decode cL_heavy 21 = .ok (.idiv, 1) := by decide +kernel
theorem dL_heavy_22 : decode cL_heavy 22 = .ok (.iload_n 3, 1) := by decide +kernel
theorem dL_heavy_23 : decode cL_heavy 23 = .ok (.sipush 1000, 3) := by decide +kernel
theorem dL_heavy_26 : decode cL_heavy 26 = .ok (.irem, 1) := by decide +kernel
theorem dL_heavy_27 : decode cL_heavy 27 = .ok (.ifCond .le 7, 3) := by decide +kernel
theorem dL_heavy_30 : decode cL_heavy 30 = .ok (.iconst 1, 1) := by decide +kernel
theorem dL_heavy_31 : decode cL_heavy 31 = .ok (.goto 4, 3) := by decide +kernel
theorem dL_heavy_34 : decode cL_heavy 34 = .ok (.iconst 0, 1) := by decide +kernel
theorem dL_heavy_35 : decode cL_heavy 35 = .ok (.iadd, 1) := by decide +kernel
theorem dL_heavy_36 : decode cL_heavy 36 = .ok (.ireturn, 1) := by decide +kernel
theorem dL_goes_0 : decode cL_goes 0 = .ok (.iconst 5, 1) := by decide +kernel
theorem dL_goes_1 : decode cL_goes 1 = .ok (.iload_n 2, 1) := by decide +kernel
theorem dL_goes_2 : decode cL_goes 2 = .ok (.imul, 1) := by decide +kernel
