theorem dL_stacked_46 : decode cL_stacked 46 = .ok (.irem, 1) := by decide +kernel
theorem dL_stacked_47 : decode cL_stacked 47 = .ok (.istore 7, 2) := by decide +kernel
theorem dL_stacked_49 : decode cL_stacked 49 = .ok (.iload 6, 2) := by decide +kernel
theorem dL_stacked_51 : decode cL_stacked 51 = .ok (.bipush 13, 2) := by decide +kernel
theorem dL_stacked_53 : decode cL_stacked 53 = .ok (.if_icmp .ge 70, 3) := by decide +kernel
theorem dL_stacked_56 : decode cL_stacked 56 = .ok (.aload 4, 2) := by decide +kernel
theorem dL_stacked_58 : decode cL_stacked 58 = .ok (.iconst 5, 1) := by decide +kernel
theorem dL_stacked_59 : decode cL_stacked 59 = .ok (.iload 7, 2) := by decide +kernel
theorem dL_stacked_61 : decode cL_stacked 61 = .ok (.imul, 1) := by decide +kernel
theorem dL_stacked_62 : decode cL_stacked 62 = .ok (.iconst 4, 1) := by decide +kernel
theorem dL_stacked_63 : decode cL_stacked 63 = .ok (.iadd, 1) := by decide +kernel
theorem dL_stacked_64 : decode cL_stacked 64 = .ok (.iaload, 1) := by decide +kernel
theorem dL_stacked_65 : decode cL_stacked 65 = .ok (.iconst 3, 1) := by decide +kernel
theorem dL_stacked_66 : decode cL_stacked 66 = .ok (.if_icmp .ne 20, 3) := by decide +kernel
theorem dL_stacked_69 : decode cL_stacked 69 = .ok (.aload_n 0, 1) := by decide +kernel
theorem dL_stacked_70 : decode cL_stacked 70 = .ok (.iload 7, 2) := by decide +kernel
theorem dL_stacked_72 : decode cL_stacked 72 = .ok (.invokevirtual 16, 3) := by decide +kernel
theorem dL_stacked_75 : decode cL_stacked 75 = .ok (.bipush (-3), 2) := by decide +kernel
theorem dL_stacked_77 : decode cL_stacked 77 = .ok (.if_icmp .ne 7, 3) := by decide +kernel
theorem dL_stacked_80 : decode cL_stacked 80 = .ok (.iconst 1, 1) := by decide +kernel
theorem dL_stacked_81 : decode cL_stacked 81 = .ok (.goto 4, 3) := by decide +kernel
theorem dL_stacked_84 : decode cL_stacked 84 = .ok (.iconst 0, 1) := by decide +kernel
theorem dL_stacked_85 : decode cL_stacked 85 = .ok (.ireturn, 1) := by decide +kernel
theorem dL_stacked_86 : decode cL_stacked 86 = .ok (.aload 4, 2) := by decide +kernel
theorem dL_stacked_88 : decode cL_stacked 88 = .ok (.iconst 5, 1) := by decide +kernel
theorem dL_stacked_89 : decode cL_stacked 89 = .ok (.iload 7, 2) := by decide +kernel
theorem dL_stacked_91 : decode cL_stacked 91 = .ok (.imul, 1) := by decide +kernel
theorem dL_stacked_92 : decode cL_stacked 92 = .ok (.iconst 4, 1) := by decide +kernel
theorem dL_stacked_93 : decode cL_stacked 93 = .ok (.iadd, 1) := by decide +kernel
theorem dL_stacked_94 : decode cL_stacked 94 = .ok (.dup2, 1) := by decide +kernel
theorem dL_stacked_95 : decode cL_stacked 95 = .ok (.iaload, 1) := by decide +kernel
theorem dL_stacked_96 : decode cL_stacked 96 = .ok (.iconst 1, 1) := by decide +kernel
theorem dL_stacked_97 : decode cL_stacked 97 = .ok (.iadd, 1) := by decide +kernel
theorem dL_stacked_98 : decode cL_stacked 98 = .ok (.iastore, 1) := by decide +kernel
theorem dL_stacked_99 : decode cL_stacked 99 = .ok (.aload_n 0, 1) := by decide +kernel
theorem dL_stacked_100 : decode cL_stacked 100 = .ok (.iload 7, 2) := by decide +kernel
theorem dL_stacked_102 : decode cL_stacked 102 = .ok (.invokevirtual 16, 3) := by decide +kernel
theorem dL_stacked_105 : decode cL_stacked 105 = .ok (.aload 4, 2) := by decide +kernel
theorem dL_stacked_107 : decode cL_stacked 107 = .ok (.iconst 5, 1) := by decide +kernel
theorem dL_stacked_108 : decode cL_stacked 108 = .ok (.iload 7, 2) := by decide +kernel
theorem dL_stacked_110 : decode cL_stacked 110 = .ok (.imul, 1) := by decide +kernel
theorem dL_stacked_111 : decode cL_stacked 111 = .ok (.iconst 4, 1) := by decide +kernel
theorem dL_stacked_112 : decode cL_stacked 112 = .ok (.iadd, 1) := by decide +kernel
theorem dL_stacked_113 : decode cL_stacked 113 = .ok (.iaload, 1) := by decide +kernel
theorem dL_stacked_114 : decode cL_stacked 114 = .ok (.if_icmp .ne 7, 3) := by decide +kernel
theorem dL_stacked_117 : decode cL_stacked 117 = .ok (.iconst 1, 1) := by decide +kernel
theorem dL_stacked_118 : decode cL_stacked 118 = .ok (.goto 4, 3) := by decide +kernel
theorem dL_stacked_121 : decode cL_stacked 121 = .ok (.iconst 0, 1) := by decide +kernel
theorem dL_stacked_122 : decode cL_stacked 122 = .ok (.ireturn, 1) := by decide +kernel
theorem dL_stacked_123 : decode cL_stacked 123 = .ok (.iload 6, 2) := by decide +kernel
theorem dL_stacked_125 : decode cL_stacked 125 = .ok (.bipush 15, 2) := by decide +kernel
theorem dL_stacked_127 : decode cL_stacked 127 = .ok (.if_icmp .ge 285, 3) := by decide +kernel
theorem dL_stacked_130 : decode cL_stacked 130 = .ok (.iload 5, 2) := by decide +kernel
theorem dL_stacked_132 : decode cL_stacked 132 = .ok (.bipush 12, 2) := by decide +kernel
theorem dL_stacked_134 : decode cL_stacked 134 = .ok (.idiv, 1) := by decide +kernel
theorem dL_stacked_135 : decode cL_stacked 135 = .ok (.aload_n 1, 1) := by decide +kernel
theorem dL_stacked_136 : decode cL_stacked 136 = .ok (.iconst 3, 1) := by decide +kernel
theorem dL_stacked_137 : decode cL_stacked 137 = .ok (.iaload, 1) := by decide +kernel
theorem dL_stacked_138 : decode cL_stacked 138 = .ok (.irem, 1) := by decide +kernel
theorem dL_stacked_139 : decode cL_stacked 139 = .ok (.istore 8, 2) := by decide +kernel
theorem dL_stacked_141 : decode cL_stacked 141 = .ok (.iload 7, 2) := by decide +kernel
theorem dL_stacked_143 : decode cL_stacked 143 = .ok (.iload 8, 2) := by decide +kernel
theorem dL_stacked_145 : decode cL_stacked 145 = .ok (.if_icmp .ne 21, 3) := by decide +kernel
theorem dL_stacked_148 : decode cL_stacked 148 = .ok (.aload_n 0, 1) := by decide +kernel
theorem dL_stacked_149 : decode cL_stacked 149 = .ok (.iload 7, 2) := by decide +kernel
theorem dL_stacked_151 : decode cL_stacked 151 = .ok (.iload 8, 2) := by decide +kernel
theorem dL_stacked_153 : decode cL_stacked 153 = .ok (.invokevirtual 26, 3) := by decide +kernel
theorem dL_stacked_156 : decode cL_stacked 156 = .ok (.iconst (-1), 1) := by decide +kernel
theorem dL_stacked_157 : decode cL_stacked 157 = .ok (.if_icmp .ne 7, 3) := by decide +kernel
theorem dL_stacked_160 : decode cL_stacked 160 = .ok (.iconst 1, 1) := by decide +kernel
theorem dL_stacked_161 : decode cL_stacked 161 = .ok (.goto 4, 3) := by decide +kernel
theorem dL_stacked_164 : decode cL_stacked 164 = .ok (.iconst 0, 1) := by decide +kernel
theorem dL_stacked_165 : decode cL_stacked 165 = .ok (.ireturn, 1) := by decide +kernel
theorem dL_stacked_166 : decode cL_stacked 166 = .ok (.aload 4, 2) := by decide +kernel
theorem dL_stacked_168 : decode cL_stacked 168 = .ok (.iconst 5, 1) := by decide +kernel
theorem dL_stacked_169 : decode cL_stacked 169 = .ok (.iload 7, 2) := by decide +kernel
theorem dL_stacked_171 : decode cL_stacked 171 = .ok (.imul, 1) := by decide +kernel
theorem dL_stacked_172 : decode cL_stacked 172 = .ok (.iaload, 1) := by decide +kernel
theorem dL_stacked_173 : decode cL_stacked 173 = .ok (.aload 4, 2) := by decide +kernel
theorem dL_stacked_175 : decode cL_stacked 175 = .ok (.iconst 5, 1) := by decide +kernel
theorem dL_stacked_176 : decode cL_stacked 176 = .ok (.iload 8, 2) := by decide +kernel
theorem dL_stacked_178 : decode cL_stacked 178 = .ok (.imul, 1) := by decide +kernel
theorem dL_stacked_179 : decode cL_stacked 179 = .ok (.iaload, 1) := by decide +kernel
theorem dL_stacked_180 : decode cL_stacked 180 = .ok (.if_icmp .ne 24, 3) := by decide +kernel
theorem dL_stacked_183 : decode cL_stacked 183 = .ok (.aload 4, 2) := by decide +kernel
theorem dL_stacked_185 : decode cL_stacked 185 = .ok (.iconst 5, 1) := by decide +kernel
theorem dL_stacked_186 : decode cL_stacked 186 = .ok (.iload 7, 2) := by decide +kernel
theorem dL_stacked_188 : decode cL_stacked 188 = .ok (.imul, 1) := by decide +kernel
theorem dL_stacked_189 : decode cL_stacked 189 = .ok (.iconst 1, 1) := by decide +kernel
theorem dL_stacked_190 : decode cL_stacked 190 = .ok (.iadd, 1) := by decide +kernel
theorem dL_stacked_191 : decode cL_stacked 191 = .ok (.iaload, 1) := by decide +kernel
theorem dL_stacked_192 : decode cL_stacked 192 = .ok (.aload 4, 2) := by decide +kernel
theorem dL_stacked_194 : decode cL_stacked 194 = .ok (.iconst 5, 1) := by decide +kernel
theorem dL_stacked_195 : decode cL_stacked 195 = .ok (.iload 8, 2) := by decide +kernel
theorem dL_stacked_197 : decode cL_stacked 197 = .ok (.imul, 1) := by decide +kernel
theorem dL_stacked_198 : decode cL_stacked 198 = .ok (.iconst 1, 1) := by decide +kernel
theorem dL_stacked_199 : decode cL_stacked 199 = .ok (.iadd, 1) := by decide +kernel
theorem dL_stacked_200 : decode cL_stacked 200 = .ok (.iaload, 1) := by decide +kernel
theorem dL_stacked_201 : decode cL_stacked 201 = .ok (.if_icmp .eq 22, 3) := by decide +kernel
theorem dL_stacked_204 : decode cL_stacked 204 = .ok (.aload_n 0, 1) := by decide +kernel
theorem dL_stacked_205 : decode cL_stacked 205 = .ok (.iload 7, 2) := by decide +kernel
theorem dL_stacked_207 : decode cL_stacked 207 = .ok (.iload 8, 2) := by decide +kernel
theorem dL_stacked_209 : decode cL_stacked 209 = .ok (.invokevirtual 26, 3) := by decide +kernel
theorem dL_stacked_212 : decode cL_stacked 212 = .ok (.bipush (-2), 2) := by decide +kernel
theorem dL_stacked_214 : decode cL_stacked 214 = .ok (.if_icmp .ne 7, 3) := by decide +kernel
theorem dL_stacked_217 : decode cL_stacked 217 = .ok (.iconst 1, 1) := by decide +kernel
theorem dL_stacked_218 : decode cL_stacked 218 = .ok (.goto 4, 3) := by decide +kernel
theorem dL_stacked_221 : decode cL_stacked 221 = .ok (.iconst 0, 1) := by decide +kernel
theorem dL_stacked_222 : decode cL_stacked 222 = .ok (.ireturn, 1) := by decide +kernel
theorem dL_stacked_223 : decode cL_stacked 223 = .ok (.aload 4, 2) := by decide +kernel
