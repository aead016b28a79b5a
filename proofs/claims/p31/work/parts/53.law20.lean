theorem dL_law_113 : decode cL_law 113 = .ok (.iload 8, 2) := by decide +kernel
theorem dL_law_115 : decode cL_law 115 = .ok (.bipush 8, 2) := by decide +kernel
theorem dL_law_117 : decode cL_law 117 = .ok (.if_icmp .ge 7, 3) := by decide +kernel
theorem dL_law_120 : decode cL_law 120 = .ok (.iconst 3, 1) := by decide +kernel
theorem dL_law_121 : decode cL_law 121 = .ok (.goto 5, 3) := by decide +kernel
theorem dL_law_124 : decode cL_law 124 = .ok (.bipush 6, 2) := by decide +kernel
theorem dL_law_126 : decode cL_law 126 = .ok (.iadd, 1) := by decide +kernel
theorem dL_law_127 : decode cL_law 127 = .ok (.invokestatic 114, 3) := by decide +kernel
theorem dL_law_130 : decode cL_law 130 = .ok (.istore 7, 2) := by decide +kernel
theorem dL_law_132 : decode cL_law 132 = .ok (.iinc 8 1, 3) := by decide +kernel
theorem dL_law_135 : decode cL_law 135 = .ok (.goto (-82), 3) := by decide +kernel
theorem dL_law_138 : decode cL_law 138 = .ok (.bipush 8, 2) := by decide +kernel
theorem dL_law_140 : decode cL_law 140 = .ok (.aload_n 0, 1) := by decide +kernel
theorem dL_law_141 : decode cL_law 141 = .ok (.iconst 0, 1) := by decide +kernel
theorem dL_law_142 : decode cL_law 142 = .ok (.invokestatic 110, 3) := by decide +kernel
theorem dL_law_145 : decode cL_law 145 = .ok (.bipush 50, 2) := by decide +kernel
theorem dL_law_147 : decode cL_law 147 = .ok (.invokestatic 42, 3) := by decide +kernel
theorem dL_law_150 : decode cL_law 150 = .ok (.iadd, 1) := by decide +kernel
theorem dL_law_151 : decode cL_law 151 = .ok (.istore 8, 2) := by decide +kernel
theorem dL_law_153 : decode cL_law 153 = .ok (.iconst 0, 1) := by decide +kernel
theorem dL_law_154 : decode cL_law 154 = .ok (.istore 9, 2) := by decide +kernel
theorem dL_law_156 : decode cL_law 156 = .ok (.iload 9, 2) := by decide +kernel
theorem dL_law_158 : decode cL_law 158 = .ok (.iload 8, 2) := by decide +kernel
theorem dL_law_160 : decode cL_law 160 = .ok (.if_icmp .ge 67, 3) := by decide +kernel
theorem dL_law_163 : decode cL_law 163 = .ok (.iload 7, 2) := by decide +kernel
theorem dL_law_165 : decode cL_law 165 = .ok (.ifCond .eq 62, 3) := by decide +kernel
theorem dL_law_168 : decode cL_law 168 = .ok (.aload_n 1, 1) := by decide +kernel
theorem dL_law_169 : decode cL_law 169 = .ok (.aload_n 2, 1) := by decide +kernel
theorem dL_law_170 : decode cL_law 170 = .ok (.aload_n 3, 1) := by decide +kernel
theorem dL_law_171 : decode cL_law 171 = .ok (.aload 4, 2) := by decide +kernel
theorem dL_law_173 : decode cL_law 173 = .ok (.aload 5, 2) := by decide +kernel
theorem dL_law_175 : decode cL_law 175 = .ok (.aload 6, 2) := by decide +kernel
theorem dL_law_177 : decode cL_law 177 = .ok (.aload_n 0, 1) := by decide +kernel
theorem dL_law_178 : decode cL_law 178 = .ok (.bipush 13, 2) := by decide +kernel
theorem dL_law_180 : decode cL_law 180 = .ok (.iload 9, 2) := by decide +kernel
theorem dL_law_182 : decode cL_law 182 = .ok (.iadd, 1) := by decide +kernel
theorem dL_law_183 : decode cL_law 183 = .ok (.invokestatic 110, 3) := by decide +kernel
theorem dL_law_186 : decode cL_law 186 = .ok (.sipush 7919, 3) := by decide +kernel
theorem dL_law_189 : decode cL_law 189 = .ok (.iload 9, 2) := by decide +kernel
theorem dL_law_191 : decode cL_law 191 = .ok (.imul, 1) := by decide +kernel
theorem dL_law_192 : decode cL_law 192 = .ok (.ixor, 1) := by decide +kernel
theorem dL_law_193 : decode cL_law 193 = .ok (.invokestatic 114, 3) := by decide +kernel
theorem dL_law_196 : decode cL_law 196 = .ok (.ifCond .eq 22, 3) := by decide +kernel
theorem dL_law_199 : decode cL_law 199 = .ok (.aload_n 1, 1) := by decide +kernel
theorem dL_law_200 : decode cL_law 200 = .ok (.aload_n 2, 1) := by decide +kernel
theorem dL_law_201 : decode cL_law 201 = .ok (.aload_n 3, 1) := by decide +kernel
theorem dL_law_202 : decode cL_law 202 = .ok (.aload 4, 2) := by decide +kernel
theorem dL_law_204 : decode cL_law 204 = .ok (.aload 5, 2) := by decide +kernel
theorem dL_law_206 : decode cL_law 206 = .ok (.aload 6, 2) := by decide +kernel
theorem dL_law_208 : decode cL_law 208 = .ok (.invokestatic 106, 3) := by decide +kernel
theorem dL_law_211 : decode cL_law 211 = .ok (.ifCond .eq 7, 3) := by decide +kernel
theorem dL_law_214 : decode cL_law 214 = .ok (.iconst 1, 1) := by decide +kernel
theorem dL_law_215 : decode cL_law 215 = .ok (.goto 4, 3) := by decide +kernel
theorem dL_law_218 : decode cL_law 218 = .ok (.iconst 0, 1) := by decide +kernel
theorem dL_law_219 : decode cL_law 219 = .ok (.istore 7, 2) := by decide +kernel
theorem dL_law_221 : decode cL_law 221 = .ok (.iinc 9 1, 3) := by decide +kernel
theorem dL_law_224 : decode cL_law 224 = .ok (.goto (-68), 3) := by decide +kernel
theorem dL_law_227 : decode cL_law 227 = .ok (.iload 7, 2) := by decide +kernel
theorem dL_law_229 : decode cL_law 229 = .ok (.ifCond .eq 49, 3) := by decide +kernel
theorem dL_law_232 : decode cL_law 232 = .ok (.aload_n 1, 1) := by decide +kernel
theorem dL_law_233 : decode cL_law 233 = .ok (.iconst (-1), 1) := by decide +kernel
theorem dL_law_234 : decode cL_law 234 = .ok (.invokevirtual 90, 3) := by decide +kernel
theorem dL_law_237 : decode cL_law 237 = .ok (.iconst (-1), 1) := by decide +kernel
theorem dL_law_238 : decode cL_law 238 = .ok (.if_icmp .ne 40, 3) := by decide +kernel
theorem dL_law_241 : decode cL_law 241 = .ok (.aload_n 1, 1) := by decide +kernel
theorem dL_law_242 : decode cL_law 242 = .ok (.bipush 10, 2) := by decide +kernel
theorem dL_law_244 : decode cL_law 244 = .ok (.invokevirtual 90, 3) := by decide +kernel
theorem dL_law_247 : decode cL_law 247 = .ok (.iconst (-1), 1) := by decide +kernel
theorem dL_law_248 : decode cL_law 248 = .ok (.if_icmp .ne 30, 3) := by decide +kernel
theorem dL_law_251 : decode cL_law 251 = .ok (.aload_n 1, 1) := by decide +kernel
theorem dL_law_252 : decode cL_law 252 = .ok (.iconst 0, 1) := by decide +kernel
theorem dL_law_253 : decode cL_law 253 = .ok (.iconst 4, 1) := by decide +kernel
theorem dL_law_254 : decode cL_law 254 = .ok (.iconst 0, 1) := by decide +kernel
theorem dL_law_255 : decode cL_law 255 = .ok (.invokevirtual 93, 3) := by decide +kernel
theorem dL_law_258 : decode cL_law 258 = .ok (.iconst (-1), 1) := by decide +kernel
theorem dL_law_259 : decode cL_law 259 = .ok (.if_icmp .ne 19, 3) := by decide +kernel
theorem dL_law_262 : decode cL_law 262 = .ok (.aload_n 1, 1) := by decide +kernel
theorem dL_law_263 : decode cL_law 263 = .ok (.bipush 6, 2) := by decide +kernel
theorem dL_law_265 : decode cL_law 265 = .ok (.iconst 0, 1) := by decide +kernel
theorem dL_law_266 : decode cL_law 266 = .ok (.iconst 0, 1) := by decide +kernel
theorem dL_law_267 : decode cL_law 267 = .ok (.invokevirtual 93, 3) := by decide +kernel
theorem dL_law_270 : decode cL_law 270 = .ok (.iconst (-1), 1) := by decide +kernel
theorem dL_law_271 : decode cL_law 271 = .ok (.if_icmp .ne 7, 3) := by decide +kernel
theorem dL_law_274 : decode cL_law 274 = .ok (.iconst 1, 1) := by decide +kernel
theorem dL_law_275 : decode cL_law 275 = .ok (.goto 4, 3) := by decide +kernel
theorem dL_law_278 : decode cL_law 278 = .ok (.iconst 0, 1) := by decide +kernel
theorem dL_law_279 : decode cL_law 279 = .ok (.ireturn, 1) := by decide +kernel
