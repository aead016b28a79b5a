theorem dL_isSo_178 : decode cL_isSo 178 = .ok (.iload 12, 2) := by decide +kernel
theorem dL_isSo_180 : decode cL_isSo 180 = .ok (.if_icmp .ne 53, 3) := by decide +kernel
theorem dL_isSo_183 : decode cL_isSo 183 = .ok (.aload_n 0, 1) := by decide +kernel
theorem dL_isSo_184 : decode cL_isSo 184 = .ok (.iload 7, 2) := by decide +kernel
theorem dL_isSo_186 : decode cL_isSo 186 = .ok (.iload 11, 2) := by decide +kernel
theorem dL_isSo_188 : decode cL_isSo 188 = .ok (.iconst 1, 1) := by decide +kernel
theorem dL_isSo_189 : decode cL_isSo 189 = .ok (.invokevirtual 93, 3) := by decide +kernel
theorem dL_isSo_192 : decode cL_isSo 192 = .ok (.aload 4, 2) := by decide +kernel
theorem dL_isSo_194 : decode cL_isSo 194 = .ok (.iconst 4, 1) := by decide +kernel
theorem dL_isSo_195 : decode cL_isSo 195 = .ok (.iload 7, 2) := by decide +kernel
theorem dL_isSo_197 : decode cL_isSo 197 = .ok (.imul, 1) := by decide +kernel
theorem dL_isSo_198 : decode cL_isSo 198 = .ok (.iload 11, 2) := by decide +kernel
theorem dL_isSo_200 : decode cL_isSo 200 = .ok (.iadd, 1) := by decide +kernel
theorem dL_isSo_201 : decode cL_isSo 201 = .ok (.iaload, 1) := by decide +kernel
theorem dL_isSo_202 : decode cL_isSo 202 = .ok (.if_icmp .ne 31, 3) := by decide +kernel
theorem dL_isSo_205 : decode cL_isSo 205 = .ok (.aload_n 0, 1) := by decide +kernel
theorem dL_isSo_206 : decode cL_isSo 206 = .ok (.iload 7, 2) := by decide +kernel
theorem dL_isSo_208 : decode cL_isSo 208 = .ok (.iload 11, 2) := by decide +kernel
theorem dL_isSo_210 : decode cL_isSo 210 = .ok (.iconst 2, 1) := by decide +kernel
theorem dL_isSo_211 : decode cL_isSo 211 = .ok (.invokevirtual 93, 3) := by decide +kernel
theorem dL_isSo_214 : decode cL_isSo 214 = .ok (.aload_n 1, 1) := by decide +kernel
theorem dL_isSo_215 : decode cL_isSo 215 = .ok (.aload_n 2, 1) := by decide +kernel
theorem dL_isSo_216 : decode cL_isSo 216 = .ok (.aload_n 3, 1) := by decide +kernel
theorem dL_isSo_217 : decode cL_isSo 217 = .ok (.aload 4, 2) := by decide +kernel
theorem dL_isSo_219 : decode cL_isSo 219 = .ok (.iload 7, 2) := by decide +kernel
theorem dL_isSo_221 : decode cL_isSo 221 = .ok (.iload 11, 2) := by decide +kernel
theorem dL_isSo_223 : decode cL_isSo 223 = .ok (.invokestatic 61, 3) := by decide +kernel
theorem dL_isSo_226 : decode cL_isSo 226 = .ok (.if_icmp .ne 7, 3) := by decide +kernel
theorem dL_isSo_229 : decode cL_isSo 229 = .ok (.iconst 1, 1) := by decide +kernel
theorem dL_isSo_230 : decode cL_isSo 230 = .ok (.goto 4, 3) := by decide +kernel
theorem dL_isSo_233 : decode cL_isSo 233 = .ok (.iconst 0, 1) := by decide +kernel
theorem dL_isSo_234 : decode cL_isSo 234 = .ok (.istore 6, 2) := by decide +kernel
theorem dL_isSo_236 : decode cL_isSo 236 = .ok (.iinc 11 1, 3) := by decide +kernel
theorem dL_isSo_239 : decode cL_isSo 239 = .ok (.goto (-114), 3) := by decide +kernel
theorem dL_isSo_242 : decode cL_isSo 242 = .ok (.iconst 0, 1) := by decide +kernel
theorem dL_isSo_243 : decode cL_isSo 243 = .ok (.istore 11, 2) := by decide +kernel
theorem dL_isSo_245 : decode cL_isSo 245 = .ok (.iload 11, 2) := by decide +kernel
theorem dL_isSo_247 : decode cL_isSo 247 = .ok (.aload_n 1, 1) := by decide +kernel
theorem dL_isSo_248 : decode cL_isSo 248 = .ok (.iconst 3, 1) := by decide +kernel
theorem dL_isSo_249 : decode cL_isSo 249 = .ok (.iaload, 1) := by decide +kernel
theorem dL_isSo_250 : decode cL_isSo 250 = .ok (.if_icmp .ge 61, 3) := by decide +kernel
theorem dL_isSo_253 : decode cL_isSo 253 = .ok (.iload 9, 2) := by decide +kernel
theorem dL_isSo_255 : decode cL_isSo 255 = .ok (.aload 5, 2) := by decide +kernel
theorem dL_isSo_257 : decode cL_isSo 257 = .ok (.iconst 5, 1) := by decide +kernel
theorem dL_isSo_258 : decode cL_isSo 258 = .ok (.iload 11, 2) := by decide +kernel
theorem dL_isSo_260 : decode cL_isSo 260 = .ok (.imul, 1) := by decide +kernel
theorem dL_isSo_261 : decode cL_isSo 261 = .ok (.iaload, 1) := by decide +kernel
theorem dL_isSo_262 : decode cL_isSo 262 = .ok (.iload 7, 2) := by decide +kernel
theorem dL_isSo_264 : decode cL_isSo 264 = .ok (.if_icmp .ne 7, 3) := by decide +kernel
theorem dL_isSo_267 : decode cL_isSo 267 = .ok (.iconst 1, 1) := by decide +kernel
theorem dL_isSo_268 : decode cL_isSo 268 = .ok (.goto 4, 3) := by decide +kernel
theorem dL_isSo_271 : decode cL_isSo 271 = .ok (.iconst 0, 1) := by decide +kernel
theorem dL_isSo_272 : decode cL_isSo 272 = .ok (.iadd, 1) := by decide +kernel
theorem dL_isSo_273 : decode cL_isSo 273 = .ok (.istore 9, 2) := by decide +kernel
theorem dL_isSo_275 : decode cL_isSo 275 = .ok (.iload 10, 2) := by decide +kernel
theorem dL_isSo_277 : decode cL_isSo 277 = .ok (.aload 5, 2) := by decide +kernel
theorem dL_isSo_279 : decode cL_isSo 279 = .ok (.iconst 5, 1) := by decide +kernel
theorem dL_isSo_280 : decode cL_isSo 280 = .ok (.iload 11, 2) := by decide +kernel
theorem dL_isSo_282 : decode cL_isSo 282 = .ok (.imul, 1) := by decide +kernel
theorem dL_isSo_283 : decode cL_isSo 283 = .ok (.iaload, 1) := by decide +kernel
theorem dL_isSo_284 : decode cL_isSo 284 = .ok (.iload 7, 2) := by decide +kernel
theorem dL_isSo_286 : decode cL_isSo 286 = .ok (.if_icmp .ne 15, 3) := by decide +kernel
theorem dL_isSo_289 : decode cL_isSo 289 = .ok (.aload 5, 2) := by decide +kernel
theorem dL_isSo_291 : decode cL_isSo 291 = .ok (.iconst 5, 1) := by decide +kernel
theorem dL_isSo_292 : decode cL_isSo 292 = .ok (.iload 11, 2) := by decide +kernel
theorem dL_isSo_294 : decode cL_isSo 294 = .ok (.imul, 1) := by decide +kernel
theorem dL_isSo_295 : decode cL_isSo 295 = .ok (.iconst 2, 1) := by decide +kernel
theorem dL_isSo_296 : decode cL_isSo 296 = .ok (.iadd, 1) := by decide +kernel
theorem dL_isSo_297 : decode cL_isSo 297 = .ok (.iaload, 1) := by decide +kernel
theorem dL_isSo_298 : decode cL_isSo 298 = .ok (.goto 4, 3) := by decide +kernel
theorem dL_isSo_301 : decode cL_isSo 301 = .ok (.iconst 0, 1) := by decide +kernel
theorem dL_isSo_302 : decode cL_isSo 302 = .ok (.iadd, 1) := by decide +kernel
theorem dL_isSo_303 : decode cL_isSo 303 = .ok (.istore 10, 2) := by decide +kernel
theorem dL_isSo_305 : decode cL_isSo 305 = .ok (.iinc 11 1, 3) := by decide +kernel
theorem dL_isSo_308 : decode cL_isSo 308 = .ok (.goto (-63), 3) := by decide +kernel
theorem dL_isSo_311 : decode cL_isSo 311 = .ok (.iload 6, 2) := by decide +kernel
theorem dL_isSo_313 : decode cL_isSo 313 = .ok (.ifCond .eq 95, 3) := by decide +kernel
theorem dL_isSo_316 : decode cL_isSo 316 = .ok (.aload_n 0, 1) := by decide +kernel
theorem dL_isSo_317 : decode cL_isSo 317 = .ok (.iload 7, 2) := by decide +kernel
theorem dL_isSo_319 : decode cL_isSo 319 = .ok (.iconst 0, 1) := by decide +kernel
theorem dL_isSo_320 : decode cL_isSo 320 = .ok (.invokevirtual 96, 3) := by decide +kernel
theorem dL_isSo_323 : decode cL_isSo 323 = .ok (.aload_n 2, 1) := by decide +kernel
theorem dL_isSo_324 : decode cL_isSo 324 = .ok (.iconst 3, 1) := by decide +kernel
theorem dL_isSo_325 : decode cL_isSo 325 = .ok (.iload 7, 2) := by decide +kernel
theorem dL_isSo_327 : decode cL_isSo 327 = .ok (.imul, 1) := by decide +kernel
theorem dL_isSo_328 : decode cL_isSo 328 = .ok (.iaload, 1) := by decide +kernel
theorem dL_isSo_329 : decode cL_isSo 329 = .ok (.if_icmp .ne 79, 3) := by decide +kernel
theorem dL_isSo_332 : decode cL_isSo 332 = .ok (.aload_n 0, 1) := by decide +kernel
theorem dL_isSo_333 : decode cL_isSo 333 = .ok (.iload 7, 2) := by decide +kernel
theorem dL_isSo_335 : decode cL_isSo 335 = .ok (.iconst 1, 1) := by decide +kernel
theorem dL_isSo_336 : decode cL_isSo 336 = .ok (.invokevirtual 96, 3) := by decide +kernel
theorem dL_isSo_339 : decode cL_isSo 339 = .ok (.aload_n 2, 1) := by decide +kernel
theorem dL_isSo_340 : decode cL_isSo 340 = .ok (.iconst 3, 1) := by decide +kernel
theorem dL_isSo_341 : decode cL_isSo 341 = .ok (.iload 7, 2) := by decide +kernel
theorem dL_isSo_343 : decode cL_isSo 343 = .ok (.imul, 1) := by decide +kernel
theorem dL_isSo_344 : decode cL_isSo 344 = .ok (.iconst 1, 1) := by decide +kernel
theorem dL_isSo_345 : decode cL_isSo 345 = .ok (.iadd, 1) := by decide +kernel
theorem dL_isSo_346 : decode cL_isSo 346 = .ok (.iaload, 1) := by decide +kernel
theorem dL_isSo_347 : decode cL_isSo 347 = .ok (.if_icmp .ne 61, 3) := by decide +kernel
theorem dL_isSo_350 : decode cL_isSo 350 = .ok (.aload_n 0, 1) := by decide +kernel
theorem dL_isSo_351 : decode cL_isSo 351 = .ok (.iload 7, 2) := by decide +kernel
theorem dL_isSo_353 : decode cL_isSo 353 = .ok (.iconst 2, 1) := by decide +kernel
theorem dL_isSo_354 : decode cL_isSo 354 = .ok (.invokevirtual 96, 3) := by decide +kernel
theorem dL_isSo_357 : decode cL_isSo 357 = .ok (.aload_n 2, 1) := by decide +kernel
theorem dL_isSo_358 : decode cL_isSo 358 = .ok (.iconst 3, 1) := by decide +kernel
theorem dL_isSo_359 : decode cL_isSo 359 = .ok (.iload 7, 2) := by decide +kernel
theorem dL_isSo_361 : decode cL_isSo 361 = .ok (.imul, 1) := by decide +kernel
theorem dL_isSo_362 : decode cL_isSo 362 = .ok (.iconst 2, 1) := by decide +kernel
theorem dL_isSo_363 : decode cL_isSo 363 = .ok (.iadd, 1) := by decide +kernel
theorem dL_isSo_364 : decode cL_isSo 364 = .ok (.iaload, 1) := by decide +kernel
