theorem dL_stacked_225 : decode cL_stacked 225 = .ok (.iconst 5, 1) := by decide +kernel
theorem dL_stacked_226 : decode cL_stacked 226 = .ok (.iload 7, 2) := by decide +kernel
theorem dL_stacked_228 : decode cL_stacked 228 = .ok (.imul, 1) := by decide +kernel
theorem dL_stacked_229 : decode cL_stacked 229 = .ok (.iconst 2, 1) := by decide +kernel
theorem dL_stacked_230 : decode cL_stacked 230 = .ok (.iadd, 1) := by decide +kernel
theorem dL_stacked_231 : decode cL_stacked 231 = .ok (.iaload, 1) := by decide +kernel
theorem dL_stacked_232 : decode cL_stacked 232 = .ok (.i2l, 1) := by decide +kernel
theorem dL_stacked_233 : decode cL_stacked 233 = .ok (.aload 4, 2) := by decide +kernel
theorem dL_stacked_235 : decode cL_stacked 235 = .ok (.iconst 5, 1) := by decide +kernel
theorem dL_stacked_236 : decode cL_stacked 236 = .ok (.iload 7, 2) := by decide +kernel
theorem dL_stacked_238 : decode cL_stacked 238 = .ok (.imul, 1) := by decide +kernel
theorem dL_stacked_239 : decode cL_stacked 239 = .ok (.iconst 3, 1) := by decide +kernel
theorem dL_stacked_240 : decode cL_stacked 240 = .ok (.iadd, 1) := by decide +kernel
theorem dL_stacked_241 : decode cL_stacked 241 = .ok (.iaload, 1) := by decide +kernel
theorem dL_stacked_242 : decode cL_stacked 242 = .ok (.i2l, 1) := by decide +kernel
theorem dL_stacked_243 : decode cL_stacked 243 = .ok (.lmul, 1) := by decide +kernel
theorem dL_stacked_244 : decode cL_stacked 244 = .ok (.aload 4, 2) := by decide +kernel
theorem dL_stacked_246 : decode cL_stacked 246 = .ok (.iconst 5, 1) := by decide +kernel
theorem dL_stacked_247 : decode cL_stacked 247 = .ok (.iload 8, 2) := by decide +kernel
theorem dL_stacked_249 : decode cL_stacked 249 = .ok (.imul, 1) := by decide +kernel
theorem dL_stacked_250 : decode cL_stacked 250 = .ok (.iconst 2, 1) := by decide +kernel
theorem dL_stacked_251 : decode cL_stacked 251 = .ok (.iadd, 1) := by decide +kernel
theorem dL_stacked_252 : decode cL_stacked 252 = .ok (.iaload, 1) := by decide +kernel
theorem dL_stacked_253 : decode cL_stacked 253 = .ok (.i2l, 1) := by decide +kernel
theorem dL_stacked_254 : decode cL_stacked 254 = .ok (.aload 4, 2) := by decide +kernel
theorem dL_stacked_256 : decode cL_stacked 256 = .ok (.iconst 5, 1) := by decide +kernel
theorem dL_stacked_257 : decode cL_stacked 257 = .ok (.iload 8, 2) := by decide +kernel
theorem dL_stacked_259 : decode cL_stacked 259 = .ok (.imul, 1) := by decide +kernel
theorem dL_stacked_260 : decode cL_stacked 260 = .ok (.iconst 3, 1) := by decide +kernel
theorem dL_stacked_261 : decode cL_stacked 261 = .ok (.iadd, 1) := by decide +kernel
theorem dL_stacked_262 : decode cL_stacked 262 = .ok (.iaload, 1) := by decide +kernel
theorem dL_stacked_263 : decode cL_stacked 263 = .ok (.i2l, 1) := by decide +kernel
theorem dL_stacked_264 : decode cL_stacked 264 = .ok (.lmul, 1) := by decide +kernel
theorem dL_stacked_265 : decode cL_stacked 265 = .ok (.ladd, 1) := by decide +kernel
theorem dL_stacked_266 : decode cL_stacked 266 = .ok (.lstore 9, 2) := by decide +kernel
theorem dL_stacked_268 : decode cL_stacked 268 = .ok (.aload 4, 2) := by decide +kernel
theorem dL_stacked_270 : decode cL_stacked 270 = .ok (.iconst 5, 1) := by decide +kernel
theorem dL_stacked_271 : decode cL_stacked 271 = .ok (.iload 7, 2) := by decide +kernel
theorem dL_stacked_273 : decode cL_stacked 273 = .ok (.imul, 1) := by decide +kernel
theorem dL_stacked_274 : decode cL_stacked 274 = .ok (.iconst 2, 1) := by decide +kernel
theorem dL_stacked_275 : decode cL_stacked 275 = .ok (.iadd, 1) := by decide +kernel
theorem dL_stacked_276 : decode cL_stacked 276 = .ok (.iaload, 1) := by decide +kernel
theorem dL_stacked_277 : decode cL_stacked 277 = .ok (.aload 4, 2) := by decide +kernel
theorem dL_stacked_279 : decode cL_stacked 279 = .ok (.iconst 5, 1) := by decide +kernel
theorem dL_stacked_280 : decode cL_stacked 280 = .ok (.iload 8, 2) := by decide +kernel
theorem dL_stacked_282 : decode cL_stacked 282 = .ok (.imul, 1) := by decide +kernel
theorem dL_stacked_283 : decode cL_stacked 283 = .ok (.iconst 2, 1) := by decide +kernel
theorem dL_stacked_284 : decode cL_stacked 284 = .ok (.iadd, 1) := by decide +kernel
theorem dL_stacked_285 : decode cL_stacked 285 = .ok (.iaload, 1) := by decide +kernel
theorem dL_stacked_286 : decode cL_stacked 286 = .ok (.iadd, 1) := by decide +kernel
theorem dL_stacked_287 : decode cL_stacked 287 = .ok (.istore 11, 2) := by decide +kernel
theorem dL_stacked_289 : decode cL_stacked 289 = .ok (.aload 4, 2) := by decide +kernel
theorem dL_stacked_291 : decode cL_stacked 291 = .ok (.iconst 5, 1) := by decide +kernel
theorem dL_stacked_292 : decode cL_stacked 292 = .ok (.iload 8, 2) := by decide +kernel
theorem dL_stacked_294 : decode cL_stacked 294 = .ok (.imul, 1) := by decide +kernel
theorem dL_stacked_295 : decode cL_stacked 295 = .ok (.iconst 2, 1) := by decide +kernel
theorem dL_stacked_296 : decode cL_stacked 296 = .ok (.iadd, 1) := by decide +kernel
theorem dL_stacked_297 : decode cL_stacked 297 = .ok (.iload 11, 2) := by decide +kernel
theorem dL_stacked_299 : decode cL_stacked 299 = .ok (.iastore, 1) := by decide +kernel
theorem dL_stacked_300 : decode cL_stacked 300 = .ok (.aload 4, 2) := by decide +kernel
theorem dL_stacked_302 : decode cL_stacked 302 = .ok (.iconst 5, 1) := by decide +kernel
theorem dL_stacked_303 : decode cL_stacked 303 = .ok (.iload 8, 2) := by decide +kernel
theorem dL_stacked_305 : decode cL_stacked 305 = .ok (.imul, 1) := by decide +kernel
theorem dL_stacked_306 : decode cL_stacked 306 = .ok (.iconst 3, 1) := by decide +kernel
theorem dL_stacked_307 : decode cL_stacked 307 = .ok (.iadd, 1) := by decide +kernel
theorem dL_stacked_308 : decode cL_stacked 308 = .ok (.lload 9, 2) := by decide +kernel
theorem dL_stacked_310 : decode cL_stacked 310 = .ok (.iload 11, 2) := by decide +kernel
theorem dL_stacked_312 : decode cL_stacked 312 = .ok (.i2l, 1) := by decide +kernel
theorem dL_stacked_313 : decode cL_stacked 313 = .ok (.ldiv, 1) := by decide +kernel
theorem dL_stacked_314 : decode cL_stacked 314 = .ok (.lload 9, 2) := by decide +kernel
theorem dL_stacked_316 : decode cL_stacked 316 = .ok (.iload 11, 2) := by decide +kernel
theorem dL_stacked_318 : decode cL_stacked 318 = .ok (.i2l, 1) := by decide +kernel
theorem dL_stacked_319 : decode cL_stacked 319 = .ok (.lrem, 1) := by decide +kernel
theorem dL_stacked_320 : decode cL_stacked 320 = .ok (.lconst 0, 1) := by decide +kernel
theorem dL_stacked_321 : decode cL_stacked 321 = .ok (.lcmp, 1) := by decide +kernel
theorem dL_stacked_322 : decode cL_stacked 322 = .ok (.ifCond .le 7, 3) := by decide +kernel
theorem dL_stacked_325 : decode cL_stacked 325 = .ok (.iconst 1, 1) := by decide +kernel
theorem dL_stacked_326 : decode cL_stacked 326 = .ok (.goto 4, 3) := by decide +kernel
theorem dL_stacked_329 : decode cL_stacked 329 = .ok (.iconst 0, 1) := by decide +kernel
theorem dL_stacked_330 : decode cL_stacked 330 = .ok (.i2l, 1) := by decide +kernel
theorem dL_stacked_331 : decode cL_stacked 331 = .ok (.ladd, 1) := by decide +kernel
theorem dL_stacked_332 : decode cL_stacked 332 = .ok (.l2i, 1) := by decide +kernel
theorem dL_stacked_333 : decode cL_stacked 333 = .ok (.iastore, 1) := by decide +kernel
theorem dL_stacked_334 : decode cL_stacked 334 = .ok (.aload 4, 2) := by decide +kernel
theorem dL_stacked_336 : decode cL_stacked 336 = .ok (.iconst 5, 1) := by decide +kernel
theorem dL_stacked_337 : decode cL_stacked 337 = .ok (.iload 8, 2) := by decide +kernel
theorem dL_stacked_339 : decode cL_stacked 339 = .ok (.imul, 1) := by decide +kernel
theorem dL_stacked_340 : decode cL_stacked 340 = .ok (.iconst 4, 1) := by decide +kernel
theorem dL_stacked_341 : decode cL_stacked 341 = .ok (.iadd, 1) := by decide +kernel
theorem dL_stacked_342 : decode cL_stacked 342 = .ok (.aload 4, 2) := by decide +kernel
theorem dL_stacked_344 : decode cL_stacked 344 = .ok (.iconst 5, 1) := by decide +kernel
theorem dL_stacked_345 : decode cL_stacked 345 = .ok (.iload 7, 2) := by decide +kernel
theorem dL_stacked_347 : decode cL_stacked 347 = .ok (.imul, 1) := by decide +kernel
theorem dL_stacked_348 : decode cL_stacked 348 = .ok (.iconst 4, 1) := by decide +kernel
theorem dL_stacked_349 : decode cL_stacked 349 = .ok (.iadd, 1) := by decide +kernel
theorem dL_stacked_350 : decode cL_stacked 350 = .ok (.iaload, 1) := by decide +kernel
theorem dL_stacked_351 : decode cL_stacked 351 = .ok (.aload 4, 2) := by decide +kernel
theorem dL_stacked_353 : decode cL_stacked 353 = .ok (.iconst 5, 1) := by decide +kernel
theorem dL_stacked_354 : decode cL_stacked 354 = .ok (.iload 8, 2) := by decide +kernel
theorem dL_stacked_356 : decode cL_stacked 356 = .ok (.imul, 1) := by decide +kernel
theorem dL_stacked_357 : decode cL_stacked 357 = .ok (.iconst 4, 1) := by decide +kernel
theorem dL_stacked_358 : decode cL_stacked 358 = .ok (.iadd, 1) := by decide +kernel
theorem dL_stacked_359 : decode cL_stacked 359 = .ok (.iaload, 1) := by decide +kernel
theorem dL_stacked_360 : decode cL_stacked 360 = .ok (.if_icmp .ge 15, 3) := by decide +kernel
theorem dL_stacked_363 : decode cL_stacked 363 = .ok (.aload 4, 2) := by decide +kernel
theorem dL_stacked_365 : decode cL_stacked 365 = .ok (.iconst 5, 1) := by decide +kernel
theorem dL_stacked_366 : decode cL_stacked 366 = .ok (.iload 7, 2) := by decide +kernel
theorem dL_stacked_368 : decode cL_stacked 368 = .ok (.imul, 1) := by decide +kernel
theorem dL_stacked_369 : decode cL_stacked 369 = .ok (.iconst 4, 1) := by decide +kernel
theorem dL_stacked_370 : decode cL_stacked 370 = .ok (.iadd, 1) := by decide +kernel
