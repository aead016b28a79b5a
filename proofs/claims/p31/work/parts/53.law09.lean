theorem dL_acts_238 : decode cL_acts 238 = .ok (.irem, 1) := by decide +kernel
theorem dL_acts_239 : decode cL_acts 239 = .ok (.goto 25, 3) := by decide +kernel
theorem dL_acts_242 : decode cL_acts 242 = .ok (.iload 9, 2) := by decide +kernel
theorem dL_acts_244 : decode cL_acts 244 = .ok (.iconst 1, 1) := by decide +kernel
theorem dL_acts_245 : decode cL_acts 245 = .ok (.if_icmp .ne 18, 3) := by decide +kernel
theorem dL_acts_248 : decode cL_acts 248 = .ok (.bipush 100, 2) := by decide +kernel
theorem dL_acts_250 : decode cL_acts 250 = .ok (.iload 7, 2) := by decide +kernel
theorem dL_acts_252 : decode cL_acts 252 = .ok (.bipush 7, 2) := by decide +kernel
theorem dL_acts_254 : decode cL_acts 254 = .ok (.idiv, 1) := by decide +kernel
theorem dL_acts_255 : decode cL_acts 255 = .ok (.sipush 2901, 3) := by decide +kernel
theorem dL_acts_258 : decode cL_acts 258 = .ok (.irem, 1) := by decide +kernel
theorem dL_acts_259 : decode cL_acts 259 = .ok (.iadd, 1) := by decide +kernel
theorem dL_acts_260 : decode cL_acts 260 = .ok (.goto 4, 3) := by decide +kernel
theorem dL_acts_263 : decode cL_acts 263 = .ok (.iconst 0, 1) := by decide +kernel
theorem dL_acts_264 : decode cL_acts 264 = .ok (.iastore, 1) := by decide +kernel
theorem dL_acts_265 : decode cL_acts 265 = .ok (.iinc 9 1, 3) := by decide +kernel
theorem dL_acts_268 : decode cL_acts 268 = .ok (.goto (-57), 3) := by decide +kernel
theorem dL_acts_271 : decode cL_acts 271 = .ok (.aload_n 1, 1) := by decide +kernel
theorem dL_acts_272 : decode cL_acts 272 = .ok (.iconst 2, 1) := by decide +kernel
theorem dL_acts_273 : decode cL_acts 273 = .ok (.dup2, 1) := by decide +kernel
theorem dL_acts_274 : decode cL_acts 274 = .ok (.iaload, 1) := by decide +kernel
theorem dL_acts_275 : decode cL_acts 275 = .ok (.iconst 1, 1) := by decide +kernel
theorem dL_acts_276 : decode cL_acts 276 = .ok (.iadd, 1) := by decide +kernel
theorem dL_acts_277 : decode cL_acts 277 = .ok (.iastore, 1) := by decide +kernel
theorem dL_acts_278 : decode cL_acts 278 = .ok (.aload_n 0, 1) := by decide +kernel
theorem dL_acts_279 : decode cL_acts 279 = .ok (.iload 7, 2) := by decide +kernel
theorem dL_acts_281 : decode cL_acts 281 = .ok (.sipush 5001, 3) := by decide +kernel
theorem dL_acts_284 : decode cL_acts 284 = .ok (.irem, 1) := by decide +kernel
theorem dL_acts_285 : decode cL_acts 285 = .ok (.bipush 100, 2) := by decide +kernel
theorem dL_acts_287 : decode cL_acts 287 = .ok (.iload 7, 2) := by decide +kernel
theorem dL_acts_289 : decode cL_acts 289 = .ok (.bipush 7, 2) := by decide +kernel
theorem dL_acts_291 : decode cL_acts 291 = .ok (.idiv, 1) := by decide +kernel
theorem dL_acts_292 : decode cL_acts 292 = .ok (.sipush 2901, 3) := by decide +kernel
theorem dL_acts_295 : decode cL_acts 295 = .ok (.irem, 1) := by decide +kernel
theorem dL_acts_296 : decode cL_acts 296 = .ok (.iadd, 1) := by decide +kernel
theorem dL_acts_297 : decode cL_acts 297 = .ok (.invokevirtual 48, 3) := by decide +kernel
theorem dL_acts_300 : decode cL_acts 300 = .ok (.aload_n 1, 1) := by decide +kernel
theorem dL_acts_301 : decode cL_acts 301 = .ok (.iconst 2, 1) := by decide +kernel
theorem dL_acts_302 : decode cL_acts 302 = .ok (.iaload, 1) := by decide +kernel
theorem dL_acts_303 : decode cL_acts 303 = .ok (.iconst 1, 1) := by decide +kernel
theorem dL_acts_304 : decode cL_acts 304 = .ok (.isub, 1) := by decide +kernel
theorem dL_acts_305 : decode cL_acts 305 = .ok (.if_icmp .ne 7, 3) := by decide +kernel
theorem dL_acts_308 : decode cL_acts 308 = .ok (.iconst 1, 1) := by decide +kernel
theorem dL_acts_309 : decode cL_acts 309 = .ok (.goto 4, 3) := by decide +kernel
theorem dL_acts_312 : decode cL_acts 312 = .ok (.iconst 0, 1) := by decide +kernel
theorem dL_acts_313 : decode cL_acts 313 = .ok (.ireturn, 1) := by decide +kernel
theorem dL_acts_314 : decode cL_acts 314 = .ok (.iload 7, 2) := by decide +kernel
theorem dL_acts_316 : decode cL_acts 316 = .ok (.aload_n 1, 1) := by decide +kernel
theorem dL_acts_317 : decode cL_acts 317 = .ok (.iconst 1, 1) := by decide +kernel
theorem dL_acts_318 : decode cL_acts 318 = .ok (.iaload, 1) := by decide +kernel
theorem dL_acts_319 : decode cL_acts 319 = .ok (.irem, 1) := by decide +kernel
theorem dL_acts_320 : decode cL_acts 320 = .ok (.istore 9, 2) := by decide +kernel
theorem dL_acts_322 : decode cL_acts 322 = .ok (.iload 7, 2) := by decide +kernel
theorem dL_acts_324 : decode cL_acts 324 = .ok (.bipush 6, 2) := by decide +kernel
theorem dL_acts_326 : decode cL_acts 326 = .ok (.idiv, 1) := by decide +kernel
theorem dL_acts_327 : decode cL_acts 327 = .ok (.aload_n 1, 1) := by decide +kernel
theorem dL_acts_328 : decode cL_acts 328 = .ok (.iconst 2, 1) := by decide +kernel
theorem dL_acts_329 : decode cL_acts 329 = .ok (.iaload, 1) := by decide +kernel
theorem dL_acts_330 : decode cL_acts 330 = .ok (.irem, 1) := by decide +kernel
theorem dL_acts_331 : decode cL_acts 331 = .ok (.istore 10, 2) := by decide +kernel
theorem dL_acts_333 : decode cL_acts 333 = .ok (.iload 8, 2) := by decide +kernel
theorem dL_acts_335 : decode cL_acts 335 = .ok (.iconst 2, 1) := by decide +kernel
theorem dL_acts_336 : decode cL_acts 336 = .ok (.if_icmp .ne 120, 3) := by decide +kernel
theorem dL_acts_339 : decode cL_acts 339 = .ok (.iload 7, 2) := by decide +kernel
theorem dL_acts_341 : decode cL_acts 341 = .ok (.iconst 2, 1) := by decide +kernel
theorem dL_acts_342 : decode cL_acts 342 = .ok (.irem, 1) := by decide +kernel
theorem dL_acts_343 : decode cL_acts 343 = .ok (.ifCond .ne 12, 3) := by decide +kernel
theorem dL_acts_346 : decode cL_acts 346 = .ok (.aload_n 2, 1) := by decide +kernel
theorem dL_acts_347 : decode cL_acts 347 = .ok (.iconst 3, 1) := by decide +kernel
theorem dL_acts_348 : decode cL_acts 348 = .ok (.iload 9, 2) := by decide +kernel
theorem dL_acts_350 : decode cL_acts 350 = .ok (.imul, 1) := by decide +kernel
theorem dL_acts_351 : decode cL_acts 351 = .ok (.iaload, 1) := by decide +kernel
theorem dL_acts_352 : decode cL_acts 352 = .ok (.goto 10, 3) := by decide +kernel
theorem dL_acts_355 : decode cL_acts 355 = .ok (.aload_n 3, 1) := by decide +kernel
theorem dL_acts_356 : decode cL_acts 356 = .ok (.bipush 7, 2) := by decide +kernel
theorem dL_acts_358 : decode cL_acts 358 = .ok (.iload 10, 2) := by decide +kernel
theorem dL_acts_360 : decode cL_acts 360 = .ok (.imul, 1) := by decide +kernel
theorem dL_acts_361 : decode cL_acts 361 = .ok (.iaload, 1) := by decide +kernel
theorem dL_acts_362 : decode cL_acts 362 = .ok (.istore 11, 2) := by decide +kernel
theorem dL_acts_364 : decode cL_acts 364 = .ok (.iload 7, 2) := by decide +kernel
theorem dL_acts_366 : decode cL_acts 366 = .ok (.iconst 2, 1) := by decide +kernel
theorem dL_acts_367 : decode cL_acts 367 = .ok (.irem, 1) := by decide +kernel
theorem dL_acts_368 : decode cL_acts 368 = .ok (.ifCond .ne 46, 3) := by decide +kernel
theorem dL_acts_371 : decode cL_acts 371 = .ok (.aload_n 2, 1) := by decide +kernel
theorem dL_acts_372 : decode cL_acts 372 = .ok (.iconst 3, 1) := by decide +kernel
theorem dL_acts_373 : decode cL_acts 373 = .ok (.iload 9, 2) := by decide +kernel
theorem dL_acts_375 : decode cL_acts 375 = .ok (.imul, 1) := by decide +kernel
theorem dL_acts_376 : decode cL_acts 376 = .ok (.iconst 1, 1) := by decide +kernel
theorem dL_acts_377 : decode cL_acts 377 = .ok (.iload 7, 2) := by decide +kernel
theorem dL_acts_379 : decode cL_acts 379 = .ok (.bipush 24, 2) := by decide +kernel
theorem dL_acts_381 : decode cL_acts 381 = .ok (.idiv, 1) := by decide +kernel
theorem dL_acts_382 : decode cL_acts 382 = .ok (.bipush 9, 2) := by decide +kernel
theorem dL_acts_384 : decode cL_acts 384 = .ok (.irem, 1) := by decide +kernel
theorem dL_acts_385 : decode cL_acts 385 = .ok (.iadd, 1) := by decide +kernel
theorem dL_acts_386 : decode cL_acts 386 = .ok (.iastore, 1) := by decide +kernel
theorem dL_acts_387 : decode cL_acts 387 = .ok (.aload_n 0, 1) := by decide +kernel
theorem dL_acts_388 : decode cL_acts 388 = .ok (.iload 9, 2) := by decide +kernel
theorem dL_acts_390 : decode cL_acts 390 = .ok (.iconst 1, 1) := by decide +kernel
theorem dL_acts_391 : decode cL_acts 391 = .ok (.iload 7, 2) := by decide +kernel
theorem dL_acts_393 : decode cL_acts 393 = .ok (.bipush 24, 2) := by decide +kernel
theorem dL_acts_395 : decode cL_acts 395 = .ok (.idiv, 1) := by decide +kernel
theorem dL_acts_396 : decode cL_acts 396 = .ok (.bipush 9, 2) := by decide +kernel
theorem dL_acts_398 : decode cL_acts 398 = .ok (.irem, 1) := by decide +kernel
theorem dL_acts_399 : decode cL_acts 399 = .ok (.iadd, 1) := by decide +kernel
theorem dL_acts_400 : decode cL_acts 400 = .ok (.invokevirtual 51, 3) := by decide +kernel
theorem dL_acts_403 : decode cL_acts 403 = .ok (.iload 11, 2) := by decide +kernel
theorem dL_acts_405 : decode cL_acts 405 = .ok (.if_icmp .ne 7, 3) := by decide +kernel
theorem dL_acts_408 : decode cL_acts 408 = .ok (.iconst 1, 1) := by decide +kernel
theorem dL_acts_409 : decode cL_acts 409 = .ok (.goto 4, 3) := by decide +kernel
theorem dL_acts_412 : decode cL_acts 412 = .ok (.iconst 0, 1) := by decide +kernel
