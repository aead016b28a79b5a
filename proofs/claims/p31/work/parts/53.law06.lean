theorem dL_stacked_371 : decode cL_stacked 371 = .ok (.iaload, 1) := by decide +kernel
theorem dL_stacked_372 : decode cL_stacked 372 = .ok (.goto 12, 3) := by decide +kernel
theorem dL_stacked_375 : decode cL_stacked 375 = .ok (.aload 4, 2) := by decide +kernel
theorem dL_stacked_377 : decode cL_stacked 377 = .ok (.iconst 5, 1) := by decide +kernel
theorem dL_stacked_378 : decode cL_stacked 378 = .ok (.iload 8, 2) := by decide +kernel
theorem dL_stacked_380 : decode cL_stacked 380 = .ok (.imul, 1) := by decide +kernel
theorem dL_stacked_381 : decode cL_stacked 381 = .ok (.iconst 4, 1) := by decide +kernel
theorem dL_stacked_382 : decode cL_stacked 382 = .ok (.iadd, 1) := by decide +kernel
theorem dL_stacked_383 : decode cL_stacked 383 = .ok (.iaload, 1) := by decide +kernel
theorem dL_stacked_384 : decode cL_stacked 384 = .ok (.iastore, 1) := by decide +kernel
theorem dL_stacked_385 : decode cL_stacked 385 = .ok (.aload_n 1, 1) := by decide +kernel
theorem dL_stacked_386 : decode cL_stacked 386 = .ok (.aload 4, 2) := by decide +kernel
theorem dL_stacked_388 : decode cL_stacked 388 = .ok (.iload 7, 2) := by decide +kernel
theorem dL_stacked_390 : decode cL_stacked 390 = .ok (.invokestatic 29, 3) := by decide +kernel
theorem dL_stacked_393 : decode cL_stacked 393 = .ok (.aload_n 0, 1) := by decide +kernel
theorem dL_stacked_394 : decode cL_stacked 394 = .ok (.iload 7, 2) := by decide +kernel
theorem dL_stacked_396 : decode cL_stacked 396 = .ok (.iload 8, 2) := by decide +kernel
theorem dL_stacked_398 : decode cL_stacked 398 = .ok (.invokevirtual 26, 3) := by decide +kernel
theorem dL_stacked_401 : decode cL_stacked 401 = .ok (.iload 11, 2) := by decide +kernel
theorem dL_stacked_403 : decode cL_stacked 403 = .ok (.if_icmp .ne 7, 3) := by decide +kernel
theorem dL_stacked_406 : decode cL_stacked 406 = .ok (.iconst 1, 1) := by decide +kernel
theorem dL_stacked_407 : decode cL_stacked 407 = .ok (.goto 4, 3) := by decide +kernel
theorem dL_stacked_410 : decode cL_stacked 410 = .ok (.iconst 0, 1) := by decide +kernel
theorem dL_stacked_411 : decode cL_stacked 411 = .ok (.ireturn, 1) := by decide +kernel
theorem dL_stacked_412 : decode cL_stacked 412 = .ok (.iload 5, 2) := by decide +kernel
theorem dL_stacked_414 : decode cL_stacked 414 = .ok (.iconst 4, 1) := by decide +kernel
theorem dL_stacked_415 : decode cL_stacked 415 = .ok (.irem, 1) := by decide +kernel
theorem dL_stacked_416 : decode cL_stacked 416 = .ok (.ifCond .ne 15, 3) := by decide +kernel
theorem dL_stacked_419 : decode cL_stacked 419 = .ok (.aload 4, 2) := by decide +kernel
theorem dL_stacked_421 : decode cL_stacked 421 = .ok (.iconst 5, 1) := by decide +kernel
theorem dL_stacked_422 : decode cL_stacked 422 = .ok (.iload 7, 2) := by decide +kernel
theorem dL_stacked_424 : decode cL_stacked 424 = .ok (.imul, 1) := by decide +kernel
theorem dL_stacked_425 : decode cL_stacked 425 = .ok (.iconst 2, 1) := by decide +kernel
theorem dL_stacked_426 : decode cL_stacked 426 = .ok (.iadd, 1) := by decide +kernel
theorem dL_stacked_427 : decode cL_stacked 427 = .ok (.iaload, 1) := by decide +kernel
theorem dL_stacked_428 : decode cL_stacked 428 = .ok (.goto 20, 3) := by decide +kernel
theorem dL_stacked_431 : decode cL_stacked 431 = .ok (.iconst 1, 1) := by decide +kernel
theorem dL_stacked_432 : decode cL_stacked 432 = .ok (.iload 5, 2) := by decide +kernel
theorem dL_stacked_434 : decode cL_stacked 434 = .ok (.bipush 12, 2) := by decide +kernel
theorem dL_stacked_436 : decode cL_stacked 436 = .ok (.idiv, 1) := by decide +kernel
theorem dL_stacked_437 : decode cL_stacked 437 = .ok (.aload 4, 2) := by decide +kernel
theorem dL_stacked_439 : decode cL_stacked 439 = .ok (.iconst 5, 1) := by decide +kernel
theorem dL_stacked_440 : decode cL_stacked 440 = .ok (.iload 7, 2) := by decide +kernel
theorem dL_stacked_442 : decode cL_stacked 442 = .ok (.imul, 1) := by decide +kernel
theorem dL_stacked_443 : decode cL_stacked 443 = .ok (.iconst 2, 1) := by decide +kernel
theorem dL_stacked_444 : decode cL_stacked 444 = .ok (.iadd, 1) := by decide +kernel
theorem dL_stacked_445 : decode cL_stacked 445 = .ok (.iaload, 1) := by decide +kernel
theorem dL_stacked_446 : decode cL_stacked 446 = .ok (.irem, 1) := by decide +kernel
theorem dL_stacked_447 : decode cL_stacked 447 = .ok (.iadd, 1) := by decide +kernel
theorem dL_stacked_448 : decode cL_stacked 448 = .ok (.istore 8, 2) := by decide +kernel
theorem dL_stacked_450 : decode cL_stacked 450 = .ok (.iload 8, 2) := by decide +kernel
theorem dL_stacked_452 : decode cL_stacked 452 = .ok (.sipush 1000, 3) := by decide +kernel
theorem dL_stacked_455 : decode cL_stacked 455 = .ok (.if_icmp .le 9, 3) := by decide +kernel
theorem dL_stacked_458 : decode cL_stacked 458 = .ok (.sipush 1000, 3) := by decide +kernel
theorem dL_stacked_461 : decode cL_stacked 461 = .ok (.goto 5, 3) := by decide +kernel
theorem dL_stacked_464 : decode cL_stacked 464 = .ok (.iload 8, 2) := by decide +kernel
theorem dL_stacked_466 : decode cL_stacked 466 = .ok (.istore 8, 2) := by decide +kernel
theorem dL_stacked_468 : decode cL_stacked 468 = .ok (.aload 4, 2) := by decide +kernel
theorem dL_stacked_470 : decode cL_stacked 470 = .ok (.iload 7, 2) := by decide +kernel
theorem dL_stacked_472 : decode cL_stacked 472 = .ok (.iload 8, 2) := by decide +kernel
theorem dL_stacked_474 : decode cL_stacked 474 = .ok (.invokestatic 33, 3) := by decide +kernel
theorem dL_stacked_477 : decode cL_stacked 477 = .ok (.istore 9, 2) := by decide +kernel
theorem dL_stacked_479 : decode cL_stacked 479 = .ok (.aload 4, 2) := by decide +kernel
theorem dL_stacked_481 : decode cL_stacked 481 = .ok (.iconst 5, 1) := by decide +kernel
theorem dL_stacked_482 : decode cL_stacked 482 = .ok (.iload 7, 2) := by decide +kernel
theorem dL_stacked_484 : decode cL_stacked 484 = .ok (.imul, 1) := by decide +kernel
theorem dL_stacked_485 : decode cL_stacked 485 = .ok (.iconst 1, 1) := by decide +kernel
theorem dL_stacked_486 : decode cL_stacked 486 = .ok (.iadd, 1) := by decide +kernel
theorem dL_stacked_487 : decode cL_stacked 487 = .ok (.iaload, 1) := by decide +kernel
theorem dL_stacked_488 : decode cL_stacked 488 = .ok (.istore 10, 2) := by decide +kernel
theorem dL_stacked_490 : decode cL_stacked 490 = .ok (.iload 9, 2) := by decide +kernel
theorem dL_stacked_492 : decode cL_stacked 492 = .ok (.aload_n 1, 1) := by decide +kernel
theorem dL_stacked_493 : decode cL_stacked 493 = .ok (.aload_n 3, 1) := by decide +kernel
theorem dL_stacked_494 : decode cL_stacked 494 = .ok (.iload 10, 2) := by decide +kernel
theorem dL_stacked_496 : decode cL_stacked 496 = .ok (.invokestatic 37, 3) := by decide +kernel
theorem dL_stacked_499 : decode cL_stacked 499 = .ok (.if_icmp .le 22, 3) := by decide +kernel
theorem dL_stacked_502 : decode cL_stacked 502 = .ok (.aload_n 0, 1) := by decide +kernel
theorem dL_stacked_503 : decode cL_stacked 503 = .ok (.iload 7, 2) := by decide +kernel
theorem dL_stacked_505 : decode cL_stacked 505 = .ok (.iload 8, 2) := by decide +kernel
theorem dL_stacked_507 : decode cL_stacked 507 = .ok (.invokevirtual 22, 3) := by decide +kernel
theorem dL_stacked_510 : decode cL_stacked 510 = .ok (.bipush (-2), 2) := by decide +kernel
theorem dL_stacked_512 : decode cL_stacked 512 = .ok (.if_icmp .ne 7, 3) := by decide +kernel
theorem dL_stacked_515 : decode cL_stacked 515 = .ok (.iconst 1, 1) := by decide +kernel
theorem dL_stacked_516 : decode cL_stacked 516 = .ok (.goto 4, 3) := by decide +kernel
theorem dL_stacked_519 : decode cL_stacked 519 = .ok (.iconst 0, 1) := by decide +kernel
theorem dL_stacked_520 : decode cL_stacked 520 = .ok (.ireturn, 1) := by decide +kernel
theorem dL_stacked_521 : decode cL_stacked 521 = .ok (.aload_n 3, 1) := by decide +kernel
theorem dL_stacked_522 : decode cL_stacked 522 = .ok (.bipush 7, 2) := by decide +kernel
theorem dL_stacked_524 : decode cL_stacked 524 = .ok (.iload 10, 2) := by decide +kernel
theorem dL_stacked_526 : decode cL_stacked 526 = .ok (.imul, 1) := by decide +kernel
theorem dL_stacked_527 : decode cL_stacked 527 = .ok (.iconst 2, 1) := by decide +kernel
theorem dL_stacked_528 : decode cL_stacked 528 = .ok (.iadd, 1) := by decide +kernel
theorem dL_stacked_529 : decode cL_stacked 529 = .ok (.dup2, 1) := by decide +kernel
theorem dL_stacked_530 : decode cL_stacked 530 = .ok (.iaload, 1) := by decide +kernel
theorem dL_stacked_531 : decode cL_stacked 531 = .ok (.iload 9, 2) := by decide +kernel
theorem dL_stacked_533 : decode cL_stacked 533 = .ok (.bipush 50, 2) := by decide +kernel
theorem dL_stacked_535 : decode cL_stacked 535 = .ok (.idiv, 1) := by decide +kernel
theorem dL_stacked_536 : decode cL_stacked 536 = .ok (.iload 9, 2) := by decide +kernel
theorem dL_stacked_538 : decode cL_stacked 538 = .ok (.bipush 50, 2) := by decide +kernel
theorem dL_stacked_540 : decode cL_stacked 540 = .ok (.irem, 1) := by decide +kernel
theorem dL_stacked_541 : decode cL_stacked 541 = .ok (.ifCond .le 7, 3) := by decide +kernel
theorem dL_stacked_544 : decode cL_stacked 544 = .ok (.iconst 1, 1) := by decide +kernel
theorem dL_stacked_545 : decode cL_stacked 545 = .ok (.goto 4, 3) := by decide +kernel
theorem dL_stacked_548 : decode cL_stacked 548 = .ok (.iconst 0, 1) := by decide +kernel
theorem dL_stacked_549 : decode cL_stacked 549 = .ok (.iadd, 1) := by decide +kernel
theorem dL_stacked_550 : decode cL_stacked 550 = .ok (.iadd, 1) := by decide +kernel
theorem dL_stacked_551 : decode cL_stacked 551 = .ok (.iastore, 1) := by decide +kernel
theorem dL_stacked_552 : decode cL_stacked 552 = .ok (.aload_n 3, 1) := by decide +kernel
theorem dL_stacked_553 : decode cL_stacked 553 = .ok (.bipush 7, 2) := by decide +kernel
theorem dL_stacked_555 : decode cL_stacked 555 = .ok (.iload 10, 2) := by decide +kernel
