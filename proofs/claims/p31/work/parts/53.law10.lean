theorem dL_acts_413 : decode cL_acts 413 = .ok (.ireturn, 1) := by decide +kernel
theorem dL_acts_414 : decode cL_acts 414 = .ok (.aload_n 3, 1) := by decide +kernel
theorem dL_acts_415 : decode cL_acts 415 = .ok (.bipush 7, 2) := by decide +kernel
theorem dL_acts_417 : decode cL_acts 417 = .ok (.iload 10, 2) := by decide +kernel
theorem dL_acts_419 : decode cL_acts 419 = .ok (.imul, 1) := by decide +kernel
theorem dL_acts_420 : decode cL_acts 420 = .ok (.iload 7, 2) := by decide +kernel
theorem dL_acts_422 : decode cL_acts 422 = .ok (.bipush 24, 2) := by decide +kernel
theorem dL_acts_424 : decode cL_acts 424 = .ok (.idiv, 1) := by decide +kernel
theorem dL_acts_425 : decode cL_acts 425 = .ok (.sipush 5001, 3) := by decide +kernel
theorem dL_acts_428 : decode cL_acts 428 = .ok (.irem, 1) := by decide +kernel
theorem dL_acts_429 : decode cL_acts 429 = .ok (.iastore, 1) := by decide +kernel
theorem dL_acts_430 : decode cL_acts 430 = .ok (.aload_n 0, 1) := by decide +kernel
theorem dL_acts_431 : decode cL_acts 431 = .ok (.iload 10, 2) := by decide +kernel
theorem dL_acts_433 : decode cL_acts 433 = .ok (.iload 7, 2) := by decide +kernel
theorem dL_acts_435 : decode cL_acts 435 = .ok (.bipush 24, 2) := by decide +kernel
theorem dL_acts_437 : decode cL_acts 437 = .ok (.idiv, 1) := by decide +kernel
theorem dL_acts_438 : decode cL_acts 438 = .ok (.sipush 5001, 3) := by decide +kernel
theorem dL_acts_441 : decode cL_acts 441 = .ok (.irem, 1) := by decide +kernel
theorem dL_acts_442 : decode cL_acts 442 = .ok (.invokevirtual 54, 3) := by decide +kernel
theorem dL_acts_445 : decode cL_acts 445 = .ok (.iload 11, 2) := by decide +kernel
theorem dL_acts_447 : decode cL_acts 447 = .ok (.if_icmp .ne 7, 3) := by decide +kernel
theorem dL_acts_450 : decode cL_acts 450 = .ok (.iconst 1, 1) := by decide +kernel
theorem dL_acts_451 : decode cL_acts 451 = .ok (.goto 4, 3) := by decide +kernel
theorem dL_acts_454 : decode cL_acts 454 = .ok (.iconst 0, 1) := by decide +kernel
theorem dL_acts_455 : decode cL_acts 455 = .ok (.ireturn, 1) := by decide +kernel
theorem dL_acts_456 : decode cL_acts 456 = .ok (.iload 8, 2) := by decide +kernel
theorem dL_acts_458 : decode cL_acts 458 = .ok (.iconst 5, 1) := by decide +kernel
theorem dL_acts_459 : decode cL_acts 459 = .ok (.if_icmp .ge 110, 3) := by decide +kernel
theorem dL_acts_462 : decode cL_acts 462 = .ok (.iload 7, 2) := by decide +kernel
theorem dL_acts_464 : decode cL_acts 464 = .ok (.bipush 24, 2) := by decide +kernel
theorem dL_acts_466 : decode cL_acts 466 = .ok (.idiv, 1) := by decide +kernel
theorem dL_acts_467 : decode cL_acts 467 = .ok (.iconst 4, 1) := by decide +kernel
theorem dL_acts_468 : decode cL_acts 468 = .ok (.irem, 1) := by decide +kernel
theorem dL_acts_469 : decode cL_acts 469 = .ok (.ifCond .le 7, 3) := by decide +kernel
theorem dL_acts_472 : decode cL_acts 472 = .ok (.iconst 1, 1) := by decide +kernel
theorem dL_acts_473 : decode cL_acts 473 = .ok (.goto 4, 3) := by decide +kernel
theorem dL_acts_476 : decode cL_acts 476 = .ok (.iconst 0, 1) := by decide +kernel
theorem dL_acts_477 : decode cL_acts 477 = .ok (.istore 11, 2) := by decide +kernel
theorem dL_acts_479 : decode cL_acts 479 = .ok (.iconst 0, 1) := by decide +kernel
theorem dL_acts_480 : decode cL_acts 480 = .ok (.istore 12, 2) := by decide +kernel
theorem dL_acts_482 : decode cL_acts 482 = .ok (.aload_n 3, 1) := by decide +kernel
theorem dL_acts_483 : decode cL_acts 483 = .ok (.bipush 7, 2) := by decide +kernel
theorem dL_acts_485 : decode cL_acts 485 = .ok (.iload 10, 2) := by decide +kernel
theorem dL_acts_487 : decode cL_acts 487 = .ok (.imul, 1) := by decide +kernel
theorem dL_acts_488 : decode cL_acts 488 = .ok (.iconst 3, 1) := by decide +kernel
theorem dL_acts_489 : decode cL_acts 489 = .ok (.iadd, 1) := by decide +kernel
theorem dL_acts_490 : decode cL_acts 490 = .ok (.aload_n 3, 1) := by decide +kernel
theorem dL_acts_491 : decode cL_acts 491 = .ok (.bipush 7, 2) := by decide +kernel
theorem dL_acts_493 : decode cL_acts 493 = .ok (.iload 10, 2) := by decide +kernel
theorem dL_acts_495 : decode cL_acts 495 = .ok (.imul, 1) := by decide +kernel
theorem dL_acts_496 : decode cL_acts 496 = .ok (.iconst 3, 1) := by decide +kernel
theorem dL_acts_497 : decode cL_acts 497 = .ok (.iadd, 1) := by decide +kernel
theorem dL_acts_498 : decode cL_acts 498 = .ok (.iaload, 1) := by decide +kernel
theorem dL_acts_499 : decode cL_acts 499 = .ok (.iconst 1, 1) := by decide +kernel
theorem dL_acts_500 : decode cL_acts 500 = .ok (.iload 9, 2) := by decide +kernel
theorem dL_acts_502 : decode cL_acts 502 = .ok (.ishl, 1) := by decide +kernel
theorem dL_acts_503 : decode cL_acts 503 = .ok (.iconst (-1), 1) := by decide +kernel
theorem dL_acts_504 : decode cL_acts 504 = .ok (.ixor, 1) := by decide +kernel
theorem dL_acts_505 : decode cL_acts 505 = .ok (.iand, 1) := by decide +kernel
theorem dL_acts_506 : decode cL_acts 506 = .ok (.iload 11, 2) := by decide +kernel
theorem dL_acts_508 : decode cL_acts 508 = .ok (.iload 9, 2) := by decide +kernel
theorem dL_acts_510 : decode cL_acts 510 = .ok (.ishl, 1) := by decide +kernel
theorem dL_acts_511 : decode cL_acts 511 = .ok (.ior, 1) := by decide +kernel
theorem dL_acts_512 : decode cL_acts 512 = .ok (.iastore, 1) := by decide +kernel
theorem dL_acts_513 : decode cL_acts 513 = .ok (.iconst 0, 1) := by decide +kernel
theorem dL_acts_514 : decode cL_acts 514 = .ok (.istore 13, 2) := by decide +kernel
theorem dL_acts_516 : decode cL_acts 516 = .ok (.iload 13, 2) := by decide +kernel
theorem dL_acts_518 : decode cL_acts 518 = .ok (.bipush 6, 2) := by decide +kernel
theorem dL_acts_520 : decode cL_acts 520 = .ok (.if_icmp .ge 28, 3) := by decide +kernel
theorem dL_acts_523 : decode cL_acts 523 = .ok (.iload 12, 2) := by decide +kernel
theorem dL_acts_525 : decode cL_acts 525 = .ok (.aload_n 3, 1) := by decide +kernel
theorem dL_acts_526 : decode cL_acts 526 = .ok (.bipush 7, 2) := by decide +kernel
theorem dL_acts_528 : decode cL_acts 528 = .ok (.iload 10, 2) := by decide +kernel
theorem dL_acts_530 : decode cL_acts 530 = .ok (.imul, 1) := by decide +kernel
theorem dL_acts_531 : decode cL_acts 531 = .ok (.iconst 3, 1) := by decide +kernel
theorem dL_acts_532 : decode cL_acts 532 = .ok (.iadd, 1) := by decide +kernel
theorem dL_acts_533 : decode cL_acts 533 = .ok (.iaload, 1) := by decide +kernel
theorem dL_acts_534 : decode cL_acts 534 = .ok (.iload 13, 2) := by decide +kernel
theorem dL_acts_536 : decode cL_acts 536 = .ok (.ishr, 1) := by decide +kernel
theorem dL_acts_537 : decode cL_acts 537 = .ok (.iconst 1, 1) := by decide +kernel
theorem dL_acts_538 : decode cL_acts 538 = .ok (.iand, 1) := by decide +kernel
theorem dL_acts_539 : decode cL_acts 539 = .ok (.iadd, 1) := by decide +kernel
theorem dL_acts_540 : decode cL_acts 540 = .ok (.istore 12, 2) := by decide +kernel
theorem dL_acts_542 : decode cL_acts 542 = .ok (.iinc 13 1, 3) := by decide +kernel
theorem dL_acts_545 : decode cL_acts 545 = .ok (.goto (-29), 3) := by decide +kernel
theorem dL_acts_548 : decode cL_acts 548 = .ok (.aload_n 0, 1) := by decide +kernel
theorem dL_acts_549 : decode cL_acts 549 = .ok (.iload 9, 2) := by decide +kernel
theorem dL_acts_551 : decode cL_acts 551 = .ok (.iload 10, 2) := by decide +kernel
theorem dL_acts_553 : decode cL_acts 553 = .ok (.iload 11, 2) := by decide +kernel
theorem dL_acts_555 : decode cL_acts 555 = .ok (.invokevirtual 57, 3) := by decide +kernel
theorem dL_acts_558 : decode cL_acts 558 = .ok (.iload 12, 2) := by decide +kernel
theorem dL_acts_560 : decode cL_acts 560 = .ok (.if_icmp .ne 7, 3) := by decide +kernel
theorem dL_acts_563 : decode cL_acts 563 = .ok (.iconst 1, 1) := by decide +kernel
theorem dL_acts_564 : decode cL_acts 564 = .ok (.goto 4, 3) := by decide +kernel
theorem dL_acts_567 : decode cL_acts 567 = .ok (.iconst 0, 1) := by decide +kernel
theorem dL_acts_568 : decode cL_acts 568 = .ok (.ireturn, 1) := by decide +kernel
theorem dL_acts_569 : decode cL_acts 569 = .ok (.iload 8, 2) := by decide +kernel
theorem dL_acts_571 : decode cL_acts 571 = .ok (.bipush 11, 2) := by decide +kernel
theorem dL_acts_573 : decode cL_acts 573 = .ok (.if_icmp .ge 239, 3) := by decide +kernel
theorem dL_acts_576 : decode cL_acts 576 = .ok (.aload_n 1, 1) := by decide +kernel
theorem dL_acts_577 : decode cL_acts 577 = .ok (.aload_n 2, 1) := by decide +kernel
theorem dL_acts_578 : decode cL_acts 578 = .ok (.aload_n 3, 1) := by decide +kernel
theorem dL_acts_579 : decode cL_acts 579 = .ok (.aload 4, 2) := by decide +kernel
theorem dL_acts_581 : decode cL_acts 581 = .ok (.iload 9, 2) := by decide +kernel
theorem dL_acts_583 : decode cL_acts 583 = .ok (.iload 10, 2) := by decide +kernel
theorem dL_acts_585 : decode cL_acts 585 = .ok (.invokestatic 61, 3) := by decide +kernel
theorem dL_acts_588 : decode cL_acts 588 = .ok (.istore 11, 2) := by decide +kernel
theorem dL_acts_590 : decode cL_acts 590 = .ok (.iload 11, 2) := by decide +kernel
theorem dL_acts_592 : decode cL_acts 592 = .ok (.ifCond .eq 10, 3) := by decide +kernel
theorem dL_acts_595 : decode cL_acts 595 = .ok (.iload 7, 2) := by decide +kernel
