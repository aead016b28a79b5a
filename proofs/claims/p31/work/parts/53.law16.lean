theorem dL_isSo_365 : decode cL_isSo 365 = .ok (.if_icmp .ne 43, 3) := by decide +kernel
theorem dL_isSo_368 : decode cL_isSo 368 = .ok (.aload_n 0, 1) := by decide +kernel
theorem dL_isSo_369 : decode cL_isSo 369 = .ok (.iload 7, 2) := by decide +kernel
theorem dL_isSo_371 : decode cL_isSo 371 = .ok (.iconst 3, 1) := by decide +kernel
theorem dL_isSo_372 : decode cL_isSo 372 = .ok (.invokevirtual 96, 3) := by decide +kernel
theorem dL_isSo_375 : decode cL_isSo 375 = .ok (.iload 8, 2) := by decide +kernel
theorem dL_isSo_377 : decode cL_isSo 377 = .ok (.if_icmp .ne 31, 3) := by decide +kernel
theorem dL_isSo_380 : decode cL_isSo 380 = .ok (.aload_n 0, 1) := by decide +kernel
theorem dL_isSo_381 : decode cL_isSo 381 = .ok (.iload 7, 2) := by decide +kernel
theorem dL_isSo_383 : decode cL_isSo 383 = .ok (.iconst 4, 1) := by decide +kernel
theorem dL_isSo_384 : decode cL_isSo 384 = .ok (.invokevirtual 96, 3) := by decide +kernel
theorem dL_isSo_387 : decode cL_isSo 387 = .ok (.iload 9, 2) := by decide +kernel
theorem dL_isSo_389 : decode cL_isSo 389 = .ok (.if_icmp .ne 19, 3) := by decide +kernel
theorem dL_isSo_392 : decode cL_isSo 392 = .ok (.aload_n 0, 1) := by decide +kernel
theorem dL_isSo_393 : decode cL_isSo 393 = .ok (.iload 7, 2) := by decide +kernel
theorem dL_isSo_395 : decode cL_isSo 395 = .ok (.iconst 5, 1) := by decide +kernel
theorem dL_isSo_396 : decode cL_isSo 396 = .ok (.invokevirtual 96, 3) := by decide +kernel
theorem dL_isSo_399 : decode cL_isSo 399 = .ok (.iload 10, 2) := by decide +kernel
theorem dL_isSo_401 : decode cL_isSo 401 = .ok (.if_icmp .ne 7, 3) := by decide +kernel
theorem dL_isSo_404 : decode cL_isSo 404 = .ok (.iconst 1, 1) := by decide +kernel
theorem dL_isSo_405 : decode cL_isSo 405 = .ok (.goto 4, 3) := by decide +kernel
theorem dL_isSo_408 : decode cL_isSo 408 = .ok (.iconst 0, 1) := by decide +kernel
theorem dL_isSo_409 : decode cL_isSo 409 = .ok (.istore 6, 2) := by decide +kernel
theorem dL_isSo_411 : decode cL_isSo 411 = .ok (.iinc 7 1, 3) := by decide +kernel
theorem dL_isSo_414 : decode cL_isSo 414 = .ok (.goto (-314), 3) := by decide +kernel
theorem dL_isSo_417 : decode cL_isSo 417 = .ok (.iconst 0, 1) := by decide +kernel
theorem dL_isSo_418 : decode cL_isSo 418 = .ok (.istore 7, 2) := by decide +kernel
theorem dL_isSo_420 : decode cL_isSo 420 = .ok (.iload 7, 2) := by decide +kernel
theorem dL_isSo_422 : decode cL_isSo 422 = .ok (.aload_n 1, 1) := by decide +kernel
theorem dL_isSo_423 : decode cL_isSo 423 = .ok (.iconst 2, 1) := by decide +kernel
theorem dL_isSo_424 : decode cL_isSo 424 = .ok (.iaload, 1) := by decide +kernel
theorem dL_isSo_425 : decode cL_isSo 425 = .ok (.if_icmp .ge 359, 3) := by decide +kernel
theorem dL_isSo_428 : decode cL_isSo 428 = .ok (.iload 6, 2) := by decide +kernel
theorem dL_isSo_430 : decode cL_isSo 430 = .ok (.ifCond .eq 354, 3) := by decide +kernel
theorem dL_isSo_433 : decode cL_isSo 433 = .ok (.iconst 0, 1) := by decide +kernel
theorem dL_isSo_434 : decode cL_isSo 434 = .ok (.istore 8, 2) := by decide +kernel
theorem dL_isSo_436 : decode cL_isSo 436 = .ok (.iconst 0, 1) := by decide +kernel
theorem dL_isSo_437 : decode cL_isSo 437 = .ok (.istore 9, 2) := by decide +kernel
theorem dL_isSo_439 : decode cL_isSo 439 = .ok (.iconst 0, 1) := by decide +kernel
theorem dL_isSo_440 : decode cL_isSo 440 = .ok (.istore 10, 2) := by decide +kernel
theorem dL_isSo_442 : decode cL_isSo 442 = .ok (.iload 10, 2) := by decide +kernel
theorem dL_isSo_444 : decode cL_isSo 444 = .ok (.aload_n 1, 1) := by decide +kernel
theorem dL_isSo_445 : decode cL_isSo 445 = .ok (.iconst 3, 1) := by decide +kernel
theorem dL_isSo_446 : decode cL_isSo 446 = .ok (.iaload, 1) := by decide +kernel
theorem dL_isSo_447 : decode cL_isSo 447 = .ok (.if_icmp .ge 41, 3) := by decide +kernel
theorem dL_isSo_450 : decode cL_isSo 450 = .ok (.iload 8, 2) := by decide +kernel
theorem dL_isSo_452 : decode cL_isSo 452 = .ok (.aload 5, 2) := by decide +kernel
theorem dL_isSo_454 : decode cL_isSo 454 = .ok (.iconst 5, 1) := by decide +kernel
theorem dL_isSo_455 : decode cL_isSo 455 = .ok (.iload 10, 2) := by decide +kernel
theorem dL_isSo_457 : decode cL_isSo 457 = .ok (.imul, 1) := by decide +kernel
theorem dL_isSo_458 : decode cL_isSo 458 = .ok (.iconst 1, 1) := by decide +kernel
theorem dL_isSo_459 : decode cL_isSo 459 = .ok (.iadd, 1) := by decide +kernel
theorem dL_isSo_460 : decode cL_isSo 460 = .ok (.iaload, 1) := by decide +kernel
theorem dL_isSo_461 : decode cL_isSo 461 = .ok (.iload 7, 2) := by decide +kernel
theorem dL_isSo_463 : decode cL_isSo 463 = .ok (.if_icmp .ne 15, 3) := by decide +kernel
theorem dL_isSo_466 : decode cL_isSo 466 = .ok (.aload 5, 2) := by decide +kernel
theorem dL_isSo_468 : decode cL_isSo 468 = .ok (.iconst 5, 1) := by decide +kernel
theorem dL_isSo_469 : decode cL_isSo 469 = .ok (.iload 10, 2) := by decide +kernel
theorem dL_isSo_471 : decode cL_isSo 471 = .ok (.imul, 1) := by decide +kernel
theorem dL_isSo_472 : decode cL_isSo 472 = .ok (.iconst 2, 1) := by decide +kernel
theorem dL_isSo_473 : decode cL_isSo 473 = .ok (.iadd, 1) := by decide +kernel
theorem dL_isSo_474 : decode cL_isSo 474 = .ok (.iaload, 1) := by decide +kernel
theorem dL_isSo_475 : decode cL_isSo 475 = .ok (.goto 4, 3) := by decide +kernel
theorem dL_isSo_478 : decode cL_isSo 478 = .ok (.iconst 0, 1) := by decide +kernel
theorem dL_isSo_479 : decode cL_isSo 479 = .ok (.iadd, 1) := by decide +kernel
theorem dL_isSo_480 : decode cL_isSo 480 = .ok (.istore 8, 2) := by decide +kernel
theorem dL_isSo_482 : decode cL_isSo 482 = .ok (.iinc 10 1, 3) := by decide +kernel
theorem dL_isSo_485 : decode cL_isSo 485 = .ok (.goto (-43), 3) := by decide +kernel
theorem dL_isSo_488 : decode cL_isSo 488 = .ok (.iconst 0, 1) := by decide +kernel
theorem dL_isSo_489 : decode cL_isSo 489 = .ok (.istore 10, 2) := by decide +kernel
theorem dL_isSo_491 : decode cL_isSo 491 = .ok (.iload 10, 2) := by decide +kernel
theorem dL_isSo_493 : decode cL_isSo 493 = .ok (.aload_n 1, 1) := by decide +kernel
theorem dL_isSo_494 : decode cL_isSo 494 = .ok (.iconst 1, 1) := by decide +kernel
theorem dL_isSo_495 : decode cL_isSo 495 = .ok (.iaload, 1) := by decide +kernel
theorem dL_isSo_496 : decode cL_isSo 496 = .ok (.if_icmp .ge 24, 3) := by decide +kernel
theorem dL_isSo_499 : decode cL_isSo 499 = .ok (.iload 9, 2) := by decide +kernel
theorem dL_isSo_501 : decode cL_isSo 501 = .ok (.aload_n 1, 1) := by decide +kernel
theorem dL_isSo_502 : decode cL_isSo 502 = .ok (.aload_n 2, 1) := by decide +kernel
theorem dL_isSo_503 : decode cL_isSo 503 = .ok (.aload_n 3, 1) := by decide +kernel
theorem dL_isSo_504 : decode cL_isSo 504 = .ok (.iload 10, 2) := by decide +kernel
theorem dL_isSo_506 : decode cL_isSo 506 = .ok (.iload 7, 2) := by decide +kernel
theorem dL_isSo_508 : decode cL_isSo 508 = .ok (.invokestatic 9, 3) := by decide +kernel
theorem dL_isSo_511 : decode cL_isSo 511 = .ok (.iadd, 1) := by decide +kernel
theorem dL_isSo_512 : decode cL_isSo 512 = .ok (.istore 9, 2) := by decide +kernel
theorem dL_isSo_514 : decode cL_isSo 514 = .ok (.iinc 10 1, 3) := by decide +kernel
theorem dL_isSo_517 : decode cL_isSo 517 = .ok (.goto (-26), 3) := by decide +kernel
theorem dL_isSo_520 : decode cL_isSo 520 = .ok (.iload 9, 2) := by decide +kernel
theorem dL_isSo_522 : decode cL_isSo 522 = .ok (.aload_n 3, 1) := by decide +kernel
theorem dL_isSo_523 : decode cL_isSo 523 = .ok (.bipush 7, 2) := by decide +kernel
theorem dL_isSo_525 : decode cL_isSo 525 = .ok (.iload 7, 2) := by decide +kernel
theorem dL_isSo_527 : decode cL_isSo 527 = .ok (.imul, 1) := by decide +kernel
theorem dL_isSo_528 : decode cL_isSo 528 = .ok (.iconst 3, 1) := by decide +kernel
theorem dL_isSo_529 : decode cL_isSo 529 = .ok (.iadd, 1) := by decide +kernel
theorem dL_isSo_530 : decode cL_isSo 530 = .ok (.iaload, 1) := by decide +kernel
theorem dL_isSo_531 : decode cL_isSo 531 = .ok (.ifCond .ne 7, 3) := by decide +kernel
theorem dL_isSo_534 : decode cL_isSo 534 = .ok (.iconst 0, 1) := by decide +kernel
theorem dL_isSo_535 : decode cL_isSo 535 = .ok (.goto 10, 3) := by decide +kernel
theorem dL_isSo_538 : decode cL_isSo 538 = .ok (.aload_n 3, 1) := by decide +kernel
theorem dL_isSo_539 : decode cL_isSo 539 = .ok (.bipush 7, 2) := by decide +kernel
theorem dL_isSo_541 : decode cL_isSo 541 = .ok (.iload 7, 2) := by decide +kernel
theorem dL_isSo_543 : decode cL_isSo 543 = .ok (.imul, 1) := by decide +kernel
theorem dL_isSo_544 : decode cL_isSo 544 = .ok (.iaload, 1) := by decide +kernel
theorem dL_isSo_545 : decode cL_isSo 545 = .ok (.if_icmp .ne 7, 3) := by decide +kernel
theorem dL_isSo_548 : decode cL_isSo 548 = .ok (.iconst 1, 1) := by decide +kernel
theorem dL_isSo_549 : decode cL_isSo 549 = .ok (.goto 4, 3) := by decide +kernel
theorem dL_isSo_552 : decode cL_isSo 552 = .ok (.iconst 0, 1) := by decide +kernel
theorem dL_isSo_553 : decode cL_isSo 553 = .ok (.istore 10, 2) := by decide +kernel
theorem dL_isSo_555 : decode cL_isSo 555 = .ok (.aload_n 3, 1) := by decide +kernel
theorem dL_isSo_556 : decode cL_isSo 556 = .ok (.bipush 7, 2) := by decide +kernel
theorem dL_isSo_558 : decode cL_isSo 558 = .ok (.iload 7, 2) := by decide +kernel
