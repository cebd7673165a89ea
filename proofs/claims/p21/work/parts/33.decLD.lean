theorem dL_law_389 : decode cL_law 389 = .ok (.if_icmp .ge 7, 3) := by decide +kernel
theorem dL_law_392 : decode cL_law 392 = .ok (.iconst 1, 1) := by decide +kernel
theorem dL_law_393 : decode cL_law 393 = .ok (.goto 4, 3) := by decide +kernel
theorem dL_law_396 : decode cL_law 396 = .ok (.iconst 0, 1) := by decide +kernel
theorem dL_law_397 : decode cL_law 397 = .ok (.istore 15, 2) := by decide +kernel
theorem dL_law_399 : decode cL_law 399 = .ok (.iconst 0, 1) := by decide +kernel
theorem dL_law_400 : decode cL_law 400 = .ok (.istore 16, 2) := by decide +kernel
theorem dL_law_402 : decode cL_law 402 = .ok (.iload 16, 2) := by decide +kernel
theorem dL_law_404 : decode cL_law 404 = .ok (.iconst 1, 1) := by decide +kernel
theorem dL_law_405 : decode cL_law 405 = .ok (.iload 11, 2) := by decide +kernel
theorem dL_law_407 : decode cL_law 407 = .ok (.iconst 5, 1) := by decide +kernel
theorem dL_law_408 : decode cL_law 408 = .ok (.ishr, 1) := by decide +kernel
theorem dL_law_409 : decode cL_law 409 = .ok (.iconst 3, 1) := by decide +kernel
theorem dL_law_410 : decode cL_law 410 = .ok (.invokestatic 38, 3) := by decide +kernel
theorem dL_law_413 : decode cL_law 413 = .ok (.iadd, 1) := by decide +kernel
theorem dL_law_414 : decode cL_law 414 = .ok (.if_icmp .ge 22, 3) := by decide +kernel
theorem dL_law_417 : decode cL_law 417 = .ok (.iload 15, 2) := by decide +kernel
theorem dL_law_419 : decode cL_law 419 = .ok (.ifCond .eq 17, 3) := by decide +kernel
theorem dL_law_422 : decode cL_law 422 = .ok (.aload_n 1, 1) := by decide +kernel
theorem dL_law_423 : decode cL_law 423 = .ok (.iload 13, 2) := by decide +kernel
theorem dL_law_425 : decode cL_law 425 = .ok (.invokestatic 61, 3) := by decide +kernel
theorem dL_law_428 : decode cL_law 428 = .ok (.istore 15, 2) := by decide +kernel
theorem dL_law_430 : decode cL_law 430 = .ok (.iinc 16 1, 3) := by decide +kernel
theorem dL_law_433 : decode cL_law 433 = .ok (.goto (-31), 3) := by decide +kernel
theorem dL_law_436 : decode cL_law 436 = .ok (.goto 159, 3) := by decide +kernel
theorem dL_law_439 : decode cL_law 439 = .ok (.iload 12, 2) := by decide +kernel
theorem dL_law_441 : decode cL_law 441 = .ok (.bipush 14, 2) := by decide +kernel
theorem dL_law_443 : decode cL_law 443 = .ok (.if_icmp .ge 86, 3) := by decide +kernel
theorem dL_law_446 : decode cL_law 446 = .ok (.iload 14, 2) := by decide +kernel
theorem dL_law_448 : decode cL_law 448 = .ok (.ifCond .le 81, 3) := by decide +kernel
theorem dL_law_451 : decode cL_law 451 = .ok (.iload 11, 2) := by decide +kernel
theorem dL_law_453 : decode cL_law 453 = .ok (.iload 14, 2) := by decide +kernel
theorem dL_law_455 : decode cL_law 455 = .ok (.invokestatic 38, 3) := by decide +kernel
theorem dL_law_458 : decode cL_law 458 = .ok (.istore 15, 2) := by decide +kernel
theorem dL_law_460 : decode cL_law 460 = .ok (.aload_n 1, 1) := by decide +kernel
theorem dL_law_461 : decode cL_law 461 = .ok (.iconst 0, 1) := by decide +kernel
theorem dL_law_462 : decode cL_law 462 = .ok (.iload 15, 2) := by decide +kernel
theorem dL_law_464 : decode cL_law 464 = .ok (.invokevirtual 8, 3) := by decide +kernel
theorem dL_law_467 : decode cL_law 467 = .ok (.bipush (-2), 2) := by decide +kernel
theorem dL_law_469 : decode cL_law 469 = .ok (.if_icmp .eq 27, 3) := by decide +kernel
theorem dL_law_472 : decode cL_law 472 = .ok (.aload_n 1, 1) := by decide +kernel
theorem dL_law_473 : decode cL_law 473 = .ok (.iconst 1, 1) := by decide +kernel
theorem dL_law_474 : decode cL_law 474 = .ok (.iload 15, 2) := by decide +kernel
theorem dL_law_476 : decode cL_law 476 = .ok (.invokevirtual 8, 3) := by decide +kernel
theorem dL_law_479 : decode cL_law 479 = .ok (.bipush (-2), 2) := by decide +kernel
theorem dL_law_481 : decode cL_law 481 = .ok (.if_icmp .eq 15, 3) := by decide +kernel
theorem dL_law_484 : decode cL_law 484 = .ok (.aload_n 1, 1) := by decide +kernel
theorem dL_law_485 : decode cL_law 485 = .ok (.iconst 2, 1) := by decide +kernel
theorem dL_law_486 : decode cL_law 486 = .ok (.iload 15, 2) := by decide +kernel
theorem dL_law_488 : decode cL_law 488 = .ok (.invokevirtual 8, 3) := by decide +kernel
theorem dL_law_491 : decode cL_law 491 = .ok (.bipush (-2), 2) := by decide +kernel
theorem dL_law_493 : decode cL_law 493 = .ok (.if_icmp .ne 33, 3) := by decide +kernel
theorem dL_law_496 : decode cL_law 496 = .ok (.aload_n 1, 1) := by decide +kernel
theorem dL_law_497 : decode cL_law 497 = .ok (.iconst 0, 1) := by decide +kernel
theorem dL_law_498 : decode cL_law 498 = .ok (.iload 15, 2) := by decide +kernel
theorem dL_law_500 : decode cL_law 500 = .ok (.invokevirtual 8, 3) := by decide +kernel
theorem dL_law_503 : decode cL_law 503 = .ok (.ifCond .lt 7, 3) := by decide +kernel
theorem dL_law_506 : decode cL_law 506 = .ok (.iconst 1, 1) := by decide +kernel
theorem dL_law_507 : decode cL_law 507 = .ok (.goto 4, 3) := by decide +kernel
theorem dL_law_510 : decode cL_law 510 = .ok (.iconst 0, 1) := by decide +kernel
theorem dL_law_511 : decode cL_law 511 = .ok (.istore 16, 2) := by decide +kernel
theorem dL_law_513 : decode cL_law 513 = .ok (.aload_n 1, 1) := by decide +kernel
theorem dL_law_514 : decode cL_law 514 = .ok (.iload 15, 2) := by decide +kernel
theorem dL_law_516 : decode cL_law 516 = .ok (.invokevirtual 65, 3) := by decide +kernel
theorem dL_law_519 : decode cL_law 519 = .ok (.iload 16, 2) := by decide +kernel
theorem dL_law_521 : decode cL_law 521 = .ok (.if_icmp .eq 5, 3) := by decide +kernel
theorem dL_law_524 : decode cL_law 524 = .ok (.iconst 0, 1) := by decide +kernel
theorem dL_law_525 : decode cL_law 525 = .ok (.ireturn, 1) := by decide +kernel
theorem dL_law_526 : decode cL_law 526 = .ok (.goto 69, 3) := by decide +kernel
theorem dL_law_529 : decode cL_law 529 = .ok (.iload 12, 2) := by decide +kernel
theorem dL_law_531 : decode cL_law 531 = .ok (.bipush 14, 2) := by decide +kernel
theorem dL_law_533 : decode cL_law 533 = .ok (.if_icmp .ne 25, 3) := by decide +kernel
