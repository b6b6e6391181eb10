theorem d_L_472 : decode code 472 = .ok (.iconst 3, 1) := by decide +kernel
theorem d_L_473 : decode code 473 = .ok (.iadd, 1) := by decide +kernel
theorem d_L_474 : decode code 474 = .ok (.iaload, 1) := by decide +kernel
theorem d_L_475 : decode code 475 = .ok (.invokevirtual 39, 3) := by decide +kernel
theorem d_L_478 : decode code 478 = .ok (.aload_n 2, 1) := by decide +kernel
theorem d_L_479 : decode code 479 = .ok (.aload_n 0, 1) := by decide +kernel
theorem d_L_480 : decode code 480 = .ok (.iload_n 3, 1) := by decide +kernel
theorem d_L_481 : decode code 481 = .ok (.iconst 1, 1) := by decide +kernel
theorem d_L_482 : decode code 482 = .ok (.iadd, 1) := by decide +kernel
theorem d_L_483 : decode code 483 = .ok (.iaload, 1) := by decide +kernel
theorem d_L_484 : decode code 484 = .ok (.aload_n 0, 1) := by decide +kernel
theorem d_L_485 : decode code 485 = .ok (.iload_n 3, 1) := by decide +kernel
theorem d_L_486 : decode code 486 = .ok (.iconst 2, 1) := by decide +kernel
theorem d_L_487 : decode code 487 = .ok (.iadd, 1) := by decide +kernel
theorem d_L_488 : decode code 488 = .ok (.iaload, 1) := by decide +kernel
theorem d_L_489 : decode code 489 = .ok (.aload_n 0, 1) := by decide +kernel
theorem d_L_490 : decode code 490 = .ok (.iload_n 3, 1) := by decide +kernel
theorem d_L_491 : decode code 491 = .ok (.iconst 3, 1) := by decide +kernel
theorem d_L_492 : decode code 492 = .ok (.iadd, 1) := by decide +kernel
theorem d_L_493 : decode code 493 = .ok (.iaload, 1) := by decide +kernel
theorem d_L_494 : decode code 494 = .ok (.invokevirtual 42, 3) := by decide +kernel
theorem d_L_497 : decode code 497 = .ok (.if_icmp .eq 193, 3) := by decide +kernel
theorem d_L_500 : decode code 500 = .ok (.iconst 0, 1) := by decide +kernel
theorem d_L_501 : decode code 501 = .ok (.ireturn, 1) := by decide +kernel
theorem d_L_502 : decode code 502 = .ok (.aload_n 1, 1) := by decide +kernel
theorem d_L_503 : decode code 503 = .ok (.aload_n 0, 1) := by decide +kernel
theorem d_L_504 : decode code 504 = .ok (.iload_n 3, 1) := by decide +kernel
theorem d_L_505 : decode code 505 = .ok (.iconst 1, 1) := by decide +kernel
theorem d_L_506 : decode code 506 = .ok (.iadd, 1) := by decide +kernel
theorem d_L_507 : decode code 507 = .ok (.iaload, 1) := by decide +kernel
theorem d_L_508 : decode code 508 = .ok (.invokevirtual 43, 3) := by decide +kernel
theorem d_L_511 : decode code 511 = .ok (.aload_n 2, 1) := by decide +kernel
theorem d_L_512 : decode code 512 = .ok (.aload_n 0, 1) := by decide +kernel
theorem d_L_513 : decode code 513 = .ok (.iload_n 3, 1) := by decide +kernel
theorem d_L_514 : decode code 514 = .ok (.iconst 1, 1) := by decide +kernel
theorem d_L_515 : decode code 515 = .ok (.iadd, 1) := by decide +kernel
theorem d_L_516 : decode code 516 = .ok (.iaload, 1) := by decide +kernel
theorem d_L_517 : decode code 517 = .ok (.invokevirtual 47, 3) := by decide +kernel
theorem d_L_520 : decode code 520 = .ok (.if_icmp .eq 170, 3) := by decide +kernel
theorem d_L_523 : decode code 523 = .ok (.iconst 0, 1) := by decide +kernel
theorem d_L_524 : decode code 524 = .ok (.ireturn, 1) := by decide +kernel
theorem d_L_525 : decode code 525 = .ok (.aload_n 1, 1) := by decide +kernel
theorem d_L_526 : decode code 526 = .ok (.aload_n 0, 1) := by decide +kernel
theorem d_L_527 : decode code 527 = .ok (.iload_n 3, 1) := by decide +kernel
theorem d_L_528 : decode code 528 = .ok (.iconst 1, 1) := by decide +kernel
theorem d_L_529 : decode code 529 = .ok (.iadd, 1) := by decide +kernel
theorem d_L_530 : decode code 530 = .ok (.iaload, 1) := by decide +kernel
theorem d_L_531 : decode code 531 = .ok (.invokevirtual 48, 3) := by decide +kernel
theorem d_L_534 : decode code 534 = .ok (.aload_n 2, 1) := by decide +kernel
theorem d_L_535 : decode code 535 = .ok (.aload_n 0, 1) := by decide +kernel
theorem d_L_536 : decode code 536 = .ok (.iload_n 3, 1) := by decide +kernel
theorem d_L_537 : decode code 537 = .ok (.iconst 1, 1) := by decide +kernel
theorem d_L_538 : decode code 538 = .ok (.iadd, 1) := by decide +kernel
theorem d_L_539 : decode code 539 = .ok (.iaload, 1) := by decide +kernel
theorem d_L_540 : decode code 540 = .ok (.invokevirtual 51, 3) := by decide +kernel
theorem d_L_543 : decode code 543 = .ok (.if_icmp .eq 147, 3) := by decide +kernel
