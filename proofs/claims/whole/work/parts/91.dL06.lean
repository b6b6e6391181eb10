theorem d_L_406 : decode code 406 = .ok (.iadd, 1) := by decide +kernel
theorem d_L_407 : decode code 407 = .ok (.iaload, 1) := by decide +kernel
theorem d_L_408 : decode code 408 = .ok (.invokevirtual 34, 3) := by decide +kernel
theorem d_L_411 : decode code 411 = .ok (.if_icmp .eq 279, 3) := by decide +kernel
theorem d_L_414 : decode code 414 = .ok (.iconst 0, 1) := by decide +kernel
theorem d_L_415 : decode code 415 = .ok (.ireturn, 1) := by decide +kernel
theorem d_L_416 : decode code 416 = .ok (.aload_n 1, 1) := by decide +kernel
theorem d_L_417 : decode code 417 = .ok (.aload_n 0, 1) := by decide +kernel
theorem d_L_418 : decode code 418 = .ok (.iload_n 3, 1) := by decide +kernel
theorem d_L_419 : decode code 419 = .ok (.iconst 1, 1) := by decide +kernel
theorem d_L_420 : decode code 420 = .ok (.iadd, 1) := by decide +kernel
theorem d_L_421 : decode code 421 = .ok (.iaload, 1) := by decide +kernel
theorem d_L_422 : decode code 422 = .ok (.aload_n 0, 1) := by decide +kernel
theorem d_L_423 : decode code 423 = .ok (.iload_n 3, 1) := by decide +kernel
theorem d_L_424 : decode code 424 = .ok (.iconst 2, 1) := by decide +kernel
theorem d_L_425 : decode code 425 = .ok (.iadd, 1) := by decide +kernel
theorem d_L_426 : decode code 426 = .ok (.iaload, 1) := by decide +kernel
theorem d_L_427 : decode code 427 = .ok (.aload_n 0, 1) := by decide +kernel
theorem d_L_428 : decode code 428 = .ok (.iload_n 3, 1) := by decide +kernel
theorem d_L_429 : decode code 429 = .ok (.iconst 3, 1) := by decide +kernel
theorem d_L_430 : decode code 430 = .ok (.iadd, 1) := by decide +kernel
theorem d_L_431 : decode code 431 = .ok (.iaload, 1) := by decide +kernel
theorem d_L_432 : decode code 432 = .ok (.invokevirtual 35, 3) := by decide +kernel
theorem d_L_435 : decode code 435 = .ok (.aload_n 2, 1) := by decide +kernel
theorem d_L_436 : decode code 436 = .ok (.aload_n 0, 1) := by decide +kernel
theorem d_L_437 : decode code 437 = .ok (.iload_n 3, 1) := by decide +kernel
theorem d_L_438 : decode code 438 = .ok (.iconst 1, 1) := by decide +kernel
theorem d_L_439 : decode code 439 = .ok (.iadd, 1) := by decide +kernel
theorem d_L_440 : decode code 440 = .ok (.iaload, 1) := by decide +kernel
theorem d_L_441 : decode code 441 = .ok (.aload_n 0, 1) := by decide +kernel
theorem d_L_442 : decode code 442 = .ok (.iload_n 3, 1) := by decide +kernel
theorem d_L_443 : decode code 443 = .ok (.iconst 2, 1) := by decide +kernel
theorem d_L_444 : decode code 444 = .ok (.iadd, 1) := by decide +kernel
theorem d_L_445 : decode code 445 = .ok (.iaload, 1) := by decide +kernel
theorem d_L_446 : decode code 446 = .ok (.aload_n 0, 1) := by decide +kernel
theorem d_L_447 : decode code 447 = .ok (.iload_n 3, 1) := by decide +kernel
theorem d_L_448 : decode code 448 = .ok (.iconst 3, 1) := by decide +kernel
theorem d_L_449 : decode code 449 = .ok (.iadd, 1) := by decide +kernel
theorem d_L_450 : decode code 450 = .ok (.iaload, 1) := by decide +kernel
theorem d_L_451 : decode code 451 = .ok (.invokevirtual 38, 3) := by decide +kernel
theorem d_L_454 : decode code 454 = .ok (.if_icmp .eq 236, 3) := by decide +kernel
theorem d_L_457 : decode code 457 = .ok (.iconst 0, 1) := by decide +kernel
theorem d_L_458 : decode code 458 = .ok (.ireturn, 1) := by decide +kernel
theorem d_L_459 : decode code 459 = .ok (.aload_n 1, 1) := by decide +kernel
theorem d_L_460 : decode code 460 = .ok (.aload_n 0, 1) := by decide +kernel
theorem d_L_461 : decode code 461 = .ok (.iload_n 3, 1) := by decide +kernel
theorem d_L_462 : decode code 462 = .ok (.iconst 1, 1) := by decide +kernel
theorem d_L_463 : decode code 463 = .ok (.iadd, 1) := by decide +kernel
theorem d_L_464 : decode code 464 = .ok (.iaload, 1) := by decide +kernel
theorem d_L_465 : decode code 465 = .ok (.aload_n 0, 1) := by decide +kernel
theorem d_L_466 : decode code 466 = .ok (.iload_n 3, 1) := by decide +kernel
theorem d_L_467 : decode code 467 = .ok (.iconst 2, 1) := by decide +kernel
theorem d_L_468 : decode code 468 = .ok (.iadd, 1) := by decide +kernel
theorem d_L_469 : decode code 469 = .ok (.iaload, 1) := by decide +kernel
theorem d_L_470 : decode code 470 = .ok (.aload_n 0, 1) := by decide +kernel
theorem d_L_471 : decode code 471 = .ok (.iload_n 3, 1) := by decide +kernel
