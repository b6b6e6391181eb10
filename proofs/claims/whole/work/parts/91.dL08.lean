theorem d_L_546 : decode code 546 = .ok (.iconst 0, 1) := by decide +kernel
theorem d_L_547 : decode code 547 = .ok (.ireturn, 1) := by decide +kernel
theorem d_L_548 : decode code 548 = .ok (.aload_n 1, 1) := by decide +kernel
theorem d_L_549 : decode code 549 = .ok (.aload_n 0, 1) := by decide +kernel
theorem d_L_550 : decode code 550 = .ok (.iload_n 3, 1) := by decide +kernel
theorem d_L_551 : decode code 551 = .ok (.iconst 1, 1) := by decide +kernel
theorem d_L_552 : decode code 552 = .ok (.iadd, 1) := by decide +kernel
theorem d_L_553 : decode code 553 = .ok (.iaload, 1) := by decide +kernel
theorem d_L_554 : decode code 554 = .ok (.aload_n 0, 1) := by decide +kernel
theorem d_L_555 : decode code 555 = .ok (.iload_n 3, 1) := by decide +kernel
theorem d_L_556 : decode code 556 = .ok (.iconst 2, 1) := by decide +kernel
theorem d_L_557 : decode code 557 = .ok (.iadd, 1) := by decide +kernel
theorem d_L_558 : decode code 558 = .ok (.iaload, 1) := by decide +kernel
theorem d_L_559 : decode code 559 = .ok (.invokevirtual 52, 3) := by decide +kernel
theorem d_L_562 : decode code 562 = .ok (.aload_n 2, 1) := by decide +kernel
theorem d_L_563 : decode code 563 = .ok (.aload_n 0, 1) := by decide +kernel
theorem d_L_564 : decode code 564 = .ok (.iload_n 3, 1) := by decide +kernel
theorem d_L_565 : decode code 565 = .ok (.iconst 1, 1) := by decide +kernel
theorem d_L_566 : decode code 566 = .ok (.iadd, 1) := by decide +kernel
theorem d_L_567 : decode code 567 = .ok (.iaload, 1) := by decide +kernel
theorem d_L_568 : decode code 568 = .ok (.aload_n 0, 1) := by decide +kernel
theorem d_L_569 : decode code 569 = .ok (.iload_n 3, 1) := by decide +kernel
theorem d_L_570 : decode code 570 = .ok (.iconst 2, 1) := by decide +kernel
theorem d_L_571 : decode code 571 = .ok (.iadd, 1) := by decide +kernel
theorem d_L_572 : decode code 572 = .ok (.iaload, 1) := by decide +kernel
theorem d_L_573 : decode code 573 = .ok (.invokevirtual 56, 3) := by decide +kernel
theorem d_L_576 : decode code 576 = .ok (.if_icmp .eq 114, 3) := by decide +kernel
theorem d_L_579 : decode code 579 = .ok (.iconst 0, 1) := by decide +kernel
theorem d_L_580 : decode code 580 = .ok (.ireturn, 1) := by decide +kernel
theorem d_L_581 : decode code 581 = .ok (.aload_n 1, 1) := by decide +kernel
theorem d_L_582 : decode code 582 = .ok (.aload_n 0, 1) := by decide +kernel
theorem d_L_583 : decode code 583 = .ok (.iload_n 3, 1) := by decide +kernel
theorem d_L_584 : decode code 584 = .ok (.iconst 1, 1) := by decide +kernel
theorem d_L_585 : decode code 585 = .ok (.iadd, 1) := by decide +kernel
theorem d_L_586 : decode code 586 = .ok (.iaload, 1) := by decide +kernel
theorem d_L_587 : decode code 587 = .ok (.aload_n 0, 1) := by decide +kernel
theorem d_L_588 : decode code 588 = .ok (.iload_n 3, 1) := by decide +kernel
theorem d_L_589 : decode code 589 = .ok (.iconst 2, 1) := by decide +kernel
theorem d_L_590 : decode code 590 = .ok (.iadd, 1) := by decide +kernel
theorem d_L_591 : decode code 591 = .ok (.iaload, 1) := by decide +kernel
theorem d_L_592 : decode code 592 = .ok (.invokevirtual 57, 3) := by decide +kernel
theorem d_L_595 : decode code 595 = .ok (.aload_n 2, 1) := by decide +kernel
theorem d_L_596 : decode code 596 = .ok (.aload_n 0, 1) := by decide +kernel
theorem d_L_597 : decode code 597 = .ok (.iload_n 3, 1) := by decide +kernel
theorem d_L_598 : decode code 598 = .ok (.iconst 1, 1) := by decide +kernel
theorem d_L_599 : decode code 599 = .ok (.iadd, 1) := by decide +kernel
theorem d_L_600 : decode code 600 = .ok (.iaload, 1) := by decide +kernel
theorem d_L_601 : decode code 601 = .ok (.aload_n 0, 1) := by decide +kernel
theorem d_L_602 : decode code 602 = .ok (.iload_n 3, 1) := by decide +kernel
theorem d_L_603 : decode code 603 = .ok (.iconst 2, 1) := by decide +kernel
theorem d_L_604 : decode code 604 = .ok (.iadd, 1) := by decide +kernel
theorem d_L_605 : decode code 605 = .ok (.iaload, 1) := by decide +kernel
theorem d_L_606 : decode code 606 = .ok (.invokevirtual 61, 3) := by decide +kernel
theorem d_L_609 : decode code 609 = .ok (.if_icmp .eq 81, 3) := by decide +kernel
theorem d_L_612 : decode code 612 = .ok (.iconst 0, 1) := by decide +kernel
theorem d_L_613 : decode code 613 = .ok (.ireturn, 1) := by decide +kernel
