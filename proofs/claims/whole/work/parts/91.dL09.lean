theorem d_L_614 : decode code 614 = .ok (.aload_n 1, 1) := by decide +kernel
theorem d_L_615 : decode code 615 = .ok (.aload_n 0, 1) := by decide +kernel
theorem d_L_616 : decode code 616 = .ok (.iload_n 3, 1) := by decide +kernel
theorem d_L_617 : decode code 617 = .ok (.iconst 1, 1) := by decide +kernel
theorem d_L_618 : decode code 618 = .ok (.iadd, 1) := by decide +kernel
theorem d_L_619 : decode code 619 = .ok (.iaload, 1) := by decide +kernel
theorem d_L_620 : decode code 620 = .ok (.aload_n 0, 1) := by decide +kernel
theorem d_L_621 : decode code 621 = .ok (.iload_n 3, 1) := by decide +kernel
theorem d_L_622 : decode code 622 = .ok (.iconst 2, 1) := by decide +kernel
theorem d_L_623 : decode code 623 = .ok (.iadd, 1) := by decide +kernel
theorem d_L_624 : decode code 624 = .ok (.iaload, 1) := by decide +kernel
theorem d_L_625 : decode code 625 = .ok (.aload_n 0, 1) := by decide +kernel
theorem d_L_626 : decode code 626 = .ok (.iload_n 3, 1) := by decide +kernel
theorem d_L_627 : decode code 627 = .ok (.iconst 3, 1) := by decide +kernel
theorem d_L_628 : decode code 628 = .ok (.iadd, 1) := by decide +kernel
theorem d_L_629 : decode code 629 = .ok (.iaload, 1) := by decide +kernel
theorem d_L_630 : decode code 630 = .ok (.invokevirtual 62, 3) := by decide +kernel
theorem d_L_633 : decode code 633 = .ok (.aload_n 2, 1) := by decide +kernel
theorem d_L_634 : decode code 634 = .ok (.aload_n 0, 1) := by decide +kernel
theorem d_L_635 : decode code 635 = .ok (.iload_n 3, 1) := by decide +kernel
theorem d_L_636 : decode code 636 = .ok (.iconst 1, 1) := by decide +kernel
theorem d_L_637 : decode code 637 = .ok (.iadd, 1) := by decide +kernel
theorem d_L_638 : decode code 638 = .ok (.iaload, 1) := by decide +kernel
theorem d_L_639 : decode code 639 = .ok (.aload_n 0, 1) := by decide +kernel
theorem d_L_640 : decode code 640 = .ok (.iload_n 3, 1) := by decide +kernel
theorem d_L_641 : decode code 641 = .ok (.iconst 2, 1) := by decide +kernel
theorem d_L_642 : decode code 642 = .ok (.iadd, 1) := by decide +kernel
theorem d_L_643 : decode code 643 = .ok (.iaload, 1) := by decide +kernel
theorem d_L_644 : decode code 644 = .ok (.aload_n 0, 1) := by decide +kernel
theorem d_L_645 : decode code 645 = .ok (.iload_n 3, 1) := by decide +kernel
theorem d_L_646 : decode code 646 = .ok (.iconst 3, 1) := by decide +kernel
theorem d_L_647 : decode code 647 = .ok (.iadd, 1) := by decide +kernel
theorem d_L_648 : decode code 648 = .ok (.iaload, 1) := by decide +kernel
theorem d_L_649 : decode code 649 = .ok (.invokevirtual 65, 3) := by decide +kernel
theorem d_L_652 : decode code 652 = .ok (.if_icmp .eq 38, 3) := by decide +kernel
theorem d_L_655 : decode code 655 = .ok (.iconst 0, 1) := by decide +kernel
theorem d_L_656 : decode code 656 = .ok (.ireturn, 1) := by decide +kernel
theorem d_L_657 : decode code 657 = .ok (.aload_n 1, 1) := by decide +kernel
theorem d_L_658 : decode code 658 = .ok (.aload_n 0, 1) := by decide +kernel
theorem d_L_659 : decode code 659 = .ok (.iload_n 3, 1) := by decide +kernel
theorem d_L_660 : decode code 660 = .ok (.iconst 1, 1) := by decide +kernel
theorem d_L_661 : decode code 661 = .ok (.iadd, 1) := by decide +kernel
theorem d_L_662 : decode code 662 = .ok (.iaload, 1) := by decide +kernel
theorem d_L_663 : decode code 663 = .ok (.aload_n 0, 1) := by decide +kernel
theorem d_L_664 : decode code 664 = .ok (.iload_n 3, 1) := by decide +kernel
theorem d_L_665 : decode code 665 = .ok (.iconst 2, 1) := by decide +kernel
theorem d_L_666 : decode code 666 = .ok (.iadd, 1) := by decide +kernel
theorem d_L_667 : decode code 667 = .ok (.iaload, 1) := by decide +kernel
theorem d_L_668 : decode code 668 = .ok (.invokevirtual 66, 3) := by decide +kernel
theorem d_L_671 : decode code 671 = .ok (.aload_n 2, 1) := by decide +kernel
theorem d_L_672 : decode code 672 = .ok (.aload_n 0, 1) := by decide +kernel
theorem d_L_673 : decode code 673 = .ok (.iload_n 3, 1) := by decide +kernel
theorem d_L_674 : decode code 674 = .ok (.iconst 1, 1) := by decide +kernel
theorem d_L_675 : decode code 675 = .ok (.iadd, 1) := by decide +kernel
theorem d_L_676 : decode code 676 = .ok (.iaload, 1) := by decide +kernel
theorem d_L_677 : decode code 677 = .ok (.aload_n 0, 1) := by decide +kernel
