theorem d_L_678 : decode code 678 = .ok (.iload_n 3, 1) := by decide +kernel
theorem d_L_679 : decode code 679 = .ok (.iconst 2, 1) := by decide +kernel
theorem d_L_680 : decode code 680 = .ok (.iadd, 1) := by decide +kernel
theorem d_L_681 : decode code 681 = .ok (.iaload, 1) := by decide +kernel
theorem d_L_682 : decode code 682 = .ok (.invokevirtual 69, 3) := by decide +kernel
theorem d_L_685 : decode code 685 = .ok (.if_icmp .eq 5, 3) := by decide +kernel
theorem d_L_688 : decode code 688 = .ok (.iconst 0, 1) := by decide +kernel
theorem d_L_689 : decode code 689 = .ok (.ireturn, 1) := by decide +kernel
theorem d_L_690 : decode code 690 = .ok (.iinc 3 10, 3) := by decide +kernel
theorem d_L_693 : decode code 693 = .ok (.goto (-675), 3) := by decide +kernel
theorem d_L_696 : decode code 696 = .ok (.iconst 1, 1) := by decide +kernel
theorem d_L_697 : decode code 697 = .ok (.ireturn, 1) := by decide +kernel
