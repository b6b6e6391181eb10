theorem d_L_0 : decode code 0 = .ok (.new 7, 3) := by decide +kernel
theorem d_L_3 : decode code 3 = .ok (.dup, 1) := by decide +kernel
theorem d_L_4 : decode code 4 = .ok (.invokespecial 9, 3) := by decide +kernel
theorem d_L_7 : decode code 7 = .ok (.astore_n 1, 1) := by decide +kernel
theorem d_L_8 : decode code 8 = .ok (.new 10, 3) := by decide +kernel
theorem d_L_11 : decode code 11 = .ok (.dup, 1) := by decide +kernel
theorem d_L_12 : decode code 12 = .ok (.invokespecial 12, 3) := by decide +kernel
theorem d_L_15 : decode code 15 = .ok (.astore_n 2, 1) := by decide +kernel
theorem d_L_16 : decode code 16 = .ok (.iconst 0, 1) := by decide +kernel
theorem d_L_17 : decode code 17 = .ok (.istore_n 3, 1) := by decide +kernel
theorem d_L_18 : decode code 18 = .ok (.iload_n 3, 1) := by decide +kernel
theorem d_L_19 : decode code 19 = .ok (.aload_n 0, 1) := by decide +kernel
theorem d_L_20 : decode code 20 = .ok (.arraylength, 1) := by decide +kernel
theorem d_L_21 : decode code 21 = .ok (.bipush 10, 2) := by decide +kernel
theorem d_L_23 : decode code 23 = .ok (.isub, 1) := by decide +kernel
theorem d_L_24 : decode code 24 = .ok (.if_icmp .gt 672, 3) := by decide +kernel
theorem d_L_27 : decode code 27 = .ok (.aload_n 0, 1) := by decide +kernel
theorem d_L_28 : decode code 28 = .ok (.iload_n 3, 1) := by decide +kernel
theorem d_L_29 : decode code 29 = .ok (.iaload, 1) := by decide +kernel
theorem d_L_30 : decode code 30 = .ok (.bipush 15, 2) := by decide +kernel
theorem d_L_32 : decode code 32 = .ok (.iand, 1) := by decide +kernel
theorem d_L_33 : decode code 33 = .ok (.tableswitch (657) 0 (11) #[63, 126, 149, 340, 383, 426, 469, 492, 515, 548, 581, 624], 63) := by decide +kernel
theorem d_L_96 : decode code 96 = .ok (.aload_n 1, 1) := by decide +kernel
theorem d_L_97 : decode code 97 = .ok (.aload_n 0, 1) := by decide +kernel
theorem d_L_98 : decode code 98 = .ok (.iload_n 3, 1) := by decide +kernel
theorem d_L_99 : decode code 99 = .ok (.iconst 1, 1) := by decide +kernel
theorem d_L_100 : decode code 100 = .ok (.iadd, 1) := by decide +kernel
theorem d_L_101 : decode code 101 = .ok (.iaload, 1) := by decide +kernel
theorem d_L_102 : decode code 102 = .ok (.aload_n 0, 1) := by decide +kernel
theorem d_L_103 : decode code 103 = .ok (.iload_n 3, 1) := by decide +kernel
theorem d_L_104 : decode code 104 = .ok (.iconst 2, 1) := by decide +kernel
theorem d_L_105 : decode code 105 = .ok (.iadd, 1) := by decide +kernel
theorem d_L_106 : decode code 106 = .ok (.iaload, 1) := by decide +kernel
theorem d_L_107 : decode code 107 = .ok (.aload_n 0, 1) := by decide +kernel
theorem d_L_108 : decode code 108 = .ok (.iload_n 3, 1) := by decide +kernel
theorem d_L_109 : decode code 109 = .ok (.iconst 3, 1) := by decide +kernel
theorem d_L_110 : decode code 110 = .ok (.iadd, 1) := by decide +kernel
theorem d_L_111 : decode code 111 = .ok (.iaload, 1) := by decide +kernel
theorem d_L_112 : decode code 112 = .ok (.aload_n 0, 1) := by decide +kernel
theorem d_L_113 : decode code 113 = .ok (.iload_n 3, 1) := by decide +kernel
theorem d_L_114 : decode code 114 = .ok (.iconst 4, 1) := by decide +kernel
theorem d_L_115 : decode code 115 = .ok (.iadd, 1) := by decide +kernel
theorem d_L_116 : decode code 116 = .ok (.iaload, 1) := by decide +kernel
theorem d_L_117 : decode code 117 = .ok (.aload_n 0, 1) := by decide +kernel
theorem d_L_118 : decode code 118 = .ok (.iload_n 3, 1) := by decide +kernel
theorem d_L_119 : decode code 119 = .ok (.iconst 5, 1) := by decide +kernel
theorem d_L_120 : decode code 120 = .ok (.iadd, 1) := by decide +kernel
theorem d_L_121 : decode code 121 = .ok (.iaload, 1) := by decide +kernel
theorem d_L_122 : decode code 122 = .ok (.invokevirtual 13, 3) := by decide +kernel
theorem d_L_125 : decode code 125 = .ok (.aload_n 2, 1) := by decide +kernel
theorem d_L_126 : decode code 126 = .ok (.aload_n 0, 1) := by decide +kernel
theorem d_L_127 : decode code 127 = .ok (.iload_n 3, 1) := by decide +kernel
theorem d_L_128 : decode code 128 = .ok (.iconst 1, 1) := by decide +kernel
theorem d_L_129 : decode code 129 = .ok (.iadd, 1) := by decide +kernel
theorem d_L_130 : decode code 130 = .ok (.iaload, 1) := by decide +kernel
theorem d_L_131 : decode code 131 = .ok (.aload_n 0, 1) := by decide +kernel
