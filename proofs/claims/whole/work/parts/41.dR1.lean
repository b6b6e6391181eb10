theorem d_R_init_0 : decode b_R_init 0 = .ok (.aload_n 0, 1) := by decide +kernel
theorem d_R_init_1 : decode b_R_init 1 = .ok (.invokespecial 3, 3) := by decide +kernel
theorem d_R_init_4 : decode b_R_init 4 = .ok (.aload_n 0, 1) := by decide +kernel
theorem d_R_init_5 : decode b_R_init 5 = .ok (.bipush 112, 2) := by decide +kernel
theorem d_R_init_7 : decode b_R_init 7 = .ok (.newarray .int, 2) := by decide +kernel
theorem d_R_init_9 : decode b_R_init 9 = .ok (.putfield 9, 3) := by decide +kernel
theorem d_R_init_12 : decode b_R_init 12 = .ok (.aload_n 0, 1) := by decide +kernel
theorem d_R_init_13 : decode b_R_init 13 = .ok (.bipush 113, 2) := by decide +kernel
theorem d_R_init_15 : decode b_R_init 15 = .ok (.newarray .int, 2) := by decide +kernel
theorem d_R_init_17 : decode b_R_init 17 = .ok (.putfield 15, 3) := by decide +kernel
theorem d_R_init_20 : decode b_R_init 20 = .ok (.aload_n 0, 1) := by decide +kernel
theorem d_R_init_21 : decode b_R_init 21 = .ok (.bipush 113, 2) := by decide +kernel
theorem d_R_init_23 : decode b_R_init 23 = .ok (.newarray .int, 2) := by decide +kernel
theorem d_R_init_25 : decode b_R_init 25 = .ok (.putfield 18, 3) := by decide +kernel
theorem d_R_init_28 : decode b_R_init 28 = .ok (.aload_n 0, 1) := by decide +kernel
theorem d_R_init_29 : decode b_R_init 29 = .ok (.new 21, 3) := by decide +kernel
theorem d_R_init_32 : decode b_R_init 32 = .ok (.dup, 1) := by decide +kernel
theorem d_R_init_33 : decode b_R_init 33 = .ok (.bipush 112, 2) := by decide +kernel
theorem d_R_init_35 : decode b_R_init 35 = .ok (.invokespecial 23, 3) := by decide +kernel
theorem d_R_init_38 : decode b_R_init 38 = .ok (.putfield 26, 3) := by decide +kernel
theorem d_R_init_41 : decode b_R_init 41 = .ok (.return_, 1) := by decide +kernel
theorem d_R_add_0 : decode b_R_add 0 = .ok (.aload_n 0, 1) := by decide +kernel
theorem d_R_add_1 : decode b_R_add 1 = .ok (.aload_n 1, 1) := by decide +kernel
theorem d_R_add_2 : decode b_R_add 2 = .ok (.aload_n 2, 1) := by decide +kernel
theorem d_R_add_3 : decode b_R_add 3 = .ok (.aload_n 2, 1) := by decide +kernel
theorem d_R_add_4 : decode b_R_add 4 = .ok (.getfield 30, 3) := by decide +kernel
theorem d_R_add_7 : decode b_R_add 7 = .ok (.aload_n 3, 1) := by decide +kernel
theorem d_R_add_8 : decode b_R_add 8 = .ok (.invokevirtual 34, 3) := by decide +kernel
theorem d_R_add_11 : decode b_R_add 11 = .ok (.return_, 1) := by decide +kernel
theorem d_R_subtract_0 : decode b_R_subtract 0 = .ok (.aload_n 0, 1) := by decide +kernel
theorem d_R_subtract_1 : decode b_R_subtract 1 = .ok (.aload_n 1, 1) := by decide +kernel
theorem d_R_subtract_2 : decode b_R_subtract 2 = .ok (.aload_n 2, 1) := by decide +kernel
theorem d_R_subtract_3 : decode b_R_subtract 3 = .ok (.aload_n 2, 1) := by decide +kernel
theorem d_R_subtract_4 : decode b_R_subtract 4 = .ok (.getfield 30, 3) := by decide +kernel
theorem d_R_subtract_7 : decode b_R_subtract 7 = .ok (.ifCond .ne 7, 3) := by decide +kernel
theorem d_R_subtract_10 : decode b_R_subtract 10 = .ok (.iconst 1, 1) := by decide +kernel
theorem d_R_subtract_11 : decode b_R_subtract 11 = .ok (.goto 4, 3) := by decide +kernel
theorem d_R_subtract_14 : decode b_R_subtract 14 = .ok (.iconst 0, 1) := by decide +kernel
theorem d_R_subtract_15 : decode b_R_subtract 15 = .ok (.aload_n 3, 1) := by decide +kernel
theorem d_R_subtract_16 : decode b_R_subtract 16 = .ok (.invokevirtual 34, 3) := by decide +kernel
theorem d_R_subtract_19 : decode b_R_subtract 19 = .ok (.return_, 1) := by decide +kernel
theorem d_R_addSigned_0 : decode b_R_addSigned 0 = .ok (.aload_n 1, 1) := by decide +kernel
theorem d_R_addSigned_1 : decode b_R_addSigned 1 = .ok (.getfield 30, 3) := by decide +kernel
theorem d_R_addSigned_4 : decode b_R_addSigned 4 = .ok (.iload_n 3, 1) := by decide +kernel
theorem d_R_addSigned_5 : decode b_R_addSigned 5 = .ok (.if_icmp .ne 14, 3) := by decide +kernel
theorem d_R_addSigned_8 : decode b_R_addSigned 8 = .ok (.aload_n 0, 1) := by decide +kernel
theorem d_R_addSigned_9 : decode b_R_addSigned 9 = .ok (.aload_n 1, 1) := by decide +kernel
theorem d_R_addSigned_10 : decode b_R_addSigned 10 = .ok (.aload_n 2, 1) := by decide +kernel
theorem d_R_addSigned_11 : decode b_R_addSigned 11 = .ok (.aload 4, 2) := by decide +kernel
theorem d_R_addSigned_13 : decode b_R_addSigned 13 = .ok (.invokevirtual 38, 3) := by decide +kernel
theorem d_R_addSigned_16 : decode b_R_addSigned 16 = .ok (.goto 35, 3) := by decide +kernel
theorem d_R_addSigned_19 : decode b_R_addSigned 19 = .ok (.aload_n 1, 1) := by decide +kernel
theorem d_R_addSigned_20 : decode b_R_addSigned 20 = .ok (.aload_n 2, 1) := by decide +kernel
theorem d_R_addSigned_21 : decode b_R_addSigned 21 = .ok (.invokevirtual 42, 3) := by decide +kernel
theorem d_R_addSigned_24 : decode b_R_addSigned 24 = .ok (.ifCond .lt 18, 3) := by decide +kernel
theorem d_R_addSigned_27 : decode b_R_addSigned 27 = .ok (.aload_n 0, 1) := by decide +kernel
theorem d_R_addSigned_28 : decode b_R_addSigned 28 = .ok (.aload_n 1, 1) := by decide +kernel
theorem d_R_addSigned_29 : decode b_R_addSigned 29 = .ok (.aload_n 2, 1) := by decide +kernel
theorem d_R_addSigned_30 : decode b_R_addSigned 30 = .ok (.aload_n 1, 1) := by decide +kernel
theorem d_R_addSigned_31 : decode b_R_addSigned 31 = .ok (.getfield 30, 3) := by decide +kernel
theorem d_R_addSigned_34 : decode b_R_addSigned 34 = .ok (.aload 4, 2) := by decide +kernel
theorem d_R_addSigned_36 : decode b_R_addSigned 36 = .ok (.invokevirtual 46, 3) := by decide +kernel
theorem d_R_addSigned_39 : decode b_R_addSigned 39 = .ok (.goto 12, 3) := by decide +kernel
theorem d_R_addSigned_42 : decode b_R_addSigned 42 = .ok (.aload_n 0, 1) := by decide +kernel
theorem d_R_addSigned_43 : decode b_R_addSigned 43 = .ok (.aload_n 2, 1) := by decide +kernel
theorem d_R_addSigned_44 : decode b_R_addSigned 44 = .ok (.aload_n 1, 1) := by decide +kernel
theorem d_R_addSigned_45 : decode b_R_addSigned 45 = .ok (.iload_n 3, 1) := by decide +kernel
theorem d_R_addSigned_46 : decode b_R_addSigned 46 = .ok (.aload 4, 2) := by decide +kernel
theorem d_R_addSigned_48 : decode b_R_addSigned 48 = .ok (.invokevirtual 46, 3) := by decide +kernel
theorem d_R_addSigned_51 : decode b_R_addSigned 51 = .ok (.return_, 1) := by decide +kernel
theorem d_R_addSizes_0 : decode b_R_addSizes 0 = .ok (.aload_n 1, 1) := by decide +kernel
theorem d_R_addSizes_1 : decode b_R_addSizes 1 = .ok (.getfield 49, 3) := by decide +kernel
theorem d_R_addSizes_4 : decode b_R_addSizes 4 = .ok (.aload_n 2, 1) := by decide +kernel
theorem d_R_addSizes_5 : decode b_R_addSizes 5 = .ok (.getfield 49, 3) := by decide +kernel
theorem d_R_addSizes_8 : decode b_R_addSizes 8 = .ok (.invokestatic 53, 3) := by decide +kernel
theorem d_R_addSizes_11 : decode b_R_addSizes 11 = .ok (.istore 4, 2) := by decide +kernel
theorem d_R_addSizes_13 : decode b_R_addSizes 13 = .ok (.iload 4, 2) := by decide +kernel
theorem d_R_addSizes_15 : decode b_R_addSizes 15 = .ok (.aload_n 3, 1) := by decide +kernel
theorem d_R_addSizes_16 : decode b_R_addSizes 16 = .ok (.getfield 59, 3) := by decide +kernel
theorem d_R_addSizes_19 : decode b_R_addSizes 19 = .ok (.arraylength, 1) := by decide +kernel
theorem d_R_addSizes_20 : decode b_R_addSizes 20 = .ok (.if_icmp .le 9, 3) := by decide +kernel
theorem d_R_addSizes_23 : decode b_R_addSizes 23 = .ok (.aload_n 0, 1) := by decide +kernel
theorem d_R_addSizes_24 : decode b_R_addSizes 24 = .ok (.aload_n 3, 1) := by decide +kernel
theorem d_R_addSizes_25 : decode b_R_addSizes 25 = .ok (.invokevirtual 62, 3) := by decide +kernel
theorem d_R_addSizes_28 : decode b_R_addSizes 28 = .ok (.return_, 1) := by decide +kernel
theorem d_R_addSizes_29 : decode b_R_addSizes 29 = .ok (.iconst 0, 1) := by decide +kernel
theorem d_R_addSizes_30 : decode b_R_addSizes 30 = .ok (.istore 5, 2) := by decide +kernel
theorem d_R_addSizes_32 : decode b_R_addSizes 32 = .ok (.iconst 0, 1) := by decide +kernel
theorem d_R_addSizes_33 : decode b_R_addSizes 33 = .ok (.istore 6, 2) := by decide +kernel
theorem d_R_addSizes_35 : decode b_R_addSizes 35 = .ok (.iload 6, 2) := by decide +kernel
theorem d_R_addSizes_37 : decode b_R_addSizes 37 = .ok (.iload 4, 2) := by decide +kernel
theorem d_R_addSizes_39 : decode b_R_addSizes 39 = .ok (.if_icmp .ge 64, 3) := by decide +kernel
theorem d_R_addSizes_42 : decode b_R_addSizes 42 = .ok (.aload_n 1, 1) := by decide +kernel
theorem d_R_addSizes_43 : decode b_R_addSizes 43 = .ok (.iload 6, 2) := by decide +kernel
theorem d_R_addSizes_45 : decode b_R_addSizes 45 = .ok (.invokevirtual 66, 3) := by decide +kernel
theorem d_R_addSizes_48 : decode b_R_addSizes 48 = .ok (.aload_n 2, 1) := by decide +kernel
theorem d_R_addSizes_49 : decode b_R_addSizes 49 = .ok (.iload 6, 2) := by decide +kernel
theorem d_R_addSizes_51 : decode b_R_addSizes 51 = .ok (.invokevirtual 66, 3) := by decide +kernel
theorem d_R_addSizes_54 : decode b_R_addSizes 54 = .ok (.iadd, 1) := by decide +kernel
theorem d_R_addSizes_55 : decode b_R_addSizes 55 = .ok (.iload 5, 2) := by decide +kernel
theorem d_R_addSizes_57 : decode b_R_addSizes 57 = .ok (.iadd, 1) := by decide +kernel
theorem d_R_addSizes_58 : decode b_R_addSizes 58 = .ok (.istore 7, 2) := by decide +kernel
theorem d_R_addSizes_60 : decode b_R_addSizes 60 = .ok (.iload 7, 2) := by decide +kernel
theorem d_R_addSizes_62 : decode b_R_addSizes 62 = .ok (.ldc 70, 2) := by decide +kernel
theorem d_R_addSizes_64 : decode b_R_addSizes 64 = .ok (.if_icmp .lt 7, 3) := by decide +kernel
theorem d_R_addSizes_67 : decode b_R_addSizes 67 = .ok (.iconst 1, 1) := by decide +kernel
theorem d_R_addSizes_68 : decode b_R_addSizes 68 = .ok (.goto 4, 3) := by decide +kernel
theorem d_R_addSizes_71 : decode b_R_addSizes 71 = .ok (.iconst 0, 1) := by decide +kernel
theorem d_R_addSizes_72 : decode b_R_addSizes 72 = .ok (.istore 5, 2) := by decide +kernel
theorem d_R_addSizes_74 : decode b_R_addSizes 74 = .ok (.aload_n 3, 1) := by decide +kernel
theorem d_R_addSizes_75 : decode b_R_addSizes 75 = .ok (.getfield 59, 3) := by decide +kernel
theorem d_R_addSizes_78 : decode b_R_addSizes 78 = .ok (.iload 6, 2) := by decide +kernel
theorem d_R_addSizes_80 : decode b_R_addSizes 80 = .ok (.iload 5, 2) := by decide +kernel
theorem d_R_addSizes_82 : decode b_R_addSizes 82 = .ok (.iconst 1, 1) := by decide +kernel
theorem d_R_addSizes_83 : decode b_R_addSizes 83 = .ok (.if_icmp .ne 11, 3) := by decide +kernel
theorem d_R_addSizes_86 : decode b_R_addSizes 86 = .ok (.iload 7, 2) := by decide +kernel
theorem d_R_addSizes_88 : decode b_R_addSizes 88 = .ok (.ldc 70, 2) := by decide +kernel
theorem d_R_addSizes_90 : decode b_R_addSizes 90 = .ok (.isub, 1) := by decide +kernel
theorem d_R_addSizes_91 : decode b_R_addSizes 91 = .ok (.goto 5, 3) := by decide +kernel
theorem d_R_addSizes_94 : decode b_R_addSizes 94 = .ok (.iload 7, 2) := by decide +kernel
theorem d_R_addSizes_96 : decode b_R_addSizes 96 = .ok (.iastore, 1) := by decide +kernel
theorem d_R_addSizes_97 : decode b_R_addSizes 97 = .ok (.iinc 6 1, 3) := by decide +kernel
theorem d_R_addSizes_100 : decode b_R_addSizes 100 = .ok (.goto (-65), 3) := by decide +kernel
theorem d_R_addSizes_103 : decode b_R_addSizes 103 = .ok (.iload 5, 2) := by decide +kernel
theorem d_R_addSizes_105 : decode b_R_addSizes 105 = .ok (.iconst 1, 1) := by decide +kernel
theorem d_R_addSizes_106 : decode b_R_addSizes 106 = .ok (.if_icmp .ne 19, 3) := by decide +kernel
theorem d_R_addSizes_109 : decode b_R_addSizes 109 = .ok (.iload 4, 2) := by decide +kernel
theorem d_R_addSizes_111 : decode b_R_addSizes 111 = .ok (.aload_n 3, 1) := by decide +kernel
theorem d_R_addSizes_112 : decode b_R_addSizes 112 = .ok (.getfield 59, 3) := by decide +kernel
theorem d_R_addSizes_115 : decode b_R_addSizes 115 = .ok (.arraylength, 1) := by decide +kernel
theorem d_R_addSizes_116 : decode b_R_addSizes 116 = .ok (.if_icmp .ne 9, 3) := by decide +kernel
theorem d_R_addSizes_119 : decode b_R_addSizes 119 = .ok (.aload_n 0, 1) := by decide +kernel
theorem d_R_addSizes_120 : decode b_R_addSizes 120 = .ok (.aload_n 3, 1) := by decide +kernel
theorem d_R_addSizes_121 : decode b_R_addSizes 121 = .ok (.invokevirtual 62, 3) := by decide +kernel
theorem d_R_addSizes_124 : decode b_R_addSizes 124 = .ok (.return_, 1) := by decide +kernel
theorem d_R_addSizes_125 : decode b_R_addSizes 125 = .ok (.iload 5, 2) := by decide +kernel
theorem d_R_addSizes_127 : decode b_R_addSizes 127 = .ok (.iconst 1, 1) := by decide +kernel
theorem d_R_addSizes_128 : decode b_R_addSizes 128 = .ok (.if_icmp .ne 11, 3) := by decide +kernel
theorem d_R_addSizes_131 : decode b_R_addSizes 131 = .ok (.aload_n 3, 1) := by decide +kernel
theorem d_R_addSizes_132 : decode b_R_addSizes 132 = .ok (.getfield 59, 3) := by decide +kernel
theorem d_R_addSizes_135 : decode b_R_addSizes 135 = .ok (.iload 4, 2) := by decide +kernel
theorem d_R_addSizes_137 : decode b_R_addSizes 137 = .ok (.iconst 1, 1) := by decide +kernel
theorem d_R_addSizes_138 : decode b_R_addSizes 138 = .ok (.iastore, 1) := by decide +kernel
theorem d_R_addSizes_139 : decode b_R_addSizes 139 = .ok (.aload_n 3, 1) := by decide +kernel
theorem d_R_addSizes_140 : decode b_R_addSizes 140 = .ok (.iload 4, 2) := by decide +kernel
theorem d_R_addSizes_142 : decode b_R_addSizes 142 = .ok (.iload 5, 2) := by decide +kernel
theorem d_R_addSizes_144 : decode b_R_addSizes 144 = .ok (.iadd, 1) := by decide +kernel
theorem d_R_addSizes_145 : decode b_R_addSizes 145 = .ok (.aload_n 1, 1) := by decide +kernel
theorem d_R_addSizes_146 : decode b_R_addSizes 146 = .ok (.getfield 30, 3) := by decide +kernel
theorem d_R_addSizes_149 : decode b_R_addSizes 149 = .ok (.invokevirtual 71, 3) := by decide +kernel
theorem d_R_addSizes_152 : decode b_R_addSizes 152 = .ok (.return_, 1) := by decide +kernel
theorem d_R_subtractSizes_0 : decode b_R_subtractSizes 0 = .ok (.aload_n 1, 1) := by decide +kernel
theorem d_R_subtractSizes_1 : decode b_R_subtractSizes 1 = .ok (.getfield 49, 3) := by decide +kernel
theorem d_R_subtractSizes_4 : decode b_R_subtractSizes 4 = .ok (.istore 5, 2) := by decide +kernel
theorem d_R_subtractSizes_6 : decode b_R_subtractSizes 6 = .ok (.iload 5, 2) := by decide +kernel
theorem d_R_subtractSizes_8 : decode b_R_subtractSizes 8 = .ok (.aload 4, 2) := by decide +kernel
theorem d_R_subtractSizes_10 : decode b_R_subtractSizes 10 = .ok (.getfield 59, 3) := by decide +kernel
theorem d_R_subtractSizes_13 : decode b_R_subtractSizes 13 = .ok (.arraylength, 1) := by decide +kernel
theorem d_R_subtractSizes_14 : decode b_R_subtractSizes 14 = .ok (.if_icmp .le 10, 3) := by decide +kernel
theorem d_R_subtractSizes_17 : decode b_R_subtractSizes 17 = .ok (.aload_n 0, 1) := by decide +kernel
theorem d_R_subtractSizes_18 : decode b_R_subtractSizes 18 = .ok (.aload 4, 2) := by decide +kernel
theorem d_R_subtractSizes_20 : decode b_R_subtractSizes 20 = .ok (.invokevirtual 62, 3) := by decide +kernel
theorem d_R_subtractSizes_23 : decode b_R_subtractSizes 23 = .ok (.return_, 1) := by decide +kernel
theorem d_R_subtractSizes_24 : decode b_R_subtractSizes 24 = .ok (.iconst 0, 1) := by decide +kernel
theorem d_R_subtractSizes_25 : decode b_R_subtractSizes 25 = .ok (.istore 6, 2) := by decide +kernel
theorem d_R_subtractSizes_27 : decode b_R_subtractSizes 27 = .ok (.iconst 0, 1) := by decide +kernel
theorem d_R_subtractSizes_28 : decode b_R_subtractSizes 28 = .ok (.istore 7, 2) := by decide +kernel
theorem d_R_subtractSizes_30 : decode b_R_subtractSizes 30 = .ok (.iload 7, 2) := by decide +kernel
theorem d_R_subtractSizes_32 : decode b_R_subtractSizes 32 = .ok (.iload 5, 2) := by decide +kernel
theorem d_R_subtractSizes_34 : decode b_R_subtractSizes 34 = .ok (.if_icmp .ge 63, 3) := by decide +kernel
theorem d_R_subtractSizes_37 : decode b_R_subtractSizes 37 = .ok (.aload_n 1, 1) := by decide +kernel
theorem d_R_subtractSizes_38 : decode b_R_subtractSizes 38 = .ok (.iload 7, 2) := by decide +kernel
theorem d_R_subtractSizes_40 : decode b_R_subtractSizes 40 = .ok (.invokevirtual 66, 3) := by decide +kernel
theorem d_R_subtractSizes_43 : decode b_R_subtractSizes 43 = .ok (.aload_n 2, 1) := by decide +kernel
theorem d_R_subtractSizes_44 : decode b_R_subtractSizes 44 = .ok (.iload 7, 2) := by decide +kernel
theorem d_R_subtractSizes_46 : decode b_R_subtractSizes 46 = .ok (.invokevirtual 66, 3) := by decide +kernel
theorem d_R_subtractSizes_49 : decode b_R_subtractSizes 49 = .ok (.isub, 1) := by decide +kernel
theorem d_R_subtractSizes_50 : decode b_R_subtractSizes 50 = .ok (.iload 6, 2) := by decide +kernel
theorem d_R_subtractSizes_52 : decode b_R_subtractSizes 52 = .ok (.isub, 1) := by decide +kernel
theorem d_R_subtractSizes_53 : decode b_R_subtractSizes 53 = .ok (.istore 8, 2) := by decide +kernel
theorem d_R_subtractSizes_55 : decode b_R_subtractSizes 55 = .ok (.iload 8, 2) := by decide +kernel
theorem d_R_subtractSizes_57 : decode b_R_subtractSizes 57 = .ok (.ifCond .ge 7, 3) := by decide +kernel
theorem d_R_subtractSizes_60 : decode b_R_subtractSizes 60 = .ok (.iconst 1, 1) := by decide +kernel
theorem d_R_subtractSizes_61 : decode b_R_subtractSizes 61 = .ok (.goto 4, 3) := by decide +kernel
theorem d_R_subtractSizes_64 : decode b_R_subtractSizes 64 = .ok (.iconst 0, 1) := by decide +kernel
theorem d_R_subtractSizes_65 : decode b_R_subtractSizes 65 = .ok (.istore 6, 2) := by decide +kernel
theorem d_R_subtractSizes_67 : decode b_R_subtractSizes 67 = .ok (.aload 4, 2) := by decide +kernel
theorem d_R_subtractSizes_69 : decode b_R_subtractSizes 69 = .ok (.getfield 59, 3) := by decide +kernel
theorem d_R_subtractSizes_72 : decode b_R_subtractSizes 72 = .ok (.iload 7, 2) := by decide +kernel
theorem d_R_subtractSizes_74 : decode b_R_subtractSizes 74 = .ok (.iload 6, 2) := by decide +kernel
theorem d_R_subtractSizes_76 : decode b_R_subtractSizes 76 = .ok (.iconst 1, 1) := by decide +kernel
theorem d_R_subtractSizes_77 : decode b_R_subtractSizes 77 = .ok (.if_icmp .ne 11, 3) := by decide +kernel
theorem d_R_subtractSizes_80 : decode b_R_subtractSizes 80 = .ok (.iload 8, 2) := by decide +kernel
theorem d_R_subtractSizes_82 : decode b_R_subtractSizes 82 = .ok (.ldc 70, 2) := by decide +kernel
theorem d_R_subtractSizes_84 : decode b_R_subtractSizes 84 = .ok (.iadd, 1) := by decide +kernel
theorem d_R_subtractSizes_85 : decode b_R_subtractSizes 85 = .ok (.goto 5, 3) := by decide +kernel
theorem d_R_subtractSizes_88 : decode b_R_subtractSizes 88 = .ok (.iload 8, 2) := by decide +kernel
theorem d_R_subtractSizes_90 : decode b_R_subtractSizes 90 = .ok (.iastore, 1) := by decide +kernel
theorem d_R_subtractSizes_91 : decode b_R_subtractSizes 91 = .ok (.iinc 7 1, 3) := by decide +kernel
theorem d_R_subtractSizes_94 : decode b_R_subtractSizes 94 = .ok (.goto (-64), 3) := by decide +kernel
theorem d_R_subtractSizes_97 : decode b_R_subtractSizes 97 = .ok (.aload 4, 2) := by decide +kernel
theorem d_R_subtractSizes_99 : decode b_R_subtractSizes 99 = .ok (.iload 5, 2) := by decide +kernel
theorem d_R_subtractSizes_101 : decode b_R_subtractSizes 101 = .ok (.iload_n 3, 1) := by decide +kernel
theorem d_R_subtractSizes_102 : decode b_R_subtractSizes 102 = .ok (.invokevirtual 71, 3) := by decide +kernel
theorem d_R_subtractSizes_105 : decode b_R_subtractSizes 105 = .ok (.return_, 1) := by decide +kernel
theorem d_R_multiply_0 : decode b_R_multiply 0 = .ok (.aload_n 2, 1) := by decide +kernel
theorem d_R_multiply_1 : decode b_R_multiply 1 = .ok (.getfield 59, 3) := by decide +kernel
theorem d_R_multiply_4 : decode b_R_multiply 4 = .ok (.astore 4, 2) := by decide +kernel
theorem d_R_multiply_6 : decode b_R_multiply 6 = .ok (.aload_n 1, 1) := by decide +kernel
theorem d_R_multiply_7 : decode b_R_multiply 7 = .ok (.getfield 49, 3) := by decide +kernel
theorem d_R_multiply_10 : decode b_R_multiply 10 = .ok (.istore 5, 2) := by decide +kernel
theorem d_R_multiply_12 : decode b_R_multiply 12 = .ok (.aload_n 2, 1) := by decide +kernel
theorem d_R_multiply_13 : decode b_R_multiply 13 = .ok (.getfield 49, 3) := by decide +kernel
theorem d_R_multiply_16 : decode b_R_multiply 16 = .ok (.istore 6, 2) := by decide +kernel
theorem d_R_multiply_18 : decode b_R_multiply 18 = .ok (.iload 5, 2) := by decide +kernel
theorem d_R_multiply_20 : decode b_R_multiply 20 = .ok (.iload 6, 2) := by decide +kernel
theorem d_R_multiply_22 : decode b_R_multiply 22 = .ok (.iadd, 1) := by decide +kernel
theorem d_R_multiply_23 : decode b_R_multiply 23 = .ok (.aload_n 0, 1) := by decide +kernel
theorem d_R_multiply_24 : decode b_R_multiply 24 = .ok (.getfield 9, 3) := by decide +kernel
theorem d_R_multiply_27 : decode b_R_multiply 27 = .ok (.arraylength, 1) := by decide +kernel
theorem d_R_multiply_28 : decode b_R_multiply 28 = .ok (.if_icmp .le 9, 3) := by decide +kernel
theorem d_R_multiply_31 : decode b_R_multiply 31 = .ok (.aload_n 0, 1) := by decide +kernel
theorem d_R_multiply_32 : decode b_R_multiply 32 = .ok (.aload_n 3, 1) := by decide +kernel
theorem d_R_multiply_33 : decode b_R_multiply 33 = .ok (.invokevirtual 62, 3) := by decide +kernel
theorem d_R_multiply_36 : decode b_R_multiply 36 = .ok (.return_, 1) := by decide +kernel
theorem d_R_multiply_37 : decode b_R_multiply 37 = .ok (.iload 5, 2) := by decide +kernel
theorem d_R_multiply_39 : decode b_R_multiply 39 = .ok (.ifCond .eq 8, 3) := by decide +kernel
theorem d_R_multiply_42 : decode b_R_multiply 42 = .ok (.iload 6, 2) := by decide +kernel
theorem d_R_multiply_44 : decode b_R_multiply 44 = .ok (.ifCond .ne 8, 3) := by decide +kernel
theorem d_R_multiply_47 : decode b_R_multiply 47 = .ok (.aload_n 3, 1) := by decide +kernel
theorem d_R_multiply_48 : decode b_R_multiply 48 = .ok (.invokevirtual 75, 3) := by decide +kernel
theorem d_R_multiply_51 : decode b_R_multiply 51 = .ok (.return_, 1) := by decide +kernel
theorem d_R_multiply_52 : decode b_R_multiply 52 = .ok (.iconst 0, 1) := by decide +kernel
theorem d_R_multiply_53 : decode b_R_multiply 53 = .ok (.istore 7, 2) := by decide +kernel
theorem d_R_multiply_55 : decode b_R_multiply 55 = .ok (.iload 7, 2) := by decide +kernel
theorem d_R_multiply_57 : decode b_R_multiply 57 = .ok (.iload 6, 2) := by decide +kernel
theorem d_R_multiply_59 : decode b_R_multiply 59 = .ok (.if_icmp .ge 17, 3) := by decide +kernel
theorem d_R_multiply_62 : decode b_R_multiply 62 = .ok (.aload_n 0, 1) := by decide +kernel
theorem d_R_multiply_63 : decode b_R_multiply 63 = .ok (.getfield 9, 3) := by decide +kernel
theorem d_R_multiply_66 : decode b_R_multiply 66 = .ok (.iload 7, 2) := by decide +kernel
theorem d_R_multiply_68 : decode b_R_multiply 68 = .ok (.iconst 0, 1) := by decide +kernel
theorem d_R_multiply_69 : decode b_R_multiply 69 = .ok (.iastore, 1) := by decide +kernel
theorem d_R_multiply_70 : decode b_R_multiply 70 = .ok (.iinc 7 1, 3) := by decide +kernel
theorem d_R_multiply_73 : decode b_R_multiply 73 = .ok (.goto (-18), 3) := by decide +kernel
theorem d_R_multiply_76 : decode b_R_multiply 76 = .ok (.iconst 0, 1) := by decide +kernel
theorem d_R_multiply_77 : decode b_R_multiply 77 = .ok (.istore 7, 2) := by decide +kernel
theorem d_R_multiply_79 : decode b_R_multiply 79 = .ok (.iload 7, 2) := by decide +kernel
theorem d_R_multiply_81 : decode b_R_multiply 81 = .ok (.iload 5, 2) := by decide +kernel
theorem d_R_multiply_83 : decode b_R_multiply 83 = .ok (.if_icmp .ge 105, 3) := by decide +kernel
theorem d_R_multiply_86 : decode b_R_multiply 86 = .ok (.aload_n 1, 1) := by decide +kernel
theorem d_R_multiply_87 : decode b_R_multiply 87 = .ok (.getfield 59, 3) := by decide +kernel
theorem d_R_multiply_90 : decode b_R_multiply 90 = .ok (.iload 7, 2) := by decide +kernel
theorem d_R_multiply_92 : decode b_R_multiply 92 = .ok (.iaload, 1) := by decide +kernel
theorem d_R_multiply_93 : decode b_R_multiply 93 = .ok (.i2l, 1) := by decide +kernel
theorem d_R_multiply_94 : decode b_R_multiply 94 = .ok (.lstore 8, 2) := by decide +kernel
theorem d_R_multiply_96 : decode b_R_multiply 96 = .ok (.lconst 0, 1) := by decide +kernel
theorem d_R_multiply_97 : decode b_R_multiply 97 = .ok (.lstore 10, 2) := by decide +kernel
theorem d_R_multiply_99 : decode b_R_multiply 99 = .ok (.iconst 0, 1) := by decide +kernel
theorem d_R_multiply_100 : decode b_R_multiply 100 = .ok (.istore 12, 2) := by decide +kernel
theorem d_R_multiply_102 : decode b_R_multiply 102 = .ok (.iload 12, 2) := by decide +kernel
theorem d_R_multiply_104 : decode b_R_multiply 104 = .ok (.iload 6, 2) := by decide +kernel
theorem d_R_multiply_106 : decode b_R_multiply 106 = .ok (.if_icmp .ge 63, 3) := by decide +kernel
theorem d_R_multiply_109 : decode b_R_multiply 109 = .ok (.lload 8, 2) := by decide +kernel
theorem d_R_multiply_111 : decode b_R_multiply 111 = .ok (.aload 4, 2) := by decide +kernel
theorem d_R_multiply_113 : decode b_R_multiply 113 = .ok (.iload 12, 2) := by decide +kernel
theorem d_R_multiply_115 : decode b_R_multiply 115 = .ok (.iaload, 1) := by decide +kernel
theorem d_R_multiply_116 : decode b_R_multiply 116 = .ok (.i2l, 1) := by decide +kernel
theorem d_R_multiply_117 : decode b_R_multiply 117 = .ok (.lmul, 1) := by decide +kernel
theorem d_R_multiply_118 : decode b_R_multiply 118 = .ok (.aload_n 0, 1) := by decide +kernel
theorem d_R_multiply_119 : decode b_R_multiply 119 = .ok (.getfield 9, 3) := by decide +kernel
theorem d_R_multiply_122 : decode b_R_multiply 122 = .ok (.iload 7, 2) := by decide +kernel
theorem d_R_multiply_124 : decode b_R_multiply 124 = .ok (.iload 12, 2) := by decide +kernel
theorem d_R_multiply_126 : decode b_R_multiply 126 = .ok (.iadd, 1) := by decide +kernel
theorem d_R_multiply_127 : decode b_R_multiply 127 = .ok (.iaload, 1) := by decide +kernel
theorem d_R_multiply_128 : decode b_R_multiply 128 = .ok (.i2l, 1) := by decide +kernel
theorem d_R_multiply_129 : decode b_R_multiply 129 = .ok (.ladd, 1) := by decide +kernel
theorem d_R_multiply_130 : decode b_R_multiply 130 = .ok (.lload 10, 2) := by decide +kernel
theorem d_R_multiply_132 : decode b_R_multiply 132 = .ok (.ladd, 1) := by decide +kernel
theorem d_R_multiply_133 : decode b_R_multiply 133 = .ok (.lstore 13, 2) := by decide +kernel
theorem d_R_multiply_135 : decode b_R_multiply 135 = .ok (.lload 13, 2) := by decide +kernel
theorem d_R_multiply_137 : decode b_R_multiply 137 = .ok (.ldc2_w 78, 3) := by decide +kernel
theorem d_R_multiply_140 : decode b_R_multiply 140 = .ok (.ldiv, 1) := by decide +kernel
theorem d_R_multiply_141 : decode b_R_multiply 141 = .ok (.lstore 10, 2) := by decide +kernel
theorem d_R_multiply_143 : decode b_R_multiply 143 = .ok (.aload_n 0, 1) := by decide +kernel
theorem d_R_multiply_144 : decode b_R_multiply 144 = .ok (.getfield 9, 3) := by decide +kernel
theorem d_R_multiply_147 : decode b_R_multiply 147 = .ok (.iload 7, 2) := by decide +kernel
theorem d_R_multiply_149 : decode b_R_multiply 149 = .ok (.iload 12, 2) := by decide +kernel
theorem d_R_multiply_151 : decode b_R_multiply 151 = .ok (.iadd, 1) := by decide +kernel
theorem d_R_multiply_152 : decode b_R_multiply 152 = .ok (.lload 13, 2) := by decide +kernel
theorem d_R_multiply_154 : decode b_R_multiply 154 = .ok (.lload 10, 2) := by decide +kernel
theorem d_R_multiply_156 : decode b_R_multiply 156 = .ok (.ldc2_w 78, 3) := by decide +kernel
theorem d_R_multiply_159 : decode b_R_multiply 159 = .ok (.lmul, 1) := by decide +kernel
theorem d_R_multiply_160 : decode b_R_multiply 160 = .ok (.lsub, 1) := by decide +kernel
theorem d_R_multiply_161 : decode b_R_multiply 161 = .ok (.l2i, 1) := by decide +kernel
theorem d_R_multiply_162 : decode b_R_multiply 162 = .ok (.iastore, 1) := by decide +kernel
theorem d_R_multiply_163 : decode b_R_multiply 163 = .ok (.iinc 12 1, 3) := by decide +kernel
theorem d_R_multiply_166 : decode b_R_multiply 166 = .ok (.goto (-64), 3) := by decide +kernel
theorem d_R_multiply_169 : decode b_R_multiply 169 = .ok (.aload_n 0, 1) := by decide +kernel
theorem d_R_multiply_170 : decode b_R_multiply 170 = .ok (.getfield 9, 3) := by decide +kernel
theorem d_R_multiply_173 : decode b_R_multiply 173 = .ok (.iload 7, 2) := by decide +kernel
theorem d_R_multiply_175 : decode b_R_multiply 175 = .ok (.iload 6, 2) := by decide +kernel
theorem d_R_multiply_177 : decode b_R_multiply 177 = .ok (.iadd, 1) := by decide +kernel
theorem d_R_multiply_178 : decode b_R_multiply 178 = .ok (.lload 10, 2) := by decide +kernel
theorem d_R_multiply_180 : decode b_R_multiply 180 = .ok (.l2i, 1) := by decide +kernel
theorem d_R_multiply_181 : decode b_R_multiply 181 = .ok (.iastore, 1) := by decide +kernel
theorem d_R_multiply_182 : decode b_R_multiply 182 = .ok (.iinc 7 1, 3) := by decide +kernel
theorem d_R_multiply_185 : decode b_R_multiply 185 = .ok (.goto (-106), 3) := by decide +kernel
theorem d_R_multiply_188 : decode b_R_multiply 188 = .ok (.aload_n 0, 1) := by decide +kernel
theorem d_R_multiply_189 : decode b_R_multiply 189 = .ok (.aload_n 0, 1) := by decide +kernel
theorem d_R_multiply_190 : decode b_R_multiply 190 = .ok (.getfield 9, 3) := by decide +kernel
theorem d_R_multiply_193 : decode b_R_multiply 193 = .ok (.iload 5, 2) := by decide +kernel
theorem d_R_multiply_195 : decode b_R_multiply 195 = .ok (.iload 6, 2) := by decide +kernel
theorem d_R_multiply_197 : decode b_R_multiply 197 = .ok (.iadd, 1) := by decide +kernel
theorem d_R_multiply_198 : decode b_R_multiply 198 = .ok (.aload_n 1, 1) := by decide +kernel
theorem d_R_multiply_199 : decode b_R_multiply 199 = .ok (.getfield 30, 3) := by decide +kernel
theorem d_R_multiply_202 : decode b_R_multiply 202 = .ok (.aload_n 2, 1) := by decide +kernel
theorem d_R_multiply_203 : decode b_R_multiply 203 = .ok (.getfield 30, 3) := by decide +kernel
theorem d_R_multiply_206 : decode b_R_multiply 206 = .ok (.if_icmp .eq 7, 3) := by decide +kernel
theorem d_R_multiply_209 : decode b_R_multiply 209 = .ok (.iconst 1, 1) := by decide +kernel
theorem d_R_multiply_210 : decode b_R_multiply 210 = .ok (.goto 4, 3) := by decide +kernel
theorem d_R_multiply_213 : decode b_R_multiply 213 = .ok (.iconst 0, 1) := by decide +kernel
theorem d_R_multiply_214 : decode b_R_multiply 214 = .ok (.aload_n 3, 1) := by decide +kernel
theorem d_R_multiply_215 : decode b_R_multiply 215 = .ok (.invokevirtual 80, 3) := by decide +kernel
theorem d_R_multiply_218 : decode b_R_multiply 218 = .ok (.return_, 1) := by decide +kernel
theorem d_R_addProduct_0 : decode b_R_addProduct 0 = .ok (.aload_n 0, 1) := by decide +kernel
theorem d_R_addProduct_1 : decode b_R_addProduct 1 = .ok (.aload_n 1, 1) := by decide +kernel
theorem d_R_addProduct_2 : decode b_R_addProduct 2 = .ok (.aload_n 2, 1) := by decide +kernel
theorem d_R_addProduct_3 : decode b_R_addProduct 3 = .ok (.aload_n 0, 1) := by decide +kernel
theorem d_R_addProduct_4 : decode b_R_addProduct 4 = .ok (.getfield 26, 3) := by decide +kernel
theorem d_R_addProduct_7 : decode b_R_addProduct 7 = .ok (.invokevirtual 84, 3) := by decide +kernel
theorem d_R_addProduct_10 : decode b_R_addProduct 10 = .ok (.aload_n 0, 1) := by decide +kernel
theorem d_R_addProduct_11 : decode b_R_addProduct 11 = .ok (.aload_n 3, 1) := by decide +kernel
theorem d_R_addProduct_12 : decode b_R_addProduct 12 = .ok (.aload_n 0, 1) := by decide +kernel
theorem d_R_addProduct_13 : decode b_R_addProduct 13 = .ok (.getfield 26, 3) := by decide +kernel
theorem d_R_addProduct_16 : decode b_R_addProduct 16 = .ok (.aload_n 0, 1) := by decide +kernel
theorem d_R_addProduct_17 : decode b_R_addProduct 17 = .ok (.getfield 26, 3) := by decide +kernel
theorem d_R_addProduct_20 : decode b_R_addProduct 20 = .ok (.getfield 30, 3) := by decide +kernel
theorem d_R_addProduct_23 : decode b_R_addProduct 23 = .ok (.aload_n 3, 1) := by decide +kernel
theorem d_R_addProduct_24 : decode b_R_addProduct 24 = .ok (.invokevirtual 34, 3) := by decide +kernel
theorem d_R_addProduct_27 : decode b_R_addProduct 27 = .ok (.return_, 1) := by decide +kernel
theorem d_R_subtractProduct_0 : decode b_R_subtractProduct 0 = .ok (.aload_n 0, 1) := by decide +kernel
theorem d_R_subtractProduct_1 : decode b_R_subtractProduct 1 = .ok (.aload_n 1, 1) := by decide +kernel
theorem d_R_subtractProduct_2 : decode b_R_subtractProduct 2 = .ok (.aload_n 2, 1) := by decide +kernel
theorem d_R_subtractProduct_3 : decode b_R_subtractProduct 3 = .ok (.aload_n 0, 1) := by decide +kernel
theorem d_R_subtractProduct_4 : decode b_R_subtractProduct 4 = .ok (.getfield 26, 3) := by decide +kernel
theorem d_R_subtractProduct_7 : decode b_R_subtractProduct 7 = .ok (.invokevirtual 84, 3) := by decide +kernel
theorem d_R_subtractProduct_10 : decode b_R_subtractProduct 10 = .ok (.aload_n 0, 1) := by decide +kernel
theorem d_R_subtractProduct_11 : decode b_R_subtractProduct 11 = .ok (.aload_n 3, 1) := by decide +kernel
theorem d_R_subtractProduct_12 : decode b_R_subtractProduct 12 = .ok (.aload_n 0, 1) := by decide +kernel
theorem d_R_subtractProduct_13 : decode b_R_subtractProduct 13 = .ok (.getfield 26, 3) := by decide +kernel
theorem d_R_subtractProduct_16 : decode b_R_subtractProduct 16 = .ok (.aload_n 0, 1) := by decide +kernel
theorem d_R_subtractProduct_17 : decode b_R_subtractProduct 17 = .ok (.getfield 26, 3) := by decide +kernel
theorem d_R_subtractProduct_20 : decode b_R_subtractProduct 20 = .ok (.getfield 30, 3) := by decide +kernel
theorem d_R_subtractProduct_23 : decode b_R_subtractProduct 23 = .ok (.ifCond .ne 7, 3) := by decide +kernel
theorem d_R_subtractProduct_26 : decode b_R_subtractProduct 26 = .ok (.iconst 1, 1) := by decide +kernel
theorem d_R_subtractProduct_27 : decode b_R_subtractProduct 27 = .ok (.goto 4, 3) := by decide +kernel
theorem d_R_subtractProduct_30 : decode b_R_subtractProduct 30 = .ok (.iconst 0, 1) := by decide +kernel
theorem d_R_subtractProduct_31 : decode b_R_subtractProduct 31 = .ok (.aload_n 3, 1) := by decide +kernel
theorem d_R_subtractProduct_32 : decode b_R_subtractProduct 32 = .ok (.invokevirtual 34, 3) := by decide +kernel
theorem d_R_subtractProduct_35 : decode b_R_subtractProduct 35 = .ok (.return_, 1) := by decide +kernel
theorem d_R_divide_0 : decode b_R_divide 0 = .ok (.aload_n 2, 1) := by decide +kernel
theorem d_R_divide_1 : decode b_R_divide 1 = .ok (.getfield 49, 3) := by decide +kernel
theorem d_R_divide_4 : decode b_R_divide 4 = .ok (.istore 5, 2) := by decide +kernel
theorem d_R_divide_6 : decode b_R_divide 6 = .ok (.aload_n 2, 1) := by decide +kernel
theorem d_R_divide_7 : decode b_R_divide 7 = .ok (.iload 5, 2) := by decide +kernel
theorem d_R_divide_9 : decode b_R_divide 9 = .ok (.iconst 1, 1) := by decide +kernel
theorem d_R_divide_10 : decode b_R_divide 10 = .ok (.isub, 1) := by decide +kernel
theorem d_R_divide_11 : decode b_R_divide 11 = .ok (.invokevirtual 66, 3) := by decide +kernel
theorem d_R_divide_14 : decode b_R_divide 14 = .ok (.istore 6, 2) := by decide +kernel
theorem d_R_divide_16 : decode b_R_divide 16 = .ok (.iload 6, 2) := by decide +kernel
theorem d_R_divide_18 : decode b_R_divide 18 = .ok (.ifCond .le 25, 3) := by decide +kernel
theorem d_R_divide_21 : decode b_R_divide 21 = .ok (.aload_n 1, 1) := by decide +kernel
theorem d_R_divide_22 : decode b_R_divide 22 = .ok (.getfield 49, 3) := by decide +kernel
theorem d_R_divide_25 : decode b_R_divide 25 = .ok (.aload_n 0, 1) := by decide +kernel
theorem d_R_divide_26 : decode b_R_divide 26 = .ok (.getfield 15, 3) := by decide +kernel
theorem d_R_divide_29 : decode b_R_divide 29 = .ok (.arraylength, 1) := by decide +kernel
theorem d_R_divide_30 : decode b_R_divide 30 = .ok (.if_icmp .ge 13, 3) := by decide +kernel
theorem d_R_divide_33 : decode b_R_divide 33 = .ok (.iload 5, 2) := by decide +kernel
theorem d_R_divide_35 : decode b_R_divide 35 = .ok (.aload_n 0, 1) := by decide +kernel
theorem d_R_divide_36 : decode b_R_divide 36 = .ok (.getfield 18, 3) := by decide +kernel
theorem d_R_divide_39 : decode b_R_divide 39 = .ok (.arraylength, 1) := by decide +kernel
theorem d_R_divide_40 : decode b_R_divide 40 = .ok (.if_icmp .lt 15, 3) := by decide +kernel
theorem d_R_divide_43 : decode b_R_divide 43 = .ok (.aload_n 0, 1) := by decide +kernel
theorem d_R_divide_44 : decode b_R_divide 44 = .ok (.aload_n 3, 1) := by decide +kernel
theorem d_R_divide_45 : decode b_R_divide 45 = .ok (.invokevirtual 62, 3) := by decide +kernel
theorem d_R_divide_48 : decode b_R_divide 48 = .ok (.aload_n 0, 1) := by decide +kernel
theorem d_R_divide_49 : decode b_R_divide 49 = .ok (.aload 4, 2) := by decide +kernel
theorem d_R_divide_51 : decode b_R_divide 51 = .ok (.invokevirtual 62, 3) := by decide +kernel
theorem d_R_divide_54 : decode b_R_divide 54 = .ok (.return_, 1) := by decide +kernel
theorem d_R_divide_55 : decode b_R_divide 55 = .ok (.aload_n 1, 1) := by decide +kernel
theorem d_R_divide_56 : decode b_R_divide 56 = .ok (.getfield 49, 3) := by decide +kernel
theorem d_R_divide_59 : decode b_R_divide 59 = .ok (.iload 5, 2) := by decide +kernel
theorem d_R_divide_61 : decode b_R_divide 61 = .ok (.isub, 1) := by decide +kernel
theorem d_R_divide_62 : decode b_R_divide 62 = .ok (.istore 7, 2) := by decide +kernel
theorem d_R_divide_64 : decode b_R_divide 64 = .ok (.iload 7, 2) := by decide +kernel
theorem d_R_divide_66 : decode b_R_divide 66 = .ok (.ifCond .ge 14, 3) := by decide +kernel
theorem d_R_divide_69 : decode b_R_divide 69 = .ok (.aload 4, 2) := by decide +kernel
theorem d_R_divide_71 : decode b_R_divide 71 = .ok (.aload_n 1, 1) := by decide +kernel
theorem d_R_divide_72 : decode b_R_divide 72 = .ok (.invokevirtual 87, 3) := by decide +kernel
theorem d_R_divide_75 : decode b_R_divide 75 = .ok (.aload_n 3, 1) := by decide +kernel
