theorem d_X_init_0 : decode b_X_init 0 = .ok (.aload_n 0, 1) := by decide +kernel
theorem d_X_init_1 : decode b_X_init 1 = .ok (.invokespecial 1, 3) := by decide +kernel
theorem d_X_init_4 : decode b_X_init 4 = .ok (.new 7, 3) := by decide +kernel
theorem d_X_init_7 : decode b_X_init 7 = .ok (.dup, 1) := by decide +kernel
theorem d_X_init_8 : decode b_X_init 8 = .ok (.invokespecial 9, 3) := by decide +kernel
theorem d_X_init_11 : decode b_X_init 11 = .ok (.astore_n 1, 1) := by decide +kernel
theorem d_X_init_12 : decode b_X_init 12 = .ok (.new 10, 3) := by decide +kernel
theorem d_X_init_15 : decode b_X_init 15 = .ok (.dup, 1) := by decide +kernel
theorem d_X_init_16 : decode b_X_init 16 = .ok (.aload_n 1, 1) := by decide +kernel
theorem d_X_init_17 : decode b_X_init 17 = .ok (.invokespecial 12, 3) := by decide +kernel
theorem d_X_init_20 : decode b_X_init 20 = .ok (.astore_n 2, 1) := by decide +kernel
theorem d_X_init_21 : decode b_X_init 21 = .ok (.aload_n 0, 1) := by decide +kernel
theorem d_X_init_22 : decode b_X_init 22 = .ok (.new 15, 3) := by decide +kernel
theorem d_X_init_25 : decode b_X_init 25 = .ok (.dup, 1) := by decide +kernel
theorem d_X_init_26 : decode b_X_init 26 = .ok (.invokespecial 17, 3) := by decide +kernel
theorem d_X_init_29 : decode b_X_init 29 = .ok (.putfield 18, 3) := by decide +kernel
theorem d_X_init_32 : decode b_X_init 32 = .ok (.aload_n 0, 1) := by decide +kernel
theorem d_X_init_33 : decode b_X_init 33 = .ok (.getfield 18, 3) := by decide +kernel
theorem d_X_init_36 : decode b_X_init 36 = .ok (.lconst 0, 1) := by decide +kernel
theorem d_X_init_37 : decode b_X_init 37 = .ok (.lconst 0, 1) := by decide +kernel
theorem d_X_init_38 : decode b_X_init 38 = .ok (.lconst 0, 1) := by decide +kernel
theorem d_X_init_39 : decode b_X_init 39 = .ok (.lconst 0, 1) := by decide +kernel
theorem d_X_init_40 : decode b_X_init 40 = .ok (.lconst 1, 1) := by decide +kernel
theorem d_X_init_41 : decode b_X_init 41 = .ok (.invokevirtual 24, 3) := by decide +kernel
theorem d_X_init_44 : decode b_X_init 44 = .ok (.aload_n 0, 1) := by decide +kernel
theorem d_X_init_45 : decode b_X_init 45 = .ok (.new 28, 3) := by decide +kernel
theorem d_X_init_48 : decode b_X_init 48 = .ok (.dup, 1) := by decide +kernel
theorem d_X_init_49 : decode b_X_init 49 = .ok (.aload_n 0, 1) := by decide +kernel
theorem d_X_init_50 : decode b_X_init 50 = .ok (.getfield 18, 3) := by decide +kernel
theorem d_X_init_53 : decode b_X_init 53 = .ok (.aload_n 1, 1) := by decide +kernel
theorem d_X_init_54 : decode b_X_init 54 = .ok (.aload_n 2, 1) := by decide +kernel
theorem d_X_init_55 : decode b_X_init 55 = .ok (.invokespecial 30, 3) := by decide +kernel
theorem d_X_init_58 : decode b_X_init 58 = .ok (.putfield 33, 3) := by decide +kernel
theorem d_X_init_61 : decode b_X_init 61 = .ok (.aload_n 0, 1) := by decide +kernel
theorem d_X_init_62 : decode b_X_init 62 = .ok (.new 37, 3) := by decide +kernel
theorem d_X_init_65 : decode b_X_init 65 = .ok (.dup, 1) := by decide +kernel
theorem d_X_init_66 : decode b_X_init 66 = .ok (.aload_n 0, 1) := by decide +kernel
theorem d_X_init_67 : decode b_X_init 67 = .ok (.getfield 18, 3) := by decide +kernel
theorem d_X_init_70 : decode b_X_init 70 = .ok (.aload_n 1, 1) := by decide +kernel
theorem d_X_init_71 : decode b_X_init 71 = .ok (.aload_n 2, 1) := by decide +kernel
theorem d_X_init_72 : decode b_X_init 72 = .ok (.invokespecial 39, 3) := by decide +kernel
theorem d_X_init_75 : decode b_X_init 75 = .ok (.putfield 40, 3) := by decide +kernel
theorem d_X_init_78 : decode b_X_init 78 = .ok (.aload_n 0, 1) := by decide +kernel
theorem d_X_init_79 : decode b_X_init 79 = .ok (.new 44, 3) := by decide +kernel
theorem d_X_init_82 : decode b_X_init 82 = .ok (.dup, 1) := by decide +kernel
theorem d_X_init_83 : decode b_X_init 83 = .ok (.invokespecial 46, 3) := by decide +kernel
theorem d_X_init_86 : decode b_X_init 86 = .ok (.putfield 47, 3) := by decide +kernel
theorem d_X_init_89 : decode b_X_init 89 = .ok (.aload_n 0, 1) := by decide +kernel
theorem d_X_init_90 : decode b_X_init 90 = .ok (.new 44, 3) := by decide +kernel
theorem d_X_init_93 : decode b_X_init 93 = .ok (.dup, 1) := by decide +kernel
theorem d_X_init_94 : decode b_X_init 94 = .ok (.invokespecial 46, 3) := by decide +kernel
theorem d_X_init_97 : decode b_X_init 97 = .ok (.putfield 51, 3) := by decide +kernel
theorem d_X_init_100 : decode b_X_init 100 = .ok (.aload_n 0, 1) := by decide +kernel
theorem d_X_init_101 : decode b_X_init 101 = .ok (.new 44, 3) := by decide +kernel
theorem d_X_init_104 : decode b_X_init 104 = .ok (.dup, 1) := by decide +kernel
theorem d_X_init_105 : decode b_X_init 105 = .ok (.invokespecial 46, 3) := by decide +kernel
theorem d_X_init_108 : decode b_X_init 108 = .ok (.putfield 54, 3) := by decide +kernel
theorem d_X_init_111 : decode b_X_init 111 = .ok (.aload_n 0, 1) := by decide +kernel
theorem d_X_init_112 : decode b_X_init 112 = .ok (.bipush 8, 2) := by decide +kernel
theorem d_X_init_114 : decode b_X_init 114 = .ok (.anewarray 44, 3) := by decide +kernel
theorem d_X_init_117 : decode b_X_init 117 = .ok (.putfield 57, 3) := by decide +kernel
theorem d_X_init_120 : decode b_X_init 120 = .ok (.iconst 0, 1) := by decide +kernel
theorem d_X_init_121 : decode b_X_init 121 = .ok (.istore_n 3, 1) := by decide +kernel
theorem d_X_init_122 : decode b_X_init 122 = .ok (.iload_n 3, 1) := by decide +kernel
theorem d_X_init_123 : decode b_X_init 123 = .ok (.bipush 8, 2) := by decide +kernel
theorem d_X_init_125 : decode b_X_init 125 = .ok (.if_icmp .ge 22, 3) := by decide +kernel
theorem d_X_init_128 : decode b_X_init 128 = .ok (.aload_n 0, 1) := by decide +kernel
theorem d_X_init_129 : decode b_X_init 129 = .ok (.getfield 57, 3) := by decide +kernel
theorem d_X_init_132 : decode b_X_init 132 = .ok (.iload_n 3, 1) := by decide +kernel
theorem d_X_init_133 : decode b_X_init 133 = .ok (.new 44, 3) := by decide +kernel
theorem d_X_init_136 : decode b_X_init 136 = .ok (.dup, 1) := by decide +kernel
theorem d_X_init_137 : decode b_X_init 137 = .ok (.invokespecial 46, 3) := by decide +kernel
theorem d_X_init_140 : decode b_X_init 140 = .ok (.aastore, 1) := by decide +kernel
theorem d_X_init_141 : decode b_X_init 141 = .ok (.iinc 3 1, 3) := by decide +kernel
theorem d_X_init_144 : decode b_X_init 144 = .ok (.goto (-22), 3) := by decide +kernel
theorem d_X_init_147 : decode b_X_init 147 = .ok (.return_, 1) := by decide +kernel
theorem d_X_curve_0 : decode b_X_curve 0 = .ok (.iload_n 1, 1) := by decide +kernel
theorem d_X_curve_1 : decode b_X_curve 1 = .ok (.invokestatic 61, 3) := by decide +kernel
theorem d_X_curve_4 : decode b_X_curve 4 = .ok (.ifCond .eq 33, 3) := by decide +kernel
theorem d_X_curve_7 : decode b_X_curve 7 = .ok (.iload_n 2, 1) := by decide +kernel
theorem d_X_curve_8 : decode b_X_curve 8 = .ok (.invokestatic 61, 3) := by decide +kernel
theorem d_X_curve_11 : decode b_X_curve 11 = .ok (.ifCond .eq 26, 3) := by decide +kernel
theorem d_X_curve_14 : decode b_X_curve 14 = .ok (.iload_n 3, 1) := by decide +kernel
theorem d_X_curve_15 : decode b_X_curve 15 = .ok (.invokestatic 61, 3) := by decide +kernel
theorem d_X_curve_18 : decode b_X_curve 18 = .ok (.ifCond .eq 19, 3) := by decide +kernel
theorem d_X_curve_21 : decode b_X_curve 21 = .ok (.iload 4, 2) := by decide +kernel
theorem d_X_curve_23 : decode b_X_curve 23 = .ok (.invokestatic 61, 3) := by decide +kernel
theorem d_X_curve_26 : decode b_X_curve 26 = .ok (.ifCond .eq 11, 3) := by decide +kernel
theorem d_X_curve_29 : decode b_X_curve 29 = .ok (.iload 5, 2) := by decide +kernel
theorem d_X_curve_31 : decode b_X_curve 31 = .ok (.invokestatic 61, 3) := by decide +kernel
theorem d_X_curve_34 : decode b_X_curve 34 = .ok (.ifCond .ne 5, 3) := by decide +kernel
theorem d_X_curve_37 : decode b_X_curve 37 = .ok (.iconst (-1), 1) := by decide +kernel
theorem d_X_curve_38 : decode b_X_curve 38 = .ok (.ireturn, 1) := by decide +kernel
theorem d_X_curve_39 : decode b_X_curve 39 = .ok (.aload_n 0, 1) := by decide +kernel
theorem d_X_curve_40 : decode b_X_curve 40 = .ok (.getfield 40, 3) := by decide +kernel
theorem d_X_curve_43 : decode b_X_curve 43 = .ok (.iload_n 1, 1) := by decide +kernel
theorem d_X_curve_44 : decode b_X_curve 44 = .ok (.i2l, 1) := by decide +kernel
theorem d_X_curve_45 : decode b_X_curve 45 = .ok (.iload_n 2, 1) := by decide +kernel
theorem d_X_curve_46 : decode b_X_curve 46 = .ok (.i2l, 1) := by decide +kernel
theorem d_X_curve_47 : decode b_X_curve 47 = .ok (.iload_n 3, 1) := by decide +kernel
theorem d_X_curve_48 : decode b_X_curve 48 = .ok (.i2l, 1) := by decide +kernel
theorem d_X_curve_49 : decode b_X_curve 49 = .ok (.iload 4, 2) := by decide +kernel
theorem d_X_curve_51 : decode b_X_curve 51 = .ok (.i2l, 1) := by decide +kernel
theorem d_X_curve_52 : decode b_X_curve 52 = .ok (.iload 5, 2) := by decide +kernel
theorem d_X_curve_54 : decode b_X_curve 54 = .ok (.i2l, 1) := by decide +kernel
theorem d_X_curve_55 : decode b_X_curve 55 = .ok (.invokevirtual 65, 3) := by decide +kernel
theorem d_X_curve_58 : decode b_X_curve 58 = .ok (.ifCond .eq 5, 3) := by decide +kernel
theorem d_X_curve_61 : decode b_X_curve 61 = .ok (.iconst 5, 1) := by decide +kernel
theorem d_X_curve_62 : decode b_X_curve 62 = .ok (.ireturn, 1) := by decide +kernel
theorem d_X_curve_63 : decode b_X_curve 63 = .ok (.aload_n 0, 1) := by decide +kernel
theorem d_X_curve_64 : decode b_X_curve 64 = .ok (.getfield 18, 3) := by decide +kernel
theorem d_X_curve_67 : decode b_X_curve 67 = .ok (.iload_n 1, 1) := by decide +kernel
theorem d_X_curve_68 : decode b_X_curve 68 = .ok (.i2l, 1) := by decide +kernel
theorem d_X_curve_69 : decode b_X_curve 69 = .ok (.iload_n 2, 1) := by decide +kernel
theorem d_X_curve_70 : decode b_X_curve 70 = .ok (.i2l, 1) := by decide +kernel
theorem d_X_curve_71 : decode b_X_curve 71 = .ok (.iload_n 3, 1) := by decide +kernel
theorem d_X_curve_72 : decode b_X_curve 72 = .ok (.i2l, 1) := by decide +kernel
theorem d_X_curve_73 : decode b_X_curve 73 = .ok (.iload 4, 2) := by decide +kernel
theorem d_X_curve_75 : decode b_X_curve 75 = .ok (.i2l, 1) := by decide +kernel
theorem d_X_curve_76 : decode b_X_curve 76 = .ok (.iload 5, 2) := by decide +kernel
theorem d_X_curve_78 : decode b_X_curve 78 = .ok (.i2l, 1) := by decide +kernel
theorem d_X_curve_79 : decode b_X_curve 79 = .ok (.invokevirtual 24, 3) := by decide +kernel
theorem d_X_curve_82 : decode b_X_curve 82 = .ok (.iconst 0, 1) := by decide +kernel
theorem d_X_curve_83 : decode b_X_curve 83 = .ok (.istore 6, 2) := by decide +kernel
theorem d_X_curve_85 : decode b_X_curve 85 = .ok (.iload 6, 2) := by decide +kernel
theorem d_X_curve_87 : decode b_X_curve 87 = .ok (.bipush 8, 2) := by decide +kernel
theorem d_X_curve_89 : decode b_X_curve 89 = .ok (.if_icmp .ge 19, 3) := by decide +kernel
theorem d_X_curve_92 : decode b_X_curve 92 = .ok (.aload_n 0, 1) := by decide +kernel
theorem d_X_curve_93 : decode b_X_curve 93 = .ok (.getfield 57, 3) := by decide +kernel
theorem d_X_curve_96 : decode b_X_curve 96 = .ok (.iload 6, 2) := by decide +kernel
theorem d_X_curve_98 : decode b_X_curve 98 = .ok (.aaload, 1) := by decide +kernel
theorem d_X_curve_99 : decode b_X_curve 99 = .ok (.invokevirtual 69, 3) := by decide +kernel
theorem d_X_curve_102 : decode b_X_curve 102 = .ok (.iinc 6 1, 3) := by decide +kernel
theorem d_X_curve_105 : decode b_X_curve 105 = .ok (.goto (-20), 3) := by decide +kernel
theorem d_X_curve_108 : decode b_X_curve 108 = .ok (.iconst 0, 1) := by decide +kernel
theorem d_X_curve_109 : decode b_X_curve 109 = .ok (.ireturn, 1) := by decide +kernel
theorem d_X_none_0 : decode b_X_none 0 = .ok (.iload_n 1, 1) := by decide +kernel
theorem d_X_none_1 : decode b_X_none 1 = .ok (.invokestatic 72, 3) := by decide +kernel
theorem d_X_none_4 : decode b_X_none 4 = .ok (.ifCond .ne 5, 3) := by decide +kernel
theorem d_X_none_7 : decode b_X_none 7 = .ok (.iconst 0, 1) := by decide +kernel
theorem d_X_none_8 : decode b_X_none 8 = .ok (.ireturn, 1) := by decide +kernel
theorem d_X_none_9 : decode b_X_none 9 = .ok (.aload_n 0, 1) := by decide +kernel
theorem d_X_none_10 : decode b_X_none 10 = .ok (.getfield 57, 3) := by decide +kernel
theorem d_X_none_13 : decode b_X_none 13 = .ok (.iload_n 1, 1) := by decide +kernel
theorem d_X_none_14 : decode b_X_none 14 = .ok (.aaload, 1) := by decide +kernel
theorem d_X_none_15 : decode b_X_none 15 = .ok (.invokevirtual 69, 3) := by decide +kernel
theorem d_X_none_18 : decode b_X_none 18 = .ok (.iconst 1, 1) := by decide +kernel
theorem d_X_none_19 : decode b_X_none 19 = .ok (.ireturn, 1) := by decide +kernel
theorem d_X_point_0 : decode b_X_point 0 = .ok (.iload_n 1, 1) := by decide +kernel
theorem d_X_point_1 : decode b_X_point 1 = .ok (.invokestatic 72, 3) := by decide +kernel
theorem d_X_point_4 : decode b_X_point 4 = .ok (.ifCond .eq 17, 3) := by decide +kernel
theorem d_X_point_7 : decode b_X_point 7 = .ok (.lload 4, 2) := by decide +kernel
theorem d_X_point_9 : decode b_X_point 9 = .ok (.lconst 0, 1) := by decide +kernel
theorem d_X_point_10 : decode b_X_point 10 = .ok (.lcmp, 1) := by decide +kernel
theorem d_X_point_11 : decode b_X_point 11 = .ok (.ifCond .eq 10, 3) := by decide +kernel
theorem d_X_point_14 : decode b_X_point 14 = .ok (.lload 8, 2) := by decide +kernel
theorem d_X_point_16 : decode b_X_point 16 = .ok (.lconst 0, 1) := by decide +kernel
theorem d_X_point_17 : decode b_X_point 17 = .ok (.lcmp, 1) := by decide +kernel
theorem d_X_point_18 : decode b_X_point 18 = .ok (.ifCond .ne 5, 3) := by decide +kernel
theorem d_X_point_21 : decode b_X_point 21 = .ok (.iconst (-1), 1) := by decide +kernel
theorem d_X_point_22 : decode b_X_point 22 = .ok (.ireturn, 1) := by decide +kernel
theorem d_X_point_23 : decode b_X_point 23 = .ok (.aload_n 0, 1) := by decide +kernel
theorem d_X_point_24 : decode b_X_point 24 = .ok (.getfield 40, 3) := by decide +kernel
theorem d_X_point_27 : decode b_X_point 27 = .ok (.lload_n 2, 1) := by decide +kernel
theorem d_X_point_28 : decode b_X_point 28 = .ok (.lload 4, 2) := by decide +kernel
theorem d_X_point_30 : decode b_X_point 30 = .ok (.lload 6, 2) := by decide +kernel
theorem d_X_point_32 : decode b_X_point 32 = .ok (.lload 8, 2) := by decide +kernel
theorem d_X_point_34 : decode b_X_point 34 = .ok (.aload_n 0, 1) := by decide +kernel
theorem d_X_point_35 : decode b_X_point 35 = .ok (.getfield 57, 3) := by decide +kernel
theorem d_X_point_38 : decode b_X_point 38 = .ok (.iload_n 1, 1) := by decide +kernel
theorem d_X_point_39 : decode b_X_point 39 = .ok (.aaload, 1) := by decide +kernel
theorem d_X_point_40 : decode b_X_point 40 = .ok (.invokevirtual 75, 3) := by decide +kernel
theorem d_X_point_43 : decode b_X_point 43 = .ok (.ifCond .eq 7, 3) := by decide +kernel
theorem d_X_point_46 : decode b_X_point 46 = .ok (.iconst 1, 1) := by decide +kernel
theorem d_X_point_47 : decode b_X_point 47 = .ok (.goto 4, 3) := by decide +kernel
theorem d_X_point_50 : decode b_X_point 50 = .ok (.iconst 0, 1) := by decide +kernel
theorem d_X_point_51 : decode b_X_point 51 = .ok (.ireturn, 1) := by decide +kernel
theorem d_X_sum_0 : decode b_X_sum 0 = .ok (.iload_n 1, 1) := by decide +kernel
theorem d_X_sum_1 : decode b_X_sum 1 = .ok (.invokestatic 72, 3) := by decide +kernel
theorem d_X_sum_4 : decode b_X_sum 4 = .ok (.ifCond .eq 17, 3) := by decide +kernel
theorem d_X_sum_7 : decode b_X_sum 7 = .ok (.iload_n 2, 1) := by decide +kernel
theorem d_X_sum_8 : decode b_X_sum 8 = .ok (.invokestatic 72, 3) := by decide +kernel
theorem d_X_sum_11 : decode b_X_sum 11 = .ok (.ifCond .eq 10, 3) := by decide +kernel
theorem d_X_sum_14 : decode b_X_sum 14 = .ok (.iload_n 3, 1) := by decide +kernel
theorem d_X_sum_15 : decode b_X_sum 15 = .ok (.invokestatic 72, 3) := by decide +kernel
theorem d_X_sum_18 : decode b_X_sum 18 = .ok (.ifCond .ne 5, 3) := by decide +kernel
theorem d_X_sum_21 : decode b_X_sum 21 = .ok (.iconst (-1), 1) := by decide +kernel
theorem d_X_sum_22 : decode b_X_sum 22 = .ok (.ireturn, 1) := by decide +kernel
theorem d_X_sum_23 : decode b_X_sum 23 = .ok (.aload_n 0, 1) := by decide +kernel
theorem d_X_sum_24 : decode b_X_sum 24 = .ok (.getfield 33, 3) := by decide +kernel
theorem d_X_sum_27 : decode b_X_sum 27 = .ok (.aload_n 0, 1) := by decide +kernel
theorem d_X_sum_28 : decode b_X_sum 28 = .ok (.getfield 57, 3) := by decide +kernel
theorem d_X_sum_31 : decode b_X_sum 31 = .ok (.iload_n 1, 1) := by decide +kernel
theorem d_X_sum_32 : decode b_X_sum 32 = .ok (.aaload, 1) := by decide +kernel
theorem d_X_sum_33 : decode b_X_sum 33 = .ok (.aload_n 0, 1) := by decide +kernel
theorem d_X_sum_34 : decode b_X_sum 34 = .ok (.getfield 57, 3) := by decide +kernel
theorem d_X_sum_37 : decode b_X_sum 37 = .ok (.iload_n 2, 1) := by decide +kernel
theorem d_X_sum_38 : decode b_X_sum 38 = .ok (.aaload, 1) := by decide +kernel
theorem d_X_sum_39 : decode b_X_sum 39 = .ok (.aload_n 0, 1) := by decide +kernel
theorem d_X_sum_40 : decode b_X_sum 40 = .ok (.getfield 47, 3) := by decide +kernel
theorem d_X_sum_43 : decode b_X_sum 43 = .ok (.invokevirtual 79, 3) := by decide +kernel
theorem d_X_sum_46 : decode b_X_sum 46 = .ok (.ifCond .eq 15, 3) := by decide +kernel
theorem d_X_sum_49 : decode b_X_sum 49 = .ok (.aload_n 0, 1) := by decide +kernel
theorem d_X_sum_50 : decode b_X_sum 50 = .ok (.aload_n 0, 1) := by decide +kernel
theorem d_X_sum_51 : decode b_X_sum 51 = .ok (.getfield 47, 3) := by decide +kernel
theorem d_X_sum_54 : decode b_X_sum 54 = .ok (.iload_n 3, 1) := by decide +kernel
theorem d_X_sum_55 : decode b_X_sum 55 = .ok (.invokevirtual 83, 3) := by decide +kernel
theorem d_X_sum_58 : decode b_X_sum 58 = .ok (.goto 4, 3) := by decide +kernel
theorem d_X_sum_61 : decode b_X_sum 61 = .ok (.iconst 0, 1) := by decide +kernel
theorem d_X_sum_62 : decode b_X_sum 62 = .ok (.ireturn, 1) := by decide +kernel
theorem d_X_less_0 : decode b_X_less 0 = .ok (.iload_n 1, 1) := by decide +kernel
theorem d_X_less_1 : decode b_X_less 1 = .ok (.invokestatic 72, 3) := by decide +kernel
theorem d_X_less_4 : decode b_X_less 4 = .ok (.ifCond .eq 17, 3) := by decide +kernel
theorem d_X_less_7 : decode b_X_less 7 = .ok (.iload_n 2, 1) := by decide +kernel
theorem d_X_less_8 : decode b_X_less 8 = .ok (.invokestatic 72, 3) := by decide +kernel
theorem d_X_less_11 : decode b_X_less 11 = .ok (.ifCond .eq 10, 3) := by decide +kernel
theorem d_X_less_14 : decode b_X_less 14 = .ok (.iload_n 3, 1) := by decide +kernel
theorem d_X_less_15 : decode b_X_less 15 = .ok (.invokestatic 72, 3) := by decide +kernel
theorem d_X_less_18 : decode b_X_less 18 = .ok (.ifCond .ne 5, 3) := by decide +kernel
theorem d_X_less_21 : decode b_X_less 21 = .ok (.iconst (-1), 1) := by decide +kernel
theorem d_X_less_22 : decode b_X_less 22 = .ok (.ireturn, 1) := by decide +kernel
theorem d_X_less_23 : decode b_X_less 23 = .ok (.aload_n 0, 1) := by decide +kernel
theorem d_X_less_24 : decode b_X_less 24 = .ok (.getfield 54, 3) := by decide +kernel
theorem d_X_less_27 : decode b_X_less 27 = .ok (.aload_n 0, 1) := by decide +kernel
theorem d_X_less_28 : decode b_X_less 28 = .ok (.getfield 57, 3) := by decide +kernel
theorem d_X_less_31 : decode b_X_less 31 = .ok (.iload_n 2, 1) := by decide +kernel
theorem d_X_less_32 : decode b_X_less 32 = .ok (.aaload, 1) := by decide +kernel
theorem d_X_less_33 : decode b_X_less 33 = .ok (.invokevirtual 87, 3) := by decide +kernel
theorem d_X_less_36 : decode b_X_less 36 = .ok (.aload_n 0, 1) := by decide +kernel
theorem d_X_less_37 : decode b_X_less 37 = .ok (.getfield 33, 3) := by decide +kernel
theorem d_X_less_40 : decode b_X_less 40 = .ok (.aload_n 0, 1) := by decide +kernel
theorem d_X_less_41 : decode b_X_less 41 = .ok (.getfield 54, 3) := by decide +kernel
theorem d_X_less_44 : decode b_X_less 44 = .ok (.invokevirtual 90, 3) := by decide +kernel
theorem d_X_less_47 : decode b_X_less 47 = .ok (.aload_n 0, 1) := by decide +kernel
theorem d_X_less_48 : decode b_X_less 48 = .ok (.getfield 33, 3) := by decide +kernel
theorem d_X_less_51 : decode b_X_less 51 = .ok (.aload_n 0, 1) := by decide +kernel
theorem d_X_less_52 : decode b_X_less 52 = .ok (.getfield 57, 3) := by decide +kernel
theorem d_X_less_55 : decode b_X_less 55 = .ok (.iload_n 1, 1) := by decide +kernel
theorem d_X_less_56 : decode b_X_less 56 = .ok (.aaload, 1) := by decide +kernel
theorem d_X_less_57 : decode b_X_less 57 = .ok (.aload_n 0, 1) := by decide +kernel
theorem d_X_less_58 : decode b_X_less 58 = .ok (.getfield 54, 3) := by decide +kernel
theorem d_X_less_61 : decode b_X_less 61 = .ok (.aload_n 0, 1) := by decide +kernel
theorem d_X_less_62 : decode b_X_less 62 = .ok (.getfield 47, 3) := by decide +kernel
theorem d_X_less_65 : decode b_X_less 65 = .ok (.invokevirtual 79, 3) := by decide +kernel
theorem d_X_less_68 : decode b_X_less 68 = .ok (.ifCond .eq 15, 3) := by decide +kernel
theorem d_X_less_71 : decode b_X_less 71 = .ok (.aload_n 0, 1) := by decide +kernel
theorem d_X_less_72 : decode b_X_less 72 = .ok (.aload_n 0, 1) := by decide +kernel
theorem d_X_less_73 : decode b_X_less 73 = .ok (.getfield 47, 3) := by decide +kernel
theorem d_X_less_76 : decode b_X_less 76 = .ok (.iload_n 3, 1) := by decide +kernel
theorem d_X_less_77 : decode b_X_less 77 = .ok (.invokevirtual 83, 3) := by decide +kernel
theorem d_X_less_80 : decode b_X_less 80 = .ok (.goto 4, 3) := by decide +kernel
theorem d_X_less_83 : decode b_X_less 83 = .ok (.iconst 0, 1) := by decide +kernel
theorem d_X_less_84 : decode b_X_less 84 = .ok (.ireturn, 1) := by decide +kernel
theorem d_X_times_0 : decode b_X_times 0 = .ok (.iload_n 1, 1) := by decide +kernel
theorem d_X_times_1 : decode b_X_times 1 = .ok (.invokestatic 72, 3) := by decide +kernel
theorem d_X_times_4 : decode b_X_times 4 = .ok (.ifCond .eq 22, 3) := by decide +kernel
theorem d_X_times_7 : decode b_X_times 7 = .ok (.iload_n 3, 1) := by decide +kernel
theorem d_X_times_8 : decode b_X_times 8 = .ok (.invokestatic 72, 3) := by decide +kernel
theorem d_X_times_11 : decode b_X_times 11 = .ok (.ifCond .eq 15, 3) := by decide +kernel
theorem d_X_times_14 : decode b_X_times 14 = .ok (.iload_n 2, 1) := by decide +kernel
theorem d_X_times_15 : decode b_X_times 15 = .ok (.ldc 93, 2) := by decide +kernel
theorem d_X_times_17 : decode b_X_times 17 = .ok (.if_icmp .lt 9, 3) := by decide +kernel
theorem d_X_times_20 : decode b_X_times 20 = .ok (.iload_n 2, 1) := by decide +kernel
theorem d_X_times_21 : decode b_X_times 21 = .ok (.ldc 94, 2) := by decide +kernel
theorem d_X_times_23 : decode b_X_times 23 = .ok (.if_icmp .le 5, 3) := by decide +kernel
theorem d_X_times_26 : decode b_X_times 26 = .ok (.iconst (-1), 1) := by decide +kernel
theorem d_X_times_27 : decode b_X_times 27 = .ok (.ireturn, 1) := by decide +kernel
theorem d_X_times_28 : decode b_X_times 28 = .ok (.aload_n 0, 1) := by decide +kernel
theorem d_X_times_29 : decode b_X_times 29 = .ok (.getfield 54, 3) := by decide +kernel
theorem d_X_times_32 : decode b_X_times 32 = .ok (.aload_n 0, 1) := by decide +kernel
theorem d_X_times_33 : decode b_X_times 33 = .ok (.getfield 57, 3) := by decide +kernel
theorem d_X_times_36 : decode b_X_times 36 = .ok (.iload_n 1, 1) := by decide +kernel
theorem d_X_times_37 : decode b_X_times 37 = .ok (.aaload, 1) := by decide +kernel
theorem d_X_times_38 : decode b_X_times 38 = .ok (.invokevirtual 87, 3) := by decide +kernel
theorem d_X_times_41 : decode b_X_times 41 = .ok (.iload_n 2, 1) := by decide +kernel
theorem d_X_times_42 : decode b_X_times 42 = .ok (.ifCond .ge 14, 3) := by decide +kernel
theorem d_X_times_45 : decode b_X_times 45 = .ok (.aload_n 0, 1) := by decide +kernel
theorem d_X_times_46 : decode b_X_times 46 = .ok (.getfield 33, 3) := by decide +kernel
theorem d_X_times_49 : decode b_X_times 49 = .ok (.aload_n 0, 1) := by decide +kernel
theorem d_X_times_50 : decode b_X_times 50 = .ok (.getfield 54, 3) := by decide +kernel
theorem d_X_times_53 : decode b_X_times 53 = .ok (.invokevirtual 90, 3) := by decide +kernel
theorem d_X_times_56 : decode b_X_times 56 = .ok (.iload_n 2, 1) := by decide +kernel
theorem d_X_times_57 : decode b_X_times 57 = .ok (.ifCond .ge 8, 3) := by decide +kernel
theorem d_X_times_60 : decode b_X_times 60 = .ok (.iload_n 2, 1) := by decide +kernel
theorem d_X_times_61 : decode b_X_times 61 = .ok (.ineg, 1) := by decide +kernel
theorem d_X_times_62 : decode b_X_times 62 = .ok (.goto 4, 3) := by decide +kernel
theorem d_X_times_65 : decode b_X_times 65 = .ok (.iload_n 2, 1) := by decide +kernel
theorem d_X_times_66 : decode b_X_times 66 = .ok (.istore 4, 2) := by decide +kernel
theorem d_X_times_68 : decode b_X_times 68 = .ok (.aload_n 0, 1) := by decide +kernel
theorem d_X_times_69 : decode b_X_times 69 = .ok (.getfield 47, 3) := by decide +kernel
theorem d_X_times_72 : decode b_X_times 72 = .ok (.invokevirtual 69, 3) := by decide +kernel
theorem d_X_times_75 : decode b_X_times 75 = .ok (.bipush 19, 2) := by decide +kernel
theorem d_X_times_77 : decode b_X_times 77 = .ok (.istore 5, 2) := by decide +kernel
theorem d_X_times_79 : decode b_X_times 79 = .ok (.iload 5, 2) := by decide +kernel
theorem d_X_times_81 : decode b_X_times 81 = .ok (.ifCond .lt 93, 3) := by decide +kernel
theorem d_X_times_84 : decode b_X_times 84 = .ok (.aload_n 0, 1) := by decide +kernel
theorem d_X_times_85 : decode b_X_times 85 = .ok (.getfield 47, 3) := by decide +kernel
theorem d_X_times_88 : decode b_X_times 88 = .ok (.bipush 63, 2) := by decide +kernel
theorem d_X_times_90 : decode b_X_times 90 = .ok (.invokevirtual 95, 3) := by decide +kernel
theorem d_X_times_93 : decode b_X_times 93 = .ok (.ifCond .ne 25, 3) := by decide +kernel
theorem d_X_times_96 : decode b_X_times 96 = .ok (.aload_n 0, 1) := by decide +kernel
theorem d_X_times_97 : decode b_X_times 97 = .ok (.getfield 33, 3) := by decide +kernel
theorem d_X_times_100 : decode b_X_times 100 = .ok (.aload_n 0, 1) := by decide +kernel
theorem d_X_times_101 : decode b_X_times 101 = .ok (.getfield 47, 3) := by decide +kernel
theorem d_X_times_104 : decode b_X_times 104 = .ok (.aload_n 0, 1) := by decide +kernel
theorem d_X_times_105 : decode b_X_times 105 = .ok (.getfield 47, 3) := by decide +kernel
theorem d_X_times_108 : decode b_X_times 108 = .ok (.aload_n 0, 1) := by decide +kernel
theorem d_X_times_109 : decode b_X_times 109 = .ok (.getfield 51, 3) := by decide +kernel
theorem d_X_times_112 : decode b_X_times 112 = .ok (.invokevirtual 79, 3) := by decide +kernel
theorem d_X_times_115 : decode b_X_times 115 = .ok (.ifCond .ne 5, 3) := by decide +kernel
theorem d_X_times_118 : decode b_X_times 118 = .ok (.iconst 0, 1) := by decide +kernel
theorem d_X_times_119 : decode b_X_times 119 = .ok (.ireturn, 1) := by decide +kernel
theorem d_X_times_120 : decode b_X_times 120 = .ok (.iload 4, 2) := by decide +kernel
theorem d_X_times_122 : decode b_X_times 122 = .ok (.iload 5, 2) := by decide +kernel
theorem d_X_times_124 : decode b_X_times 124 = .ok (.ishr, 1) := by decide +kernel
theorem d_X_times_125 : decode b_X_times 125 = .ok (.iconst 1, 1) := by decide +kernel
theorem d_X_times_126 : decode b_X_times 126 = .ok (.iand, 1) := by decide +kernel
theorem d_X_times_127 : decode b_X_times 127 = .ok (.ifCond .ne 17, 3) := by decide +kernel
theorem d_X_times_130 : decode b_X_times 130 = .ok (.aload_n 0, 1) := by decide +kernel
theorem d_X_times_131 : decode b_X_times 131 = .ok (.getfield 47, 3) := by decide +kernel
theorem d_X_times_134 : decode b_X_times 134 = .ok (.aload_n 0, 1) := by decide +kernel
theorem d_X_times_135 : decode b_X_times 135 = .ok (.getfield 51, 3) := by decide +kernel
theorem d_X_times_138 : decode b_X_times 138 = .ok (.invokevirtual 87, 3) := by decide +kernel
theorem d_X_times_141 : decode b_X_times 141 = .ok (.goto 27, 3) := by decide +kernel
theorem d_X_times_144 : decode b_X_times 144 = .ok (.aload_n 0, 1) := by decide +kernel
theorem d_X_times_145 : decode b_X_times 145 = .ok (.getfield 33, 3) := by decide +kernel
theorem d_X_times_148 : decode b_X_times 148 = .ok (.aload_n 0, 1) := by decide +kernel
theorem d_X_times_149 : decode b_X_times 149 = .ok (.getfield 51, 3) := by decide +kernel
theorem d_X_times_152 : decode b_X_times 152 = .ok (.aload_n 0, 1) := by decide +kernel
theorem d_X_times_153 : decode b_X_times 153 = .ok (.getfield 54, 3) := by decide +kernel
theorem d_X_times_156 : decode b_X_times 156 = .ok (.aload_n 0, 1) := by decide +kernel
theorem d_X_times_157 : decode b_X_times 157 = .ok (.getfield 47, 3) := by decide +kernel
theorem d_X_times_160 : decode b_X_times 160 = .ok (.invokevirtual 79, 3) := by decide +kernel
theorem d_X_times_163 : decode b_X_times 163 = .ok (.ifCond .ne 5, 3) := by decide +kernel
theorem d_X_times_166 : decode b_X_times 166 = .ok (.iconst 0, 1) := by decide +kernel
theorem d_X_times_167 : decode b_X_times 167 = .ok (.ireturn, 1) := by decide +kernel
theorem d_X_times_168 : decode b_X_times 168 = .ok (.iinc 5 (-1), 3) := by decide +kernel
theorem d_X_times_171 : decode b_X_times 171 = .ok (.goto (-92), 3) := by decide +kernel
theorem d_X_times_174 : decode b_X_times 174 = .ok (.aload_n 0, 1) := by decide +kernel
theorem d_X_times_175 : decode b_X_times 175 = .ok (.aload_n 0, 1) := by decide +kernel
theorem d_X_times_176 : decode b_X_times 176 = .ok (.getfield 47, 3) := by decide +kernel
theorem d_X_times_179 : decode b_X_times 179 = .ok (.iload_n 3, 1) := by decide +kernel
theorem d_X_times_180 : decode b_X_times 180 = .ok (.invokevirtual 83, 3) := by decide +kernel
theorem d_X_times_183 : decode b_X_times 183 = .ok (.ireturn, 1) := by decide +kernel
theorem d_X_order_0 : decode b_X_order 0 = .ok (.iload_n 1, 1) := by decide +kernel
theorem d_X_order_1 : decode b_X_order 1 = .ok (.invokestatic 72, 3) := by decide +kernel
theorem d_X_order_4 : decode b_X_order 4 = .ok (.ifCond .ne 5, 3) := by decide +kernel
theorem d_X_order_7 : decode b_X_order 7 = .ok (.iconst (-1), 1) := by decide +kernel
theorem d_X_order_8 : decode b_X_order 8 = .ok (.ireturn, 1) := by decide +kernel
theorem d_X_order_9 : decode b_X_order 9 = .ok (.aload_n 0, 1) := by decide +kernel
theorem d_X_order_10 : decode b_X_order 10 = .ok (.getfield 57, 3) := by decide +kernel
theorem d_X_order_13 : decode b_X_order 13 = .ok (.iload_n 1, 1) := by decide +kernel
theorem d_X_order_14 : decode b_X_order 14 = .ok (.aaload, 1) := by decide +kernel
theorem d_X_order_15 : decode b_X_order 15 = .ok (.getfield 98, 3) := by decide +kernel
theorem d_X_order_18 : decode b_X_order 18 = .ok (.ifCond .eq 5, 3) := by decide +kernel
theorem d_X_order_21 : decode b_X_order 21 = .ok (.iconst 1, 1) := by decide +kernel
theorem d_X_order_22 : decode b_X_order 22 = .ok (.ireturn, 1) := by decide +kernel
theorem d_X_order_23 : decode b_X_order 23 = .ok (.aload_n 0, 1) := by decide +kernel
theorem d_X_order_24 : decode b_X_order 24 = .ok (.getfield 47, 3) := by decide +kernel
theorem d_X_order_27 : decode b_X_order 27 = .ok (.aload_n 0, 1) := by decide +kernel
theorem d_X_order_28 : decode b_X_order 28 = .ok (.getfield 57, 3) := by decide +kernel
theorem d_X_order_31 : decode b_X_order 31 = .ok (.iload_n 1, 1) := by decide +kernel
theorem d_X_order_32 : decode b_X_order 32 = .ok (.aaload, 1) := by decide +kernel
theorem d_X_order_33 : decode b_X_order 33 = .ok (.invokevirtual 87, 3) := by decide +kernel
theorem d_X_order_36 : decode b_X_order 36 = .ok (.iconst 2, 1) := by decide +kernel
theorem d_X_order_37 : decode b_X_order 37 = .ok (.istore_n 2, 1) := by decide +kernel
theorem d_X_order_38 : decode b_X_order 38 = .ok (.iload_n 2, 1) := by decide +kernel
theorem d_X_order_39 : decode b_X_order 39 = .ok (.bipush 12, 2) := by decide +kernel
theorem d_X_order_41 : decode b_X_order 41 = .ok (.if_icmp .gt 88, 3) := by decide +kernel
theorem d_X_order_44 : decode b_X_order 44 = .ok (.aload_n 0, 1) := by decide +kernel
theorem d_X_order_45 : decode b_X_order 45 = .ok (.getfield 47, 3) := by decide +kernel
theorem d_X_order_48 : decode b_X_order 48 = .ok (.getfield 102, 3) := by decide +kernel
theorem d_X_order_51 : decode b_X_order 51 = .ok (.getfield 106, 3) := by decide +kernel
theorem d_X_order_54 : decode b_X_order 54 = .ok (.iconst 1, 1) := by decide +kernel
theorem d_X_order_55 : decode b_X_order 55 = .ok (.if_icmp .ne 43, 3) := by decide +kernel
theorem d_X_order_58 : decode b_X_order 58 = .ok (.aload_n 0, 1) := by decide +kernel
theorem d_X_order_59 : decode b_X_order 59 = .ok (.getfield 47, 3) := by decide +kernel
theorem d_X_order_62 : decode b_X_order 62 = .ok (.getfield 102, 3) := by decide +kernel
theorem d_X_order_65 : decode b_X_order 65 = .ok (.getfield 112, 3) := by decide +kernel
theorem d_X_order_68 : decode b_X_order 68 = .ok (.iconst 0, 1) := by decide +kernel
theorem d_X_order_69 : decode b_X_order 69 = .ok (.iaload, 1) := by decide +kernel
theorem d_X_order_70 : decode b_X_order 70 = .ok (.iconst 2, 1) := by decide +kernel
theorem d_X_order_71 : decode b_X_order 71 = .ok (.if_icmp .gt 27, 3) := by decide +kernel
theorem d_X_order_74 : decode b_X_order 74 = .ok (.aload_n 0, 1) := by decide +kernel
theorem d_X_order_75 : decode b_X_order 75 = .ok (.getfield 33, 3) := by decide +kernel
theorem d_X_order_78 : decode b_X_order 78 = .ok (.aload_n 0, 1) := by decide +kernel
theorem d_X_order_79 : decode b_X_order 79 = .ok (.getfield 47, 3) := by decide +kernel
theorem d_X_order_82 : decode b_X_order 82 = .ok (.aload_n 0, 1) := by decide +kernel
theorem d_X_order_83 : decode b_X_order 83 = .ok (.getfield 57, 3) := by decide +kernel
theorem d_X_order_86 : decode b_X_order 86 = .ok (.iload_n 1, 1) := by decide +kernel
theorem d_X_order_87 : decode b_X_order 87 = .ok (.aaload, 1) := by decide +kernel
theorem d_X_order_88 : decode b_X_order 88 = .ok (.aload_n 0, 1) := by decide +kernel
theorem d_X_order_89 : decode b_X_order 89 = .ok (.getfield 51, 3) := by decide +kernel
theorem d_X_order_92 : decode b_X_order 92 = .ok (.invokevirtual 79, 3) := by decide +kernel
theorem d_X_order_95 : decode b_X_order 95 = .ok (.ifCond .ne 5, 3) := by decide +kernel
theorem d_X_order_98 : decode b_X_order 98 = .ok (.iconst 0, 1) := by decide +kernel
theorem d_X_order_99 : decode b_X_order 99 = .ok (.ireturn, 1) := by decide +kernel
theorem d_X_order_100 : decode b_X_order 100 = .ok (.aload_n 0, 1) := by decide +kernel
theorem d_X_order_101 : decode b_X_order 101 = .ok (.getfield 51, 3) := by decide +kernel
theorem d_X_order_104 : decode b_X_order 104 = .ok (.getfield 98, 3) := by decide +kernel
