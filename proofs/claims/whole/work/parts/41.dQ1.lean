theorem d_Q_init_0 : decode b_Q_init 0 = .ok (.aload_n 0, 1) := by decide +kernel
theorem d_Q_init_1 : decode b_Q_init 1 = .ok (.invokespecial 3, 3) := by decide +kernel
theorem d_Q_init_4 : decode b_Q_init 4 = .ok (.aload_n 0, 1) := by decide +kernel
theorem d_Q_init_5 : decode b_Q_init 5 = .ok (.new 9, 3) := by decide +kernel
theorem d_Q_init_8 : decode b_Q_init 8 = .ok (.dup, 1) := by decide +kernel
theorem d_Q_init_9 : decode b_Q_init 9 = .ok (.iconst 3, 1) := by decide +kernel
theorem d_Q_init_10 : decode b_Q_init 10 = .ok (.invokespecial 11, 3) := by decide +kernel
theorem d_Q_init_13 : decode b_Q_init 13 = .ok (.putfield 14, 3) := by decide +kernel
theorem d_Q_init_16 : decode b_Q_init 16 = .ok (.aload_n 0, 1) := by decide +kernel
theorem d_Q_init_17 : decode b_Q_init 17 = .ok (.new 9, 3) := by decide +kernel
theorem d_Q_init_20 : decode b_Q_init 20 = .ok (.dup, 1) := by decide +kernel
theorem d_Q_init_21 : decode b_Q_init 21 = .ok (.iconst 3, 1) := by decide +kernel
theorem d_Q_init_22 : decode b_Q_init 22 = .ok (.invokespecial 11, 3) := by decide +kernel
theorem d_Q_init_25 : decode b_Q_init 25 = .ok (.putfield 20, 3) := by decide +kernel
theorem d_Q_init_28 : decode b_Q_init 28 = .ok (.aload_n 0, 1) := by decide +kernel
theorem d_Q_init_29 : decode b_Q_init 29 = .ok (.new 9, 3) := by decide +kernel
theorem d_Q_init_32 : decode b_Q_init 32 = .ok (.dup, 1) := by decide +kernel
theorem d_Q_init_33 : decode b_Q_init 33 = .ok (.iconst 3, 1) := by decide +kernel
theorem d_Q_init_34 : decode b_Q_init 34 = .ok (.invokespecial 11, 3) := by decide +kernel
theorem d_Q_init_37 : decode b_Q_init 37 = .ok (.putfield 23, 3) := by decide +kernel
theorem d_Q_init_40 : decode b_Q_init 40 = .ok (.aload_n 0, 1) := by decide +kernel
theorem d_Q_init_41 : decode b_Q_init 41 = .ok (.new 9, 3) := by decide +kernel
theorem d_Q_init_44 : decode b_Q_init 44 = .ok (.dup, 1) := by decide +kernel
theorem d_Q_init_45 : decode b_Q_init 45 = .ok (.iconst 3, 1) := by decide +kernel
theorem d_Q_init_46 : decode b_Q_init 46 = .ok (.invokespecial 11, 3) := by decide +kernel
theorem d_Q_init_49 : decode b_Q_init 49 = .ok (.putfield 26, 3) := by decide +kernel
theorem d_Q_init_52 : decode b_Q_init 52 = .ok (.aload_n 0, 1) := by decide +kernel
theorem d_Q_init_53 : decode b_Q_init 53 = .ok (.new 9, 3) := by decide +kernel
theorem d_Q_init_56 : decode b_Q_init 56 = .ok (.dup, 1) := by decide +kernel
theorem d_Q_init_57 : decode b_Q_init 57 = .ok (.iconst 3, 1) := by decide +kernel
theorem d_Q_init_58 : decode b_Q_init 58 = .ok (.invokespecial 11, 3) := by decide +kernel
theorem d_Q_init_61 : decode b_Q_init 61 = .ok (.putfield 29, 3) := by decide +kernel
theorem d_Q_init_64 : decode b_Q_init 64 = .ok (.aload_n 0, 1) := by decide +kernel
theorem d_Q_init_65 : decode b_Q_init 65 = .ok (.new 9, 3) := by decide +kernel
theorem d_Q_init_68 : decode b_Q_init 68 = .ok (.dup, 1) := by decide +kernel
theorem d_Q_init_69 : decode b_Q_init 69 = .ok (.iconst 3, 1) := by decide +kernel
theorem d_Q_init_70 : decode b_Q_init 70 = .ok (.invokespecial 11, 3) := by decide +kernel
theorem d_Q_init_73 : decode b_Q_init 73 = .ok (.putfield 32, 3) := by decide +kernel
theorem d_Q_init_76 : decode b_Q_init 76 = .ok (.aload_n 0, 1) := by decide +kernel
theorem d_Q_init_77 : decode b_Q_init 77 = .ok (.new 9, 3) := by decide +kernel
theorem d_Q_init_80 : decode b_Q_init 80 = .ok (.dup, 1) := by decide +kernel
theorem d_Q_init_81 : decode b_Q_init 81 = .ok (.iconst 3, 1) := by decide +kernel
theorem d_Q_init_82 : decode b_Q_init 82 = .ok (.invokespecial 11, 3) := by decide +kernel
theorem d_Q_init_85 : decode b_Q_init 85 = .ok (.putfield 35, 3) := by decide +kernel
theorem d_Q_init_88 : decode b_Q_init 88 = .ok (.aload_n 0, 1) := by decide +kernel
theorem d_Q_init_89 : decode b_Q_init 89 = .ok (.new 9, 3) := by decide +kernel
theorem d_Q_init_92 : decode b_Q_init 92 = .ok (.dup, 1) := by decide +kernel
theorem d_Q_init_93 : decode b_Q_init 93 = .ok (.iconst 3, 1) := by decide +kernel
theorem d_Q_init_94 : decode b_Q_init 94 = .ok (.invokespecial 11, 3) := by decide +kernel
theorem d_Q_init_97 : decode b_Q_init 97 = .ok (.putfield 38, 3) := by decide +kernel
theorem d_Q_init_100 : decode b_Q_init 100 = .ok (.aload_n 0, 1) := by decide +kernel
theorem d_Q_init_101 : decode b_Q_init 101 = .ok (.new 9, 3) := by decide +kernel
theorem d_Q_init_104 : decode b_Q_init 104 = .ok (.dup, 1) := by decide +kernel
theorem d_Q_init_105 : decode b_Q_init 105 = .ok (.iconst 3, 1) := by decide +kernel
theorem d_Q_init_106 : decode b_Q_init 106 = .ok (.invokespecial 11, 3) := by decide +kernel
theorem d_Q_init_109 : decode b_Q_init 109 = .ok (.putfield 41, 3) := by decide +kernel
theorem d_Q_init_112 : decode b_Q_init 112 = .ok (.aload_n 0, 1) := by decide +kernel
theorem d_Q_init_113 : decode b_Q_init 113 = .ok (.new 9, 3) := by decide +kernel
theorem d_Q_init_116 : decode b_Q_init 116 = .ok (.dup, 1) := by decide +kernel
theorem d_Q_init_117 : decode b_Q_init 117 = .ok (.iconst 3, 1) := by decide +kernel
theorem d_Q_init_118 : decode b_Q_init 118 = .ok (.invokespecial 11, 3) := by decide +kernel
theorem d_Q_init_121 : decode b_Q_init 121 = .ok (.putfield 44, 3) := by decide +kernel
theorem d_Q_init_124 : decode b_Q_init 124 = .ok (.return_, 1) := by decide +kernel
theorem d_Q_become_0 : decode b_Q_become 0 = .ok (.aload_n 0, 1) := by decide +kernel
theorem d_Q_become_1 : decode b_Q_become 1 = .ok (.getfield 14, 3) := by decide +kernel
theorem d_Q_become_4 : decode b_Q_become 4 = .ok (.lload_n 1, 1) := by decide +kernel
theorem d_Q_become_5 : decode b_Q_become 5 = .ok (.invokevirtual 47, 3) := by decide +kernel
theorem d_Q_become_8 : decode b_Q_become 8 = .ok (.aload_n 0, 1) := by decide +kernel
theorem d_Q_become_9 : decode b_Q_become 9 = .ok (.getfield 20, 3) := by decide +kernel
theorem d_Q_become_12 : decode b_Q_become 12 = .ok (.lload_n 3, 1) := by decide +kernel
theorem d_Q_become_13 : decode b_Q_become 13 = .ok (.invokevirtual 47, 3) := by decide +kernel
theorem d_Q_become_16 : decode b_Q_become 16 = .ok (.aload_n 0, 1) := by decide +kernel
theorem d_Q_become_17 : decode b_Q_become 17 = .ok (.getfield 23, 3) := by decide +kernel
theorem d_Q_become_20 : decode b_Q_become 20 = .ok (.lload 5, 2) := by decide +kernel
theorem d_Q_become_22 : decode b_Q_become 22 = .ok (.invokevirtual 47, 3) := by decide +kernel
theorem d_Q_become_25 : decode b_Q_become 25 = .ok (.aload_n 0, 1) := by decide +kernel
theorem d_Q_become_26 : decode b_Q_become 26 = .ok (.getfield 26, 3) := by decide +kernel
theorem d_Q_become_29 : decode b_Q_become 29 = .ok (.lload 7, 2) := by decide +kernel
theorem d_Q_become_31 : decode b_Q_become 31 = .ok (.invokevirtual 47, 3) := by decide +kernel
theorem d_Q_become_34 : decode b_Q_become 34 = .ok (.aload_n 0, 1) := by decide +kernel
theorem d_Q_become_35 : decode b_Q_become 35 = .ok (.getfield 29, 3) := by decide +kernel
theorem d_Q_become_38 : decode b_Q_become 38 = .ok (.lload 9, 2) := by decide +kernel
theorem d_Q_become_40 : decode b_Q_become 40 = .ok (.invokevirtual 47, 3) := by decide +kernel
theorem d_Q_become_43 : decode b_Q_become 43 = .ok (.aload_n 0, 1) := by decide +kernel
theorem d_Q_become_44 : decode b_Q_become 44 = .ok (.getfield 32, 3) := by decide +kernel
theorem d_Q_become_47 : decode b_Q_become 47 = .ok (.ldc2_w 51, 3) := by decide +kernel
theorem d_Q_become_50 : decode b_Q_become 50 = .ok (.lload_n 3, 1) := by decide +kernel
theorem d_Q_become_51 : decode b_Q_become 51 = .ok (.lmul, 1) := by decide +kernel
theorem d_Q_become_52 : decode b_Q_become 52 = .ok (.invokevirtual 47, 3) := by decide +kernel
theorem d_Q_become_55 : decode b_Q_become 55 = .ok (.aload_n 0, 1) := by decide +kernel
theorem d_Q_become_56 : decode b_Q_become 56 = .ok (.getfield 35, 3) := by decide +kernel
theorem d_Q_become_59 : decode b_Q_become 59 = .ok (.ldc2_w 51, 3) := by decide +kernel
theorem d_Q_become_62 : decode b_Q_become 62 = .ok (.lload 9, 2) := by decide +kernel
theorem d_Q_become_64 : decode b_Q_become 64 = .ok (.lmul, 1) := by decide +kernel
theorem d_Q_become_65 : decode b_Q_become 65 = .ok (.invokevirtual 47, 3) := by decide +kernel
theorem d_Q_become_68 : decode b_Q_become 68 = .ok (.aload_n 0, 1) := by decide +kernel
theorem d_Q_become_69 : decode b_Q_become 69 = .ok (.getfield 38, 3) := by decide +kernel
theorem d_Q_become_72 : decode b_Q_become 72 = .ok (.lload_n 1, 1) := by decide +kernel
theorem d_Q_become_73 : decode b_Q_become 73 = .ok (.lload 5, 2) := by decide +kernel
theorem d_Q_become_75 : decode b_Q_become 75 = .ok (.lload 7, 2) := by decide +kernel
theorem d_Q_become_77 : decode b_Q_become 77 = .ok (.invokestatic 53, 3) := by decide +kernel
theorem d_Q_become_80 : decode b_Q_become 80 = .ok (.invokevirtual 47, 3) := by decide +kernel
theorem d_Q_become_83 : decode b_Q_become 83 = .ok (.aload_n 0, 1) := by decide +kernel
theorem d_Q_become_84 : decode b_Q_become 84 = .ok (.getfield 41, 3) := by decide +kernel
theorem d_Q_become_87 : decode b_Q_become 87 = .ok (.ldc2_w 51, 3) := by decide +kernel
theorem d_Q_become_90 : decode b_Q_become 90 = .ok (.lload 5, 2) := by decide +kernel
theorem d_Q_become_92 : decode b_Q_become 92 = .ok (.lload 9, 2) := by decide +kernel
theorem d_Q_become_94 : decode b_Q_become 94 = .ok (.invokestatic 56, 3) := by decide +kernel
theorem d_Q_become_97 : decode b_Q_become 97 = .ok (.lmul, 1) := by decide +kernel
theorem d_Q_become_98 : decode b_Q_become 98 = .ok (.invokevirtual 47, 3) := by decide +kernel
theorem d_Q_become_101 : decode b_Q_become 101 = .ok (.aload_n 0, 1) := by decide +kernel
theorem d_Q_become_102 : decode b_Q_become 102 = .ok (.getfield 44, 3) := by decide +kernel
theorem d_Q_become_105 : decode b_Q_become 105 = .ok (.lload_n 1, 1) := by decide +kernel
theorem d_Q_become_106 : decode b_Q_become 106 = .ok (.lload_n 3, 1) := by decide +kernel
theorem d_Q_become_107 : decode b_Q_become 107 = .ok (.lload 5, 2) := by decide +kernel
theorem d_Q_become_109 : decode b_Q_become 109 = .ok (.lload 7, 2) := by decide +kernel
theorem d_Q_become_111 : decode b_Q_become 111 = .ok (.lload 9, 2) := by decide +kernel
theorem d_Q_become_113 : decode b_Q_become 113 = .ok (.invokestatic 60, 3) := by decide +kernel
theorem d_Q_become_116 : decode b_Q_become 116 = .ok (.invokevirtual 47, 3) := by decide +kernel
theorem d_Q_become_119 : decode b_Q_become 119 = .ok (.return_, 1) := by decide +kernel
theorem d_Q_b2_0 : decode b_Q_b2 0 = .ok (.lload_n 0, 1) := by decide +kernel
theorem d_Q_b2_1 : decode b_Q_b2 1 = .ok (.lload_n 0, 1) := by decide +kernel
theorem d_Q_b2_2 : decode b_Q_b2 2 = .ok (.lmul, 1) := by decide +kernel
theorem d_Q_b2_3 : decode b_Q_b2 3 = .ok (.ldc2_w 63, 3) := by decide +kernel
theorem d_Q_b2_6 : decode b_Q_b2 6 = .ok (.lload_n 2, 1) := by decide +kernel
theorem d_Q_b2_7 : decode b_Q_b2 7 = .ok (.lmul, 1) := by decide +kernel
theorem d_Q_b2_8 : decode b_Q_b2 8 = .ok (.ladd, 1) := by decide +kernel
theorem d_Q_b2_9 : decode b_Q_b2 9 = .ok (.lreturn, 1) := by decide +kernel
theorem d_Q_b4_0 : decode b_Q_b4 0 = .ok (.lload_n 0, 1) := by decide +kernel
theorem d_Q_b4_1 : decode b_Q_b4 1 = .ok (.lload_n 2, 1) := by decide +kernel
theorem d_Q_b4_2 : decode b_Q_b4 2 = .ok (.lmul, 1) := by decide +kernel
theorem d_Q_b4_3 : decode b_Q_b4 3 = .ok (.ldc2_w 51, 3) := by decide +kernel
theorem d_Q_b4_6 : decode b_Q_b4 6 = .ok (.lload 4, 2) := by decide +kernel
theorem d_Q_b4_8 : decode b_Q_b4 8 = .ok (.lmul, 1) := by decide +kernel
theorem d_Q_b4_9 : decode b_Q_b4 9 = .ok (.ladd, 1) := by decide +kernel
theorem d_Q_b4_10 : decode b_Q_b4 10 = .ok (.lreturn, 1) := by decide +kernel
theorem d_Q_b6_0 : decode b_Q_b6 0 = .ok (.lload_n 0, 1) := by decide +kernel
theorem d_Q_b6_1 : decode b_Q_b6 1 = .ok (.lload_n 0, 1) := by decide +kernel
theorem d_Q_b6_2 : decode b_Q_b6 2 = .ok (.lmul, 1) := by decide +kernel
theorem d_Q_b6_3 : decode b_Q_b6 3 = .ok (.ldc2_w 63, 3) := by decide +kernel
theorem d_Q_b6_6 : decode b_Q_b6 6 = .ok (.lload_n 2, 1) := by decide +kernel
theorem d_Q_b6_7 : decode b_Q_b6 7 = .ok (.lmul, 1) := by decide +kernel
theorem d_Q_b6_8 : decode b_Q_b6 8 = .ok (.ladd, 1) := by decide +kernel
theorem d_Q_b6_9 : decode b_Q_b6 9 = .ok (.lreturn, 1) := by decide +kernel
theorem d_Q_b8_0 : decode b_Q_b8 0 = .ok (.lload_n 0, 1) := by decide +kernel
theorem d_Q_b8_1 : decode b_Q_b8 1 = .ok (.lload_n 0, 1) := by decide +kernel
theorem d_Q_b8_2 : decode b_Q_b8 2 = .ok (.lmul, 1) := by decide +kernel
theorem d_Q_b8_3 : decode b_Q_b8 3 = .ok (.lload 8, 2) := by decide +kernel
theorem d_Q_b8_5 : decode b_Q_b8 5 = .ok (.lmul, 1) := by decide +kernel
theorem d_Q_b8_6 : decode b_Q_b8 6 = .ok (.lload_n 0, 1) := by decide +kernel
theorem d_Q_b8_7 : decode b_Q_b8 7 = .ok (.lload 4, 2) := by decide +kernel
theorem d_Q_b8_9 : decode b_Q_b8 9 = .ok (.lmul, 1) := by decide +kernel
theorem d_Q_b8_10 : decode b_Q_b8 10 = .ok (.lload 6, 2) := by decide +kernel
theorem d_Q_b8_12 : decode b_Q_b8 12 = .ok (.lmul, 1) := by decide +kernel
theorem d_Q_b8_13 : decode b_Q_b8 13 = .ok (.lsub, 1) := by decide +kernel
theorem d_Q_b8_14 : decode b_Q_b8 14 = .ok (.ldc2_w 63, 3) := by decide +kernel
theorem d_Q_b8_17 : decode b_Q_b8 17 = .ok (.lload_n 2, 1) := by decide +kernel
theorem d_Q_b8_18 : decode b_Q_b8 18 = .ok (.lmul, 1) := by decide +kernel
theorem d_Q_b8_19 : decode b_Q_b8 19 = .ok (.lload 8, 2) := by decide +kernel
theorem d_Q_b8_21 : decode b_Q_b8 21 = .ok (.lmul, 1) := by decide +kernel
theorem d_Q_b8_22 : decode b_Q_b8 22 = .ok (.ladd, 1) := by decide +kernel
theorem d_Q_b8_23 : decode b_Q_b8 23 = .ok (.lload_n 2, 1) := by decide +kernel
theorem d_Q_b8_24 : decode b_Q_b8 24 = .ok (.lload 4, 2) := by decide +kernel
theorem d_Q_b8_26 : decode b_Q_b8 26 = .ok (.lmul, 1) := by decide +kernel
theorem d_Q_b8_27 : decode b_Q_b8 27 = .ok (.lload 4, 2) := by decide +kernel
theorem d_Q_b8_29 : decode b_Q_b8 29 = .ok (.lmul, 1) := by decide +kernel
theorem d_Q_b8_30 : decode b_Q_b8 30 = .ok (.ladd, 1) := by decide +kernel
theorem d_Q_b8_31 : decode b_Q_b8 31 = .ok (.lload 6, 2) := by decide +kernel
theorem d_Q_b8_33 : decode b_Q_b8 33 = .ok (.lload 6, 2) := by decide +kernel
theorem d_Q_b8_35 : decode b_Q_b8 35 = .ok (.lmul, 1) := by decide +kernel
theorem d_Q_b8_36 : decode b_Q_b8 36 = .ok (.lsub, 1) := by decide +kernel
theorem d_Q_b8_37 : decode b_Q_b8 37 = .ok (.lreturn, 1) := by decide +kernel
