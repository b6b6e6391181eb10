theorem d_D_init_0 : decode b_D_init 0 = .ok (.aload_n 0, 1) := by decide +kernel
theorem d_D_init_1 : decode b_D_init 1 = .ok (.invokespecial 3, 3) := by decide +kernel
theorem d_D_init_4 : decode b_D_init 4 = .ok (.aload_n 0, 1) := by decide +kernel
theorem d_D_init_5 : decode b_D_init 5 = .ok (.new 9, 3) := by decide +kernel
theorem d_D_init_8 : decode b_D_init 8 = .ok (.dup, 1) := by decide +kernel
theorem d_D_init_9 : decode b_D_init 9 = .ok (.bipush 112, 2) := by decide +kernel
theorem d_D_init_11 : decode b_D_init 11 = .ok (.invokespecial 11, 3) := by decide +kernel
theorem d_D_init_14 : decode b_D_init 14 = .ok (.putfield 14, 3) := by decide +kernel
theorem d_D_init_17 : decode b_D_init 17 = .ok (.aload_n 0, 1) := by decide +kernel
theorem d_D_init_18 : decode b_D_init 18 = .ok (.new 9, 3) := by decide +kernel
theorem d_D_init_21 : decode b_D_init 21 = .ok (.dup, 1) := by decide +kernel
theorem d_D_init_22 : decode b_D_init 22 = .ok (.iconst 3, 1) := by decide +kernel
theorem d_D_init_23 : decode b_D_init 23 = .ok (.invokespecial 11, 3) := by decide +kernel
theorem d_D_init_26 : decode b_D_init 26 = .ok (.putfield 20, 3) := by decide +kernel
theorem d_D_init_29 : decode b_D_init 29 = .ok (.aload_n 0, 1) := by decide +kernel
theorem d_D_init_30 : decode b_D_init 30 = .ok (.new 9, 3) := by decide +kernel
theorem d_D_init_33 : decode b_D_init 33 = .ok (.dup, 1) := by decide +kernel
theorem d_D_init_34 : decode b_D_init 34 = .ok (.bipush 112, 2) := by decide +kernel
theorem d_D_init_36 : decode b_D_init 36 = .ok (.invokespecial 11, 3) := by decide +kernel
theorem d_D_init_39 : decode b_D_init 39 = .ok (.putfield 23, 3) := by decide +kernel
theorem d_D_init_42 : decode b_D_init 42 = .ok (.aload_n 0, 1) := by decide +kernel
theorem d_D_init_43 : decode b_D_init 43 = .ok (.new 9, 3) := by decide +kernel
theorem d_D_init_46 : decode b_D_init 46 = .ok (.dup, 1) := by decide +kernel
theorem d_D_init_47 : decode b_D_init 47 = .ok (.bipush 112, 2) := by decide +kernel
theorem d_D_init_49 : decode b_D_init 49 = .ok (.invokespecial 11, 3) := by decide +kernel
theorem d_D_init_52 : decode b_D_init 52 = .ok (.putfield 26, 3) := by decide +kernel
theorem d_D_init_55 : decode b_D_init 55 = .ok (.aload_n 0, 1) := by decide +kernel
theorem d_D_init_56 : decode b_D_init 56 = .ok (.new 9, 3) := by decide +kernel
theorem d_D_init_59 : decode b_D_init 59 = .ok (.dup, 1) := by decide +kernel
theorem d_D_init_60 : decode b_D_init 60 = .ok (.bipush 112, 2) := by decide +kernel
theorem d_D_init_62 : decode b_D_init 62 = .ok (.invokespecial 11, 3) := by decide +kernel
theorem d_D_init_65 : decode b_D_init 65 = .ok (.putfield 29, 3) := by decide +kernel
theorem d_D_init_68 : decode b_D_init 68 = .ok (.aload_n 0, 1) := by decide +kernel
theorem d_D_init_69 : decode b_D_init 69 = .ok (.aload_n 1, 1) := by decide +kernel
theorem d_D_init_70 : decode b_D_init 70 = .ok (.putfield 32, 3) := by decide +kernel
theorem d_D_init_73 : decode b_D_init 73 = .ok (.aload_n 0, 1) := by decide +kernel
theorem d_D_init_74 : decode b_D_init 74 = .ok (.getfield 20, 3) := by decide +kernel
theorem d_D_init_77 : decode b_D_init 77 = .ok (.ldc2_w 36, 3) := by decide +kernel
theorem d_D_init_80 : decode b_D_init 80 = .ok (.invokevirtual 38, 3) := by decide +kernel
theorem d_D_init_83 : decode b_D_init 83 = .ok (.return_, 1) := by decide +kernel
theorem d_D_common_0 : decode b_D_common 0 = .ok (.aload_n 0, 1) := by decide +kernel
theorem d_D_common_1 : decode b_D_common 1 = .ok (.getfield 23, 3) := by decide +kernel
theorem d_D_common_4 : decode b_D_common 4 = .ok (.aload_n 1, 1) := by decide +kernel
theorem d_D_common_5 : decode b_D_common 5 = .ok (.invokevirtual 42, 3) := by decide +kernel
theorem d_D_common_8 : decode b_D_common 8 = .ok (.aload_n 0, 1) := by decide +kernel
theorem d_D_common_9 : decode b_D_common 9 = .ok (.getfield 26, 3) := by decide +kernel
theorem d_D_common_12 : decode b_D_common 12 = .ok (.aload_n 2, 1) := by decide +kernel
theorem d_D_common_13 : decode b_D_common 13 = .ok (.invokevirtual 42, 3) := by decide +kernel
theorem d_D_common_16 : decode b_D_common 16 = .ok (.aload_n 0, 1) := by decide +kernel
theorem d_D_common_17 : decode b_D_common 17 = .ok (.getfield 23, 3) := by decide +kernel
theorem d_D_common_20 : decode b_D_common 20 = .ok (.iconst 0, 1) := by decide +kernel
theorem d_D_common_21 : decode b_D_common 21 = .ok (.putfield 45, 3) := by decide +kernel
theorem d_D_common_24 : decode b_D_common 24 = .ok (.aload_n 0, 1) := by decide +kernel
theorem d_D_common_25 : decode b_D_common 25 = .ok (.getfield 26, 3) := by decide +kernel
theorem d_D_common_28 : decode b_D_common 28 = .ok (.iconst 0, 1) := by decide +kernel
theorem d_D_common_29 : decode b_D_common 29 = .ok (.putfield 45, 3) := by decide +kernel
theorem d_D_common_32 : decode b_D_common 32 = .ok (.aload_n 0, 1) := by decide +kernel
theorem d_D_common_33 : decode b_D_common 33 = .ok (.getfield 23, 3) := by decide +kernel
theorem d_D_common_36 : decode b_D_common 36 = .ok (.aload_n 0, 1) := by decide +kernel
theorem d_D_common_37 : decode b_D_common 37 = .ok (.getfield 26, 3) := by decide +kernel
theorem d_D_common_40 : decode b_D_common 40 = .ok (.invokevirtual 49, 3) := by decide +kernel
theorem d_D_common_43 : decode b_D_common 43 = .ok (.ifCond .ge 7, 3) := by decide +kernel
theorem d_D_common_46 : decode b_D_common 46 = .ok (.aload_n 0, 1) := by decide +kernel
theorem d_D_common_47 : decode b_D_common 47 = .ok (.invokevirtual 53, 3) := by decide +kernel
theorem d_D_common_50 : decode b_D_common 50 = .ok (.iconst 0, 1) := by decide +kernel
theorem d_D_common_51 : decode b_D_common 51 = .ok (.istore 4, 2) := by decide +kernel
theorem d_D_common_53 : decode b_D_common 53 = .ok (.iload 4, 2) := by decide +kernel
theorem d_D_common_55 : decode b_D_common 55 = .ok (.ldc 56, 2) := by decide +kernel
theorem d_D_common_57 : decode b_D_common 57 = .ok (.if_icmp .ge 38, 3) := by decide +kernel
theorem d_D_common_60 : decode b_D_common 60 = .ok (.aload_n 0, 1) := by decide +kernel
theorem d_D_common_61 : decode b_D_common 61 = .ok (.getfield 26, 3) := by decide +kernel
theorem d_D_common_64 : decode b_D_common 64 = .ok (.getfield 57, 3) := by decide +kernel
theorem d_D_common_67 : decode b_D_common 67 = .ok (.iconst 2, 1) := by decide +kernel
theorem d_D_common_68 : decode b_D_common 68 = .ok (.if_icmp .le 27, 3) := by decide +kernel
theorem d_D_common_71 : decode b_D_common 71 = .ok (.aload_n 0, 1) := by decide +kernel
theorem d_D_common_72 : decode b_D_common 72 = .ok (.invokevirtual 61, 3) := by decide +kernel
theorem d_D_common_75 : decode b_D_common 75 = .ok (.ifCond .eq 10, 3) := by decide +kernel
theorem d_D_common_78 : decode b_D_common 78 = .ok (.aload_n 0, 1) := by decide +kernel
theorem d_D_common_79 : decode b_D_common 79 = .ok (.invokevirtual 65, 3) := by decide +kernel
theorem d_D_common_82 : decode b_D_common 82 = .ok (.goto 7, 3) := by decide +kernel
theorem d_D_common_85 : decode b_D_common 85 = .ok (.aload_n 0, 1) := by decide +kernel
theorem d_D_common_86 : decode b_D_common 86 = .ok (.invokevirtual 53, 3) := by decide +kernel
theorem d_D_common_89 : decode b_D_common 89 = .ok (.iinc 4 1, 3) := by decide +kernel
theorem d_D_common_92 : decode b_D_common 92 = .ok (.goto (-39), 3) := by decide +kernel
theorem d_D_common_95 : decode b_D_common 95 = .ok (.aload_n 0, 1) := by decide +kernel
theorem d_D_common_96 : decode b_D_common 96 = .ok (.getfield 26, 3) := by decide +kernel
theorem d_D_common_99 : decode b_D_common 99 = .ok (.invokevirtual 68, 3) := by decide +kernel
theorem d_D_common_102 : decode b_D_common 102 = .ok (.ifCond .eq 12, 3) := by decide +kernel
theorem d_D_common_105 : decode b_D_common 105 = .ok (.aload_n 3, 1) := by decide +kernel
theorem d_D_common_106 : decode b_D_common 106 = .ok (.aload_n 0, 1) := by decide +kernel
theorem d_D_common_107 : decode b_D_common 107 = .ok (.getfield 23, 3) := by decide +kernel
theorem d_D_common_110 : decode b_D_common 110 = .ok (.invokevirtual 42, 3) := by decide +kernel
theorem d_D_common_113 : decode b_D_common 113 = .ok (.return_, 1) := by decide +kernel
theorem d_D_common_114 : decode b_D_common 114 = .ok (.aload_n 0, 1) := by decide +kernel
theorem d_D_common_115 : decode b_D_common 115 = .ok (.invokevirtual 53, 3) := by decide +kernel
theorem d_D_common_118 : decode b_D_common 118 = .ok (.aload_n 3, 1) := by decide +kernel
theorem d_D_common_119 : decode b_D_common 119 = .ok (.aload_n 0, 1) := by decide +kernel
theorem d_D_common_120 : decode b_D_common 120 = .ok (.getfield 23, 3) := by decide +kernel
theorem d_D_common_123 : decode b_D_common 123 = .ok (.invokevirtual 71, 3) := by decide +kernel
theorem d_D_common_126 : decode b_D_common 126 = .ok (.aload_n 0, 1) := by decide +kernel
theorem d_D_common_127 : decode b_D_common 127 = .ok (.getfield 26, 3) := by decide +kernel
theorem d_D_common_130 : decode b_D_common 130 = .ok (.invokevirtual 71, 3) := by decide +kernel
theorem d_D_common_133 : decode b_D_common 133 = .ok (.invokestatic 75, 3) := by decide +kernel
theorem d_D_common_136 : decode b_D_common 136 = .ok (.invokevirtual 38, 3) := by decide +kernel
theorem d_D_common_139 : decode b_D_common 139 = .ok (.return_, 1) := by decide +kernel
theorem d_D_shorten_0 : decode b_D_shorten 0 = .ok (.aload_n 0, 1) := by decide +kernel
theorem d_D_shorten_1 : decode b_D_shorten 1 = .ok (.getfield 26, 3) := by decide +kernel
theorem d_D_shorten_4 : decode b_D_shorten 4 = .ok (.invokevirtual 68, 3) := by decide +kernel
theorem d_D_shorten_7 : decode b_D_shorten 7 = .ok (.ifCond .eq 4, 3) := by decide +kernel
theorem d_D_shorten_10 : decode b_D_shorten 10 = .ok (.return_, 1) := by decide +kernel
theorem d_D_shorten_11 : decode b_D_shorten 11 = .ok (.aload_n 0, 1) := by decide +kernel
theorem d_D_shorten_12 : decode b_D_shorten 12 = .ok (.getfield 32, 3) := by decide +kernel
theorem d_D_shorten_15 : decode b_D_shorten 15 = .ok (.aload_n 0, 1) := by decide +kernel
theorem d_D_shorten_16 : decode b_D_shorten 16 = .ok (.getfield 23, 3) := by decide +kernel
theorem d_D_shorten_19 : decode b_D_shorten 19 = .ok (.aload_n 0, 1) := by decide +kernel
theorem d_D_shorten_20 : decode b_D_shorten 20 = .ok (.getfield 26, 3) := by decide +kernel
theorem d_D_shorten_23 : decode b_D_shorten 23 = .ok (.aload_n 0, 1) := by decide +kernel
theorem d_D_shorten_24 : decode b_D_shorten 24 = .ok (.getfield 14, 3) := by decide +kernel
theorem d_D_shorten_27 : decode b_D_shorten 27 = .ok (.aload_n 0, 1) := by decide +kernel
theorem d_D_shorten_28 : decode b_D_shorten 28 = .ok (.getfield 29, 3) := by decide +kernel
theorem d_D_shorten_31 : decode b_D_shorten 31 = .ok (.invokevirtual 79, 3) := by decide +kernel
theorem d_D_shorten_34 : decode b_D_shorten 34 = .ok (.aload_n 0, 1) := by decide +kernel
theorem d_D_shorten_35 : decode b_D_shorten 35 = .ok (.getfield 23, 3) := by decide +kernel
theorem d_D_shorten_38 : decode b_D_shorten 38 = .ok (.astore_n 1, 1) := by decide +kernel
theorem d_D_shorten_39 : decode b_D_shorten 39 = .ok (.aload_n 0, 1) := by decide +kernel
theorem d_D_shorten_40 : decode b_D_shorten 40 = .ok (.aload_n 0, 1) := by decide +kernel
theorem d_D_shorten_41 : decode b_D_shorten 41 = .ok (.getfield 26, 3) := by decide +kernel
theorem d_D_shorten_44 : decode b_D_shorten 44 = .ok (.putfield 23, 3) := by decide +kernel
theorem d_D_shorten_47 : decode b_D_shorten 47 = .ok (.aload_n 0, 1) := by decide +kernel
theorem d_D_shorten_48 : decode b_D_shorten 48 = .ok (.aload_n 0, 1) := by decide +kernel
theorem d_D_shorten_49 : decode b_D_shorten 49 = .ok (.getfield 29, 3) := by decide +kernel
theorem d_D_shorten_52 : decode b_D_shorten 52 = .ok (.putfield 26, 3) := by decide +kernel
theorem d_D_shorten_55 : decode b_D_shorten 55 = .ok (.aload_n 0, 1) := by decide +kernel
theorem d_D_shorten_56 : decode b_D_shorten 56 = .ok (.aload_n 1, 1) := by decide +kernel
theorem d_D_shorten_57 : decode b_D_shorten 57 = .ok (.putfield 29, 3) := by decide +kernel
theorem d_D_shorten_60 : decode b_D_shorten 60 = .ok (.return_, 1) := by decide +kernel
theorem d_D_commonOfLongs_0 : decode b_D_commonOfLongs 0 = .ok (.lload_n 0, 1) := by decide +kernel
theorem d_D_commonOfLongs_1 : decode b_D_commonOfLongs 1 = .ok (.lstore 4, 2) := by decide +kernel
theorem d_D_commonOfLongs_3 : decode b_D_commonOfLongs 3 = .ok (.lload_n 2, 1) := by decide +kernel
theorem d_D_commonOfLongs_4 : decode b_D_commonOfLongs 4 = .ok (.lstore 6, 2) := by decide +kernel
theorem d_D_commonOfLongs_6 : decode b_D_commonOfLongs 6 = .ok (.iconst 0, 1) := by decide +kernel
theorem d_D_commonOfLongs_7 : decode b_D_commonOfLongs 7 = .ok (.istore 8, 2) := by decide +kernel
theorem d_D_commonOfLongs_9 : decode b_D_commonOfLongs 9 = .ok (.iload 8, 2) := by decide +kernel
theorem d_D_commonOfLongs_11 : decode b_D_commonOfLongs 11 = .ok (.ldc 56, 2) := by decide +kernel
theorem d_D_commonOfLongs_13 : decode b_D_commonOfLongs 13 = .ok (.if_icmp .ge 31, 3) := by decide +kernel
theorem d_D_commonOfLongs_16 : decode b_D_commonOfLongs 16 = .ok (.lload 6, 2) := by decide +kernel
theorem d_D_commonOfLongs_18 : decode b_D_commonOfLongs 18 = .ok (.lconst 0, 1) := by decide +kernel
theorem d_D_commonOfLongs_19 : decode b_D_commonOfLongs 19 = .ok (.lcmp, 1) := by decide +kernel
theorem d_D_commonOfLongs_20 : decode b_D_commonOfLongs 20 = .ok (.ifCond .le 24, 3) := by decide +kernel
theorem d_D_commonOfLongs_23 : decode b_D_commonOfLongs 23 = .ok (.lload 4, 2) := by decide +kernel
theorem d_D_commonOfLongs_25 : decode b_D_commonOfLongs 25 = .ok (.lload 6, 2) := by decide +kernel
theorem d_D_commonOfLongs_27 : decode b_D_commonOfLongs 27 = .ok (.lrem, 1) := by decide +kernel
theorem d_D_commonOfLongs_28 : decode b_D_commonOfLongs 28 = .ok (.lstore 9, 2) := by decide +kernel
theorem d_D_commonOfLongs_30 : decode b_D_commonOfLongs 30 = .ok (.lload 6, 2) := by decide +kernel
theorem d_D_commonOfLongs_32 : decode b_D_commonOfLongs 32 = .ok (.lstore 4, 2) := by decide +kernel
theorem d_D_commonOfLongs_34 : decode b_D_commonOfLongs 34 = .ok (.lload 9, 2) := by decide +kernel
theorem d_D_commonOfLongs_36 : decode b_D_commonOfLongs 36 = .ok (.lstore 6, 2) := by decide +kernel
theorem d_D_commonOfLongs_38 : decode b_D_commonOfLongs 38 = .ok (.iinc 8 1, 3) := by decide +kernel
theorem d_D_commonOfLongs_41 : decode b_D_commonOfLongs 41 = .ok (.goto (-32), 3) := by decide +kernel
theorem d_D_commonOfLongs_44 : decode b_D_commonOfLongs 44 = .ok (.lload 4, 2) := by decide +kernel
theorem d_D_commonOfLongs_46 : decode b_D_commonOfLongs 46 = .ok (.lreturn, 1) := by decide +kernel
theorem d_D_followLeadingDigits_0 : decode b_D_followLeadingDigits 0 = .ok (.aload_n 0, 1) := by decide +kernel
theorem d_D_followLeadingDigits_1 : decode b_D_followLeadingDigits 1 = .ok (.getfield 23, 3) := by decide +kernel
theorem d_D_followLeadingDigits_4 : decode b_D_followLeadingDigits 4 = .ok (.getfield 57, 3) := by decide +kernel
theorem d_D_followLeadingDigits_7 : decode b_D_followLeadingDigits 7 = .ok (.istore_n 1, 1) := by decide +kernel
theorem d_D_followLeadingDigits_8 : decode b_D_followLeadingDigits 8 = .ok (.aload_n 0, 1) := by decide +kernel
theorem d_D_followLeadingDigits_9 : decode b_D_followLeadingDigits 9 = .ok (.getfield 23, 3) := by decide +kernel
theorem d_D_followLeadingDigits_12 : decode b_D_followLeadingDigits 12 = .ok (.iload_n 1, 1) := by decide +kernel
theorem d_D_followLeadingDigits_13 : decode b_D_followLeadingDigits 13 = .ok (.iconst 1, 1) := by decide +kernel
theorem d_D_followLeadingDigits_14 : decode b_D_followLeadingDigits 14 = .ok (.isub, 1) := by decide +kernel
theorem d_D_followLeadingDigits_15 : decode b_D_followLeadingDigits 15 = .ok (.invokevirtual 85, 3) := by decide +kernel
theorem d_D_followLeadingDigits_18 : decode b_D_followLeadingDigits 18 = .ok (.invokestatic 89, 3) := by decide +kernel
theorem d_D_followLeadingDigits_21 : decode b_D_followLeadingDigits 21 = .ok (.istore_n 2, 1) := by decide +kernel
theorem d_D_followLeadingDigits_22 : decode b_D_followLeadingDigits 22 = .ok (.aload_n 0, 1) := by decide +kernel
theorem d_D_followLeadingDigits_23 : decode b_D_followLeadingDigits 23 = .ok (.getfield 23, 3) := by decide +kernel
theorem d_D_followLeadingDigits_26 : decode b_D_followLeadingDigits 26 = .ok (.iload_n 1, 1) := by decide +kernel
theorem d_D_followLeadingDigits_27 : decode b_D_followLeadingDigits 27 = .ok (.iload_n 2, 1) := by decide +kernel
theorem d_D_followLeadingDigits_28 : decode b_D_followLeadingDigits 28 = .ok (.invokestatic 92, 3) := by decide +kernel
theorem d_D_followLeadingDigits_31 : decode b_D_followLeadingDigits 31 = .ok (.lstore_n 3, 1) := by decide +kernel
theorem d_D_followLeadingDigits_32 : decode b_D_followLeadingDigits 32 = .ok (.aload_n 0, 1) := by decide +kernel
theorem d_D_followLeadingDigits_33 : decode b_D_followLeadingDigits 33 = .ok (.getfield 26, 3) := by decide +kernel
theorem d_D_followLeadingDigits_36 : decode b_D_followLeadingDigits 36 = .ok (.iload_n 1, 1) := by decide +kernel
theorem d_D_followLeadingDigits_37 : decode b_D_followLeadingDigits 37 = .ok (.iload_n 2, 1) := by decide +kernel
theorem d_D_followLeadingDigits_38 : decode b_D_followLeadingDigits 38 = .ok (.invokestatic 92, 3) := by decide +kernel
theorem d_D_followLeadingDigits_41 : decode b_D_followLeadingDigits 41 = .ok (.lstore 5, 2) := by decide +kernel
theorem d_D_followLeadingDigits_43 : decode b_D_followLeadingDigits 43 = .ok (.aload_n 0, 1) := by decide +kernel
theorem d_D_followLeadingDigits_44 : decode b_D_followLeadingDigits 44 = .ok (.lconst 1, 1) := by decide +kernel
theorem d_D_followLeadingDigits_45 : decode b_D_followLeadingDigits 45 = .ok (.putfield 96, 3) := by decide +kernel
theorem d_D_followLeadingDigits_48 : decode b_D_followLeadingDigits 48 = .ok (.aload_n 0, 1) := by decide +kernel
theorem d_D_followLeadingDigits_49 : decode b_D_followLeadingDigits 49 = .ok (.lconst 0, 1) := by decide +kernel
theorem d_D_followLeadingDigits_50 : decode b_D_followLeadingDigits 50 = .ok (.putfield 100, 3) := by decide +kernel
theorem d_D_followLeadingDigits_53 : decode b_D_followLeadingDigits 53 = .ok (.aload_n 0, 1) := by decide +kernel
theorem d_D_followLeadingDigits_54 : decode b_D_followLeadingDigits 54 = .ok (.lconst 0, 1) := by decide +kernel
theorem d_D_followLeadingDigits_55 : decode b_D_followLeadingDigits 55 = .ok (.putfield 103, 3) := by decide +kernel
theorem d_D_followLeadingDigits_58 : decode b_D_followLeadingDigits 58 = .ok (.aload_n 0, 1) := by decide +kernel
theorem d_D_followLeadingDigits_59 : decode b_D_followLeadingDigits 59 = .ok (.lconst 1, 1) := by decide +kernel
theorem d_D_followLeadingDigits_60 : decode b_D_followLeadingDigits 60 = .ok (.putfield 106, 3) := by decide +kernel
theorem d_D_followLeadingDigits_63 : decode b_D_followLeadingDigits 63 = .ok (.iconst 0, 1) := by decide +kernel
theorem d_D_followLeadingDigits_64 : decode b_D_followLeadingDigits 64 = .ok (.istore 7, 2) := by decide +kernel
theorem d_D_followLeadingDigits_66 : decode b_D_followLeadingDigits 66 = .ok (.iload 7, 2) := by decide +kernel
theorem d_D_followLeadingDigits_68 : decode b_D_followLeadingDigits 68 = .ok (.bipush 100, 2) := by decide +kernel
theorem d_D_followLeadingDigits_70 : decode b_D_followLeadingDigits 70 = .ok (.if_icmp .ge 183, 3) := by decide +kernel
theorem d_D_followLeadingDigits_73 : decode b_D_followLeadingDigits 73 = .ok (.lload 5, 2) := by decide +kernel
theorem d_D_followLeadingDigits_75 : decode b_D_followLeadingDigits 75 = .ok (.aload_n 0, 1) := by decide +kernel
theorem d_D_followLeadingDigits_76 : decode b_D_followLeadingDigits 76 = .ok (.getfield 103, 3) := by decide +kernel
theorem d_D_followLeadingDigits_79 : decode b_D_followLeadingDigits 79 = .ok (.ladd, 1) := by decide +kernel
theorem d_D_followLeadingDigits_80 : decode b_D_followLeadingDigits 80 = .ok (.lconst 0, 1) := by decide +kernel
theorem d_D_followLeadingDigits_81 : decode b_D_followLeadingDigits 81 = .ok (.lcmp, 1) := by decide +kernel
theorem d_D_followLeadingDigits_82 : decode b_D_followLeadingDigits 82 = .ok (.ifCond .le 171, 3) := by decide +kernel
theorem d_D_followLeadingDigits_85 : decode b_D_followLeadingDigits 85 = .ok (.lload 5, 2) := by decide +kernel
theorem d_D_followLeadingDigits_87 : decode b_D_followLeadingDigits 87 = .ok (.aload_n 0, 1) := by decide +kernel
theorem d_D_followLeadingDigits_88 : decode b_D_followLeadingDigits 88 = .ok (.getfield 106, 3) := by decide +kernel
theorem d_D_followLeadingDigits_91 : decode b_D_followLeadingDigits 91 = .ok (.ladd, 1) := by decide +kernel
theorem d_D_followLeadingDigits_92 : decode b_D_followLeadingDigits 92 = .ok (.lconst 0, 1) := by decide +kernel
theorem d_D_followLeadingDigits_93 : decode b_D_followLeadingDigits 93 = .ok (.lcmp, 1) := by decide +kernel
theorem d_D_followLeadingDigits_94 : decode b_D_followLeadingDigits 94 = .ok (.ifCond .gt 6, 3) := by decide +kernel
theorem d_D_followLeadingDigits_97 : decode b_D_followLeadingDigits 97 = .ok (.goto 156, 3) := by decide +kernel
theorem d_D_followLeadingDigits_100 : decode b_D_followLeadingDigits 100 = .ok (.lload_n 3, 1) := by decide +kernel
theorem d_D_followLeadingDigits_101 : decode b_D_followLeadingDigits 101 = .ok (.aload_n 0, 1) := by decide +kernel
theorem d_D_followLeadingDigits_102 : decode b_D_followLeadingDigits 102 = .ok (.getfield 96, 3) := by decide +kernel
theorem d_D_followLeadingDigits_105 : decode b_D_followLeadingDigits 105 = .ok (.ladd, 1) := by decide +kernel
theorem d_D_followLeadingDigits_106 : decode b_D_followLeadingDigits 106 = .ok (.lload 5, 2) := by decide +kernel
theorem d_D_followLeadingDigits_108 : decode b_D_followLeadingDigits 108 = .ok (.aload_n 0, 1) := by decide +kernel
theorem d_D_followLeadingDigits_109 : decode b_D_followLeadingDigits 109 = .ok (.getfield 103, 3) := by decide +kernel
theorem d_D_followLeadingDigits_112 : decode b_D_followLeadingDigits 112 = .ok (.ladd, 1) := by decide +kernel
theorem d_D_followLeadingDigits_113 : decode b_D_followLeadingDigits 113 = .ok (.ldiv, 1) := by decide +kernel
theorem d_D_followLeadingDigits_114 : decode b_D_followLeadingDigits 114 = .ok (.lstore 8, 2) := by decide +kernel
theorem d_D_followLeadingDigits_116 : decode b_D_followLeadingDigits 116 = .ok (.lload 8, 2) := by decide +kernel
theorem d_D_followLeadingDigits_118 : decode b_D_followLeadingDigits 118 = .ok (.ldc2_w 109, 3) := by decide +kernel
theorem d_D_followLeadingDigits_121 : decode b_D_followLeadingDigits 121 = .ok (.lcmp, 1) := by decide +kernel
theorem d_D_followLeadingDigits_122 : decode b_D_followLeadingDigits 122 = .ok (.ifCond .gt 131, 3) := by decide +kernel
theorem d_D_followLeadingDigits_125 : decode b_D_followLeadingDigits 125 = .ok (.lload 8, 2) := by decide +kernel
theorem d_D_followLeadingDigits_127 : decode b_D_followLeadingDigits 127 = .ok (.lload_n 3, 1) := by decide +kernel
theorem d_D_followLeadingDigits_128 : decode b_D_followLeadingDigits 128 = .ok (.aload_n 0, 1) := by decide +kernel
theorem d_D_followLeadingDigits_129 : decode b_D_followLeadingDigits 129 = .ok (.getfield 100, 3) := by decide +kernel
theorem d_D_followLeadingDigits_132 : decode b_D_followLeadingDigits 132 = .ok (.ladd, 1) := by decide +kernel
theorem d_D_followLeadingDigits_133 : decode b_D_followLeadingDigits 133 = .ok (.lload 5, 2) := by decide +kernel
theorem d_D_followLeadingDigits_135 : decode b_D_followLeadingDigits 135 = .ok (.aload_n 0, 1) := by decide +kernel
theorem d_D_followLeadingDigits_136 : decode b_D_followLeadingDigits 136 = .ok (.getfield 106, 3) := by decide +kernel
theorem d_D_followLeadingDigits_139 : decode b_D_followLeadingDigits 139 = .ok (.ladd, 1) := by decide +kernel
theorem d_D_followLeadingDigits_140 : decode b_D_followLeadingDigits 140 = .ok (.ldiv, 1) := by decide +kernel
theorem d_D_followLeadingDigits_141 : decode b_D_followLeadingDigits 141 = .ok (.lcmp, 1) := by decide +kernel
theorem d_D_followLeadingDigits_142 : decode b_D_followLeadingDigits 142 = .ok (.ifCond .eq 6, 3) := by decide +kernel
theorem d_D_followLeadingDigits_145 : decode b_D_followLeadingDigits 145 = .ok (.goto 108, 3) := by decide +kernel
theorem d_D_followLeadingDigits_148 : decode b_D_followLeadingDigits 148 = .ok (.aload_n 0, 1) := by decide +kernel
theorem d_D_followLeadingDigits_149 : decode b_D_followLeadingDigits 149 = .ok (.getfield 96, 3) := by decide +kernel
theorem d_D_followLeadingDigits_152 : decode b_D_followLeadingDigits 152 = .ok (.lload 8, 2) := by decide +kernel
theorem d_D_followLeadingDigits_154 : decode b_D_followLeadingDigits 154 = .ok (.aload_n 0, 1) := by decide +kernel
theorem d_D_followLeadingDigits_155 : decode b_D_followLeadingDigits 155 = .ok (.getfield 103, 3) := by decide +kernel
theorem d_D_followLeadingDigits_158 : decode b_D_followLeadingDigits 158 = .ok (.lmul, 1) := by decide +kernel
theorem d_D_followLeadingDigits_159 : decode b_D_followLeadingDigits 159 = .ok (.lsub, 1) := by decide +kernel
theorem d_D_followLeadingDigits_160 : decode b_D_followLeadingDigits 160 = .ok (.lstore 10, 2) := by decide +kernel
theorem d_D_followLeadingDigits_162 : decode b_D_followLeadingDigits 162 = .ok (.aload_n 0, 1) := by decide +kernel
theorem d_D_followLeadingDigits_163 : decode b_D_followLeadingDigits 163 = .ok (.getfield 100, 3) := by decide +kernel
theorem d_D_followLeadingDigits_166 : decode b_D_followLeadingDigits 166 = .ok (.lload 8, 2) := by decide +kernel
theorem d_D_followLeadingDigits_168 : decode b_D_followLeadingDigits 168 = .ok (.aload_n 0, 1) := by decide +kernel
theorem d_D_followLeadingDigits_169 : decode b_D_followLeadingDigits 169 = .ok (.getfield 106, 3) := by decide +kernel
theorem d_D_followLeadingDigits_172 : decode b_D_followLeadingDigits 172 = .ok (.lmul, 1) := by decide +kernel
theorem d_D_followLeadingDigits_173 : decode b_D_followLeadingDigits 173 = .ok (.lsub, 1) := by decide +kernel
theorem d_D_followLeadingDigits_174 : decode b_D_followLeadingDigits 174 = .ok (.lstore 12, 2) := by decide +kernel
theorem d_D_followLeadingDigits_176 : decode b_D_followLeadingDigits 176 = .ok (.lload 10, 2) := by decide +kernel
theorem d_D_followLeadingDigits_178 : decode b_D_followLeadingDigits 178 = .ok (.invokestatic 111, 3) := by decide +kernel
theorem d_D_followLeadingDigits_181 : decode b_D_followLeadingDigits 181 = .ok (.ldc2_w 109, 3) := by decide +kernel
theorem d_D_followLeadingDigits_184 : decode b_D_followLeadingDigits 184 = .ok (.lcmp, 1) := by decide +kernel
theorem d_D_followLeadingDigits_185 : decode b_D_followLeadingDigits 185 = .ok (.ifCond .gt 68, 3) := by decide +kernel
theorem d_D_followLeadingDigits_188 : decode b_D_followLeadingDigits 188 = .ok (.lload 12, 2) := by decide +kernel
theorem d_D_followLeadingDigits_190 : decode b_D_followLeadingDigits 190 = .ok (.invokestatic 111, 3) := by decide +kernel
theorem d_D_followLeadingDigits_193 : decode b_D_followLeadingDigits 193 = .ok (.ldc2_w 109, 3) := by decide +kernel
theorem d_D_followLeadingDigits_196 : decode b_D_followLeadingDigits 196 = .ok (.lcmp, 1) := by decide +kernel
theorem d_D_followLeadingDigits_197 : decode b_D_followLeadingDigits 197 = .ok (.ifCond .le 6, 3) := by decide +kernel
theorem d_D_followLeadingDigits_200 : decode b_D_followLeadingDigits 200 = .ok (.goto 53, 3) := by decide +kernel
theorem d_D_followLeadingDigits_203 : decode b_D_followLeadingDigits 203 = .ok (.aload_n 0, 1) := by decide +kernel
theorem d_D_followLeadingDigits_204 : decode b_D_followLeadingDigits 204 = .ok (.aload_n 0, 1) := by decide +kernel
theorem d_D_followLeadingDigits_205 : decode b_D_followLeadingDigits 205 = .ok (.getfield 103, 3) := by decide +kernel
theorem d_D_followLeadingDigits_208 : decode b_D_followLeadingDigits 208 = .ok (.putfield 96, 3) := by decide +kernel
theorem d_D_followLeadingDigits_211 : decode b_D_followLeadingDigits 211 = .ok (.aload_n 0, 1) := by decide +kernel
theorem d_D_followLeadingDigits_212 : decode b_D_followLeadingDigits 212 = .ok (.aload_n 0, 1) := by decide +kernel
theorem d_D_followLeadingDigits_213 : decode b_D_followLeadingDigits 213 = .ok (.getfield 106, 3) := by decide +kernel
theorem d_D_followLeadingDigits_216 : decode b_D_followLeadingDigits 216 = .ok (.putfield 100, 3) := by decide +kernel
theorem d_D_followLeadingDigits_219 : decode b_D_followLeadingDigits 219 = .ok (.aload_n 0, 1) := by decide +kernel
theorem d_D_followLeadingDigits_220 : decode b_D_followLeadingDigits 220 = .ok (.lload 10, 2) := by decide +kernel
theorem d_D_followLeadingDigits_222 : decode b_D_followLeadingDigits 222 = .ok (.putfield 103, 3) := by decide +kernel
theorem d_D_followLeadingDigits_225 : decode b_D_followLeadingDigits 225 = .ok (.aload_n 0, 1) := by decide +kernel
theorem d_D_followLeadingDigits_226 : decode b_D_followLeadingDigits 226 = .ok (.lload 12, 2) := by decide +kernel
theorem d_D_followLeadingDigits_228 : decode b_D_followLeadingDigits 228 = .ok (.putfield 106, 3) := by decide +kernel
theorem d_D_followLeadingDigits_231 : decode b_D_followLeadingDigits 231 = .ok (.lload_n 3, 1) := by decide +kernel
theorem d_D_followLeadingDigits_232 : decode b_D_followLeadingDigits 232 = .ok (.lload 8, 2) := by decide +kernel
theorem d_D_followLeadingDigits_234 : decode b_D_followLeadingDigits 234 = .ok (.lload 5, 2) := by decide +kernel
theorem d_D_followLeadingDigits_236 : decode b_D_followLeadingDigits 236 = .ok (.lmul, 1) := by decide +kernel
theorem d_D_followLeadingDigits_237 : decode b_D_followLeadingDigits 237 = .ok (.lsub, 1) := by decide +kernel
theorem d_D_followLeadingDigits_238 : decode b_D_followLeadingDigits 238 = .ok (.lstore 14, 2) := by decide +kernel
theorem d_D_followLeadingDigits_240 : decode b_D_followLeadingDigits 240 = .ok (.lload 5, 2) := by decide +kernel
theorem d_D_followLeadingDigits_242 : decode b_D_followLeadingDigits 242 = .ok (.lstore_n 3, 1) := by decide +kernel
theorem d_D_followLeadingDigits_243 : decode b_D_followLeadingDigits 243 = .ok (.lload 14, 2) := by decide +kernel
theorem d_D_followLeadingDigits_245 : decode b_D_followLeadingDigits 245 = .ok (.lstore 5, 2) := by decide +kernel
theorem d_D_followLeadingDigits_247 : decode b_D_followLeadingDigits 247 = .ok (.iinc 7 1, 3) := by decide +kernel
theorem d_D_followLeadingDigits_250 : decode b_D_followLeadingDigits 250 = .ok (.goto (-184), 3) := by decide +kernel
theorem d_D_followLeadingDigits_253 : decode b_D_followLeadingDigits 253 = .ok (.aload_n 0, 1) := by decide +kernel
theorem d_D_followLeadingDigits_254 : decode b_D_followLeadingDigits 254 = .ok (.getfield 100, 3) := by decide +kernel
theorem d_D_followLeadingDigits_257 : decode b_D_followLeadingDigits 257 = .ok (.lconst 0, 1) := by decide +kernel
theorem d_D_followLeadingDigits_258 : decode b_D_followLeadingDigits 258 = .ok (.lcmp, 1) := by decide +kernel
theorem d_D_followLeadingDigits_259 : decode b_D_followLeadingDigits 259 = .ok (.ifCond .eq 7, 3) := by decide +kernel
theorem d_D_followLeadingDigits_262 : decode b_D_followLeadingDigits 262 = .ok (.iconst 1, 1) := by decide +kernel
theorem d_D_followLeadingDigits_263 : decode b_D_followLeadingDigits 263 = .ok (.goto 4, 3) := by decide +kernel
theorem d_D_followLeadingDigits_266 : decode b_D_followLeadingDigits 266 = .ok (.iconst 0, 1) := by decide +kernel
theorem d_D_followLeadingDigits_267 : decode b_D_followLeadingDigits 267 = .ok (.ireturn, 1) := by decide +kernel
theorem d_D_leading_0 : decode b_D_leading 0 = .ok (.getstatic 117, 3) := by decide +kernel
theorem d_D_leading_3 : decode b_D_leading 3 = .ok (.iload_n 2, 1) := by decide +kernel
theorem d_D_leading_4 : decode b_D_leading 4 = .ok (.iaload, 1) := by decide +kernel
theorem d_D_leading_5 : decode b_D_leading 5 = .ok (.istore_n 3, 1) := by decide +kernel
theorem d_D_leading_6 : decode b_D_leading 6 = .ok (.aload_n 0, 1) := by decide +kernel
theorem d_D_leading_7 : decode b_D_leading 7 = .ok (.iload_n 1, 1) := by decide +kernel
theorem d_D_leading_8 : decode b_D_leading 8 = .ok (.iconst 1, 1) := by decide +kernel
theorem d_D_leading_9 : decode b_D_leading 9 = .ok (.isub, 1) := by decide +kernel
theorem d_D_leading_10 : decode b_D_leading 10 = .ok (.invokevirtual 85, 3) := by decide +kernel
theorem d_D_leading_13 : decode b_D_leading 13 = .ok (.i2l, 1) := by decide +kernel
theorem d_D_leading_14 : decode b_D_leading 14 = .ok (.ldc2_w 121, 3) := by decide +kernel
theorem d_D_leading_17 : decode b_D_leading 17 = .ok (.lmul, 1) := by decide +kernel
theorem d_D_leading_18 : decode b_D_leading 18 = .ok (.aload_n 0, 1) := by decide +kernel
theorem d_D_leading_19 : decode b_D_leading 19 = .ok (.iload_n 1, 1) := by decide +kernel
theorem d_D_leading_20 : decode b_D_leading 20 = .ok (.iconst 2, 1) := by decide +kernel
theorem d_D_leading_21 : decode b_D_leading 21 = .ok (.isub, 1) := by decide +kernel
theorem d_D_leading_22 : decode b_D_leading 22 = .ok (.invokevirtual 85, 3) := by decide +kernel
theorem d_D_leading_25 : decode b_D_leading 25 = .ok (.i2l, 1) := by decide +kernel
theorem d_D_leading_26 : decode b_D_leading 26 = .ok (.ladd, 1) := by decide +kernel
theorem d_D_leading_27 : decode b_D_leading 27 = .ok (.lstore 4, 2) := by decide +kernel
theorem d_D_leading_29 : decode b_D_leading 29 = .ok (.lload 4, 2) := by decide +kernel
theorem d_D_leading_31 : decode b_D_leading 31 = .ok (.getstatic 117, 3) := by decide +kernel
theorem d_D_leading_34 : decode b_D_leading 34 = .ok (.bipush 9, 2) := by decide +kernel
theorem d_D_leading_36 : decode b_D_leading 36 = .ok (.iload_n 2, 1) := by decide +kernel
theorem d_D_leading_37 : decode b_D_leading 37 = .ok (.isub, 1) := by decide +kernel
theorem d_D_leading_38 : decode b_D_leading 38 = .ok (.iaload, 1) := by decide +kernel
theorem d_D_leading_39 : decode b_D_leading 39 = .ok (.i2l, 1) := by decide +kernel
theorem d_D_leading_40 : decode b_D_leading 40 = .ok (.lmul, 1) := by decide +kernel
theorem d_D_leading_41 : decode b_D_leading 41 = .ok (.aload_n 0, 1) := by decide +kernel
theorem d_D_leading_42 : decode b_D_leading 42 = .ok (.iload_n 1, 1) := by decide +kernel
theorem d_D_leading_43 : decode b_D_leading 43 = .ok (.iconst 3, 1) := by decide +kernel
theorem d_D_leading_44 : decode b_D_leading 44 = .ok (.isub, 1) := by decide +kernel
theorem d_D_leading_45 : decode b_D_leading 45 = .ok (.invokevirtual 85, 3) := by decide +kernel
theorem d_D_leading_48 : decode b_D_leading 48 = .ok (.iload_n 3, 1) := by decide +kernel
theorem d_D_leading_49 : decode b_D_leading 49 = .ok (.idiv, 1) := by decide +kernel
theorem d_D_leading_50 : decode b_D_leading 50 = .ok (.i2l, 1) := by decide +kernel
theorem d_D_leading_51 : decode b_D_leading 51 = .ok (.ladd, 1) := by decide +kernel
theorem d_D_leading_52 : decode b_D_leading 52 = .ok (.lreturn, 1) := by decide +kernel
theorem d_D_mix_0 : decode b_D_mix 0 = .ok (.aload_n 0, 1) := by decide +kernel
theorem d_D_mix_1 : decode b_D_mix 1 = .ok (.getfield 23, 3) := by decide +kernel
theorem d_D_mix_4 : decode b_D_mix 4 = .ok (.getfield 57, 3) := by decide +kernel
theorem d_D_mix_7 : decode b_D_mix 7 = .ok (.istore_n 1, 1) := by decide +kernel
theorem d_D_mix_8 : decode b_D_mix 8 = .ok (.aload_n 0, 1) := by decide +kernel
theorem d_D_mix_9 : decode b_D_mix 9 = .ok (.getfield 26, 3) := by decide +kernel
theorem d_D_mix_12 : decode b_D_mix 12 = .ok (.getfield 123, 3) := by decide +kernel
theorem d_D_mix_15 : decode b_D_mix 15 = .ok (.arraylength, 1) := by decide +kernel
theorem d_D_mix_16 : decode b_D_mix 16 = .ok (.iload_n 1, 1) := by decide +kernel
theorem d_D_mix_17 : decode b_D_mix 17 = .ok (.if_icmp .ge 4, 3) := by decide +kernel
theorem d_D_mix_20 : decode b_D_mix 20 = .ok (.return_, 1) := by decide +kernel
theorem d_D_mix_21 : decode b_D_mix 21 = .ok (.aload_n 0, 1) := by decide +kernel
theorem d_D_mix_22 : decode b_D_mix 22 = .ok (.getfield 26, 3) := by decide +kernel
theorem d_D_mix_25 : decode b_D_mix 25 = .ok (.getfield 57, 3) := by decide +kernel
theorem d_D_mix_28 : decode b_D_mix 28 = .ok (.istore_n 2, 1) := by decide +kernel
theorem d_D_mix_29 : decode b_D_mix 29 = .ok (.iload_n 2, 1) := by decide +kernel
theorem d_D_mix_30 : decode b_D_mix 30 = .ok (.iload_n 1, 1) := by decide +kernel
theorem d_D_mix_31 : decode b_D_mix 31 = .ok (.if_icmp .ge 19, 3) := by decide +kernel
theorem d_D_mix_34 : decode b_D_mix 34 = .ok (.aload_n 0, 1) := by decide +kernel
theorem d_D_mix_35 : decode b_D_mix 35 = .ok (.getfield 26, 3) := by decide +kernel
theorem d_D_mix_38 : decode b_D_mix 38 = .ok (.getfield 123, 3) := by decide +kernel
theorem d_D_mix_41 : decode b_D_mix 41 = .ok (.iload_n 2, 1) := by decide +kernel
theorem d_D_mix_42 : decode b_D_mix 42 = .ok (.iconst 0, 1) := by decide +kernel
theorem d_D_mix_43 : decode b_D_mix 43 = .ok (.iastore, 1) := by decide +kernel
theorem d_D_mix_44 : decode b_D_mix 44 = .ok (.iinc 2 1, 3) := by decide +kernel
theorem d_D_mix_47 : decode b_D_mix 47 = .ok (.goto (-18), 3) := by decide +kernel
theorem d_D_mix_50 : decode b_D_mix 50 = .ok (.lconst 0, 1) := by decide +kernel
theorem d_D_mix_51 : decode b_D_mix 51 = .ok (.lstore_n 2, 1) := by decide +kernel
theorem d_D_mix_52 : decode b_D_mix 52 = .ok (.lconst 0, 1) := by decide +kernel
theorem d_D_mix_53 : decode b_D_mix 53 = .ok (.lstore 4, 2) := by decide +kernel
theorem d_D_mix_55 : decode b_D_mix 55 = .ok (.iconst 0, 1) := by decide +kernel
theorem d_D_mix_56 : decode b_D_mix 56 = .ok (.istore 6, 2) := by decide +kernel
theorem d_D_mix_58 : decode b_D_mix 58 = .ok (.iload 6, 2) := by decide +kernel
theorem d_D_mix_60 : decode b_D_mix 60 = .ok (.iload_n 1, 1) := by decide +kernel
theorem d_D_mix_61 : decode b_D_mix 61 = .ok (.if_icmp .ge 132, 3) := by decide +kernel
theorem d_D_mix_64 : decode b_D_mix 64 = .ok (.aload_n 0, 1) := by decide +kernel
theorem d_D_mix_65 : decode b_D_mix 65 = .ok (.getfield 23, 3) := by decide +kernel
theorem d_D_mix_68 : decode b_D_mix 68 = .ok (.getfield 123, 3) := by decide +kernel
theorem d_D_mix_71 : decode b_D_mix 71 = .ok (.iload 6, 2) := by decide +kernel
theorem d_D_mix_73 : decode b_D_mix 73 = .ok (.iaload, 1) := by decide +kernel
theorem d_D_mix_74 : decode b_D_mix 74 = .ok (.i2l, 1) := by decide +kernel
theorem d_D_mix_75 : decode b_D_mix 75 = .ok (.lstore 7, 2) := by decide +kernel
theorem d_D_mix_77 : decode b_D_mix 77 = .ok (.aload_n 0, 1) := by decide +kernel
theorem d_D_mix_78 : decode b_D_mix 78 = .ok (.getfield 26, 3) := by decide +kernel
theorem d_D_mix_81 : decode b_D_mix 81 = .ok (.getfield 123, 3) := by decide +kernel
theorem d_D_mix_84 : decode b_D_mix 84 = .ok (.iload 6, 2) := by decide +kernel
theorem d_D_mix_86 : decode b_D_mix 86 = .ok (.iaload, 1) := by decide +kernel
theorem d_D_mix_87 : decode b_D_mix 87 = .ok (.i2l, 1) := by decide +kernel
theorem d_D_mix_88 : decode b_D_mix 88 = .ok (.lstore 9, 2) := by decide +kernel
theorem d_D_mix_90 : decode b_D_mix 90 = .ok (.aload_n 0, 1) := by decide +kernel
theorem d_D_mix_91 : decode b_D_mix 91 = .ok (.getfield 96, 3) := by decide +kernel
theorem d_D_mix_94 : decode b_D_mix 94 = .ok (.lload 7, 2) := by decide +kernel
theorem d_D_mix_96 : decode b_D_mix 96 = .ok (.lmul, 1) := by decide +kernel
theorem d_D_mix_97 : decode b_D_mix 97 = .ok (.aload_n 0, 1) := by decide +kernel
theorem d_D_mix_98 : decode b_D_mix 98 = .ok (.getfield 100, 3) := by decide +kernel
theorem d_D_mix_101 : decode b_D_mix 101 = .ok (.lload 9, 2) := by decide +kernel
