theorem d_M_init_0 : decode b_M_init 0 = .ok (.aload_n 0, 1) := by decide +kernel
theorem d_M_init_1 : decode b_M_init 1 = .ok (.invokespecial 1, 3) := by decide +kernel
theorem d_M_init_4 : decode b_M_init 4 = .ok (.aload_n 0, 1) := by decide +kernel
theorem d_M_init_5 : decode b_M_init 5 = .ok (.sipush 25760, 3) := by decide +kernel
theorem d_M_init_8 : decode b_M_init 8 = .ok (.newarray .int, 2) := by decide +kernel
theorem d_M_init_10 : decode b_M_init 10 = .ok (.putfield 9, 3) := by decide +kernel
theorem d_M_init_13 : decode b_M_init 13 = .ok (.aload_n 0, 1) := by decide +kernel
theorem d_M_init_14 : decode b_M_init 14 = .ok (.bipush 56, 2) := by decide +kernel
theorem d_M_init_16 : decode b_M_init 16 = .ok (.newarray .int, 2) := by decide +kernel
theorem d_M_init_18 : decode b_M_init 18 = .ok (.putfield 13, 3) := by decide +kernel
theorem d_M_init_21 : decode b_M_init 21 = .ok (.aload_n 0, 1) := by decide +kernel
theorem d_M_init_22 : decode b_M_init 22 = .ok (.bipush 56, 2) := by decide +kernel
theorem d_M_init_24 : decode b_M_init 24 = .ok (.newarray .int, 2) := by decide +kernel
theorem d_M_init_26 : decode b_M_init 26 = .ok (.putfield 16, 3) := by decide +kernel
theorem d_M_init_29 : decode b_M_init 29 = .ok (.aload_n 0, 1) := by decide +kernel
theorem d_M_init_30 : decode b_M_init 30 = .ok (.bipush 56, 2) := by decide +kernel
theorem d_M_init_32 : decode b_M_init 32 = .ok (.newarray .boolean, 2) := by decide +kernel
theorem d_M_init_34 : decode b_M_init 34 = .ok (.putfield 19, 3) := by decide +kernel
theorem d_M_init_37 : decode b_M_init 37 = .ok (.aload_n 0, 1) := by decide +kernel
theorem d_M_init_38 : decode b_M_init 38 = .ok (.invokevirtual 23, 3) := by decide +kernel
theorem d_M_init_41 : decode b_M_init 41 = .ok (.aload_n 0, 1) := by decide +kernel
theorem d_M_init_42 : decode b_M_init 42 = .ok (.bipush 28, 2) := by decide +kernel
theorem d_M_init_44 : decode b_M_init 44 = .ok (.lconst 1, 1) := by decide +kernel
theorem d_M_init_45 : decode b_M_init 45 = .ok (.invokevirtual 26, 3) := by decide +kernel
theorem d_M_init_48 : decode b_M_init 48 = .ok (.return_, 1) := by decide +kernel
theorem d_M_forget_0 : decode b_M_forget 0 = .ok (.iconst 0, 1) := by decide +kernel
theorem d_M_forget_1 : decode b_M_forget 1 = .ok (.istore_n 1, 1) := by decide +kernel
theorem d_M_forget_2 : decode b_M_forget 2 = .ok (.iload_n 1, 1) := by decide +kernel
theorem d_M_forget_3 : decode b_M_forget 3 = .ok (.bipush 8, 2) := by decide +kernel
theorem d_M_forget_5 : decode b_M_forget 5 = .ok (.if_icmp .ge 18, 3) := by decide +kernel
theorem d_M_forget_8 : decode b_M_forget 8 = .ok (.aload_n 0, 1) := by decide +kernel
theorem d_M_forget_9 : decode b_M_forget 9 = .ok (.getfield 19, 3) := by decide +kernel
theorem d_M_forget_12 : decode b_M_forget 12 = .ok (.iconst 3, 1) := by decide +kernel
theorem d_M_forget_13 : decode b_M_forget 13 = .ok (.iload_n 1, 1) := by decide +kernel
theorem d_M_forget_14 : decode b_M_forget 14 = .ok (.imul, 1) := by decide +kernel
theorem d_M_forget_15 : decode b_M_forget 15 = .ok (.iconst 1, 1) := by decide +kernel
theorem d_M_forget_16 : decode b_M_forget 16 = .ok (.bastore, 1) := by decide +kernel
theorem d_M_forget_17 : decode b_M_forget 17 = .ok (.iinc 1 1, 3) := by decide +kernel
theorem d_M_forget_20 : decode b_M_forget 20 = .ok (.goto (-18), 3) := by decide +kernel
theorem d_M_forget_23 : decode b_M_forget 23 = .ok (.return_, 1) := by decide +kernel
theorem d_M_set_0 : decode b_M_set 0 = .ok (.aload_n 0, 1) := by decide +kernel
theorem d_M_set_1 : decode b_M_set 1 = .ok (.getfield 13, 3) := by decide +kernel
theorem d_M_set_4 : decode b_M_set 4 = .ok (.iload_n 1, 1) := by decide +kernel
theorem d_M_set_5 : decode b_M_set 5 = .ok (.iconst 0, 1) := by decide +kernel
theorem d_M_set_6 : decode b_M_set 6 = .ok (.iastore, 1) := by decide +kernel
theorem d_M_set_7 : decode b_M_set 7 = .ok (.aload_n 0, 1) := by decide +kernel
theorem d_M_set_8 : decode b_M_set 8 = .ok (.getfield 16, 3) := by decide +kernel
theorem d_M_set_11 : decode b_M_set 11 = .ok (.iload_n 1, 1) := by decide +kernel
theorem d_M_set_12 : decode b_M_set 12 = .ok (.lload_n 2, 1) := by decide +kernel
theorem d_M_set_13 : decode b_M_set 13 = .ok (.lconst 0, 1) := by decide +kernel
theorem d_M_set_14 : decode b_M_set 14 = .ok (.lcmp, 1) := by decide +kernel
theorem d_M_set_15 : decode b_M_set 15 = .ok (.ifCond .le 7, 3) := by decide +kernel
theorem d_M_set_18 : decode b_M_set 18 = .ok (.iconst 1, 1) := by decide +kernel
theorem d_M_set_19 : decode b_M_set 19 = .ok (.goto 14, 3) := by decide +kernel
theorem d_M_set_22 : decode b_M_set 22 = .ok (.lload_n 2, 1) := by decide +kernel
theorem d_M_set_23 : decode b_M_set 23 = .ok (.lconst 0, 1) := by decide +kernel
theorem d_M_set_24 : decode b_M_set 24 = .ok (.lcmp, 1) := by decide +kernel
theorem d_M_set_25 : decode b_M_set 25 = .ok (.ifCond .ge 7, 3) := by decide +kernel
theorem d_M_set_28 : decode b_M_set 28 = .ok (.iconst (-1), 1) := by decide +kernel
theorem d_M_set_29 : decode b_M_set 29 = .ok (.goto 4, 3) := by decide +kernel
theorem d_M_set_32 : decode b_M_set 32 = .ok (.iconst 0, 1) := by decide +kernel
theorem d_M_set_33 : decode b_M_set 33 = .ok (.iastore, 1) := by decide +kernel
theorem d_M_set_34 : decode b_M_set 34 = .ok (.lload_n 2, 1) := by decide +kernel
theorem d_M_set_35 : decode b_M_set 35 = .ok (.lconst 0, 1) := by decide +kernel
theorem d_M_set_36 : decode b_M_set 36 = .ok (.lcmp, 1) := by decide +kernel
theorem d_M_set_37 : decode b_M_set 37 = .ok (.ifCond .le 8, 3) := by decide +kernel
theorem d_M_set_40 : decode b_M_set 40 = .ok (.lload_n 2, 1) := by decide +kernel
theorem d_M_set_41 : decode b_M_set 41 = .ok (.lneg, 1) := by decide +kernel
theorem d_M_set_42 : decode b_M_set 42 = .ok (.goto 4, 3) := by decide +kernel
theorem d_M_set_45 : decode b_M_set 45 = .ok (.lload_n 2, 1) := by decide +kernel
theorem d_M_set_46 : decode b_M_set 46 = .ok (.lstore 4, 2) := by decide +kernel
theorem d_M_set_48 : decode b_M_set 48 = .ok (.lload 4, 2) := by decide +kernel
theorem d_M_set_50 : decode b_M_set 50 = .ok (.lconst 0, 1) := by decide +kernel
theorem d_M_set_51 : decode b_M_set 51 = .ok (.lcmp, 1) := by decide +kernel
theorem d_M_set_52 : decode b_M_set 52 = .ok (.ifCond .eq 49, 3) := by decide +kernel
theorem d_M_set_55 : decode b_M_set 55 = .ok (.aload_n 0, 1) := by decide +kernel
theorem d_M_set_56 : decode b_M_set 56 = .ok (.getfield 9, 3) := by decide +kernel
theorem d_M_set_59 : decode b_M_set 59 = .ok (.sipush 460, 3) := by decide +kernel
theorem d_M_set_62 : decode b_M_set 62 = .ok (.iload_n 1, 1) := by decide +kernel
theorem d_M_set_63 : decode b_M_set 63 = .ok (.imul, 1) := by decide +kernel
theorem d_M_set_64 : decode b_M_set 64 = .ok (.aload_n 0, 1) := by decide +kernel
theorem d_M_set_65 : decode b_M_set 65 = .ok (.getfield 13, 3) := by decide +kernel
theorem d_M_set_68 : decode b_M_set 68 = .ok (.iload_n 1, 1) := by decide +kernel
theorem d_M_set_69 : decode b_M_set 69 = .ok (.iaload, 1) := by decide +kernel
theorem d_M_set_70 : decode b_M_set 70 = .ok (.iadd, 1) := by decide +kernel
theorem d_M_set_71 : decode b_M_set 71 = .ok (.lload 4, 2) := by decide +kernel
theorem d_M_set_73 : decode b_M_set 73 = .ok (.ldc2_w 34, 3) := by decide +kernel
theorem d_M_set_76 : decode b_M_set 76 = .ok (.lrem, 1) := by decide +kernel
theorem d_M_set_77 : decode b_M_set 77 = .ok (.lneg, 1) := by decide +kernel
theorem d_M_set_78 : decode b_M_set 78 = .ok (.l2i, 1) := by decide +kernel
theorem d_M_set_79 : decode b_M_set 79 = .ok (.iastore, 1) := by decide +kernel
theorem d_M_set_80 : decode b_M_set 80 = .ok (.aload_n 0, 1) := by decide +kernel
theorem d_M_set_81 : decode b_M_set 81 = .ok (.getfield 13, 3) := by decide +kernel
theorem d_M_set_84 : decode b_M_set 84 = .ok (.iload_n 1, 1) := by decide +kernel
theorem d_M_set_85 : decode b_M_set 85 = .ok (.dup2, 1) := by decide +kernel
theorem d_M_set_86 : decode b_M_set 86 = .ok (.iaload, 1) := by decide +kernel
theorem d_M_set_87 : decode b_M_set 87 = .ok (.iconst 1, 1) := by decide +kernel
theorem d_M_set_88 : decode b_M_set 88 = .ok (.iadd, 1) := by decide +kernel
theorem d_M_set_89 : decode b_M_set 89 = .ok (.iastore, 1) := by decide +kernel
theorem d_M_set_90 : decode b_M_set 90 = .ok (.lload 4, 2) := by decide +kernel
theorem d_M_set_92 : decode b_M_set 92 = .ok (.ldc2_w 34, 3) := by decide +kernel
theorem d_M_set_95 : decode b_M_set 95 = .ok (.ldiv, 1) := by decide +kernel
theorem d_M_set_96 : decode b_M_set 96 = .ok (.lstore 4, 2) := by decide +kernel
theorem d_M_set_98 : decode b_M_set 98 = .ok (.goto (-50), 3) := by decide +kernel
theorem d_M_set_101 : decode b_M_set 101 = .ok (.return_, 1) := by decide +kernel
theorem d_M_copy_0 : decode b_M_copy 0 = .ok (.aload_n 0, 1) := by decide +kernel
theorem d_M_copy_1 : decode b_M_copy 1 = .ok (.getfield 13, 3) := by decide +kernel
theorem d_M_copy_4 : decode b_M_copy 4 = .ok (.iload_n 2, 1) := by decide +kernel
theorem d_M_copy_5 : decode b_M_copy 5 = .ok (.aload_n 0, 1) := by decide +kernel
theorem d_M_copy_6 : decode b_M_copy 6 = .ok (.getfield 13, 3) := by decide +kernel
theorem d_M_copy_9 : decode b_M_copy 9 = .ok (.iload_n 1, 1) := by decide +kernel
theorem d_M_copy_10 : decode b_M_copy 10 = .ok (.iaload, 1) := by decide +kernel
theorem d_M_copy_11 : decode b_M_copy 11 = .ok (.iastore, 1) := by decide +kernel
theorem d_M_copy_12 : decode b_M_copy 12 = .ok (.aload_n 0, 1) := by decide +kernel
theorem d_M_copy_13 : decode b_M_copy 13 = .ok (.getfield 16, 3) := by decide +kernel
theorem d_M_copy_16 : decode b_M_copy 16 = .ok (.iload_n 2, 1) := by decide +kernel
theorem d_M_copy_17 : decode b_M_copy 17 = .ok (.aload_n 0, 1) := by decide +kernel
theorem d_M_copy_18 : decode b_M_copy 18 = .ok (.getfield 16, 3) := by decide +kernel
theorem d_M_copy_21 : decode b_M_copy 21 = .ok (.iload_n 1, 1) := by decide +kernel
theorem d_M_copy_22 : decode b_M_copy 22 = .ok (.iaload, 1) := by decide +kernel
theorem d_M_copy_23 : decode b_M_copy 23 = .ok (.iastore, 1) := by decide +kernel
theorem d_M_copy_24 : decode b_M_copy 24 = .ok (.iconst 0, 1) := by decide +kernel
theorem d_M_copy_25 : decode b_M_copy 25 = .ok (.istore_n 3, 1) := by decide +kernel
theorem d_M_copy_26 : decode b_M_copy 26 = .ok (.iload_n 3, 1) := by decide +kernel
theorem d_M_copy_27 : decode b_M_copy 27 = .ok (.aload_n 0, 1) := by decide +kernel
theorem d_M_copy_28 : decode b_M_copy 28 = .ok (.getfield 13, 3) := by decide +kernel
theorem d_M_copy_31 : decode b_M_copy 31 = .ok (.iload_n 1, 1) := by decide +kernel
theorem d_M_copy_32 : decode b_M_copy 32 = .ok (.iaload, 1) := by decide +kernel
theorem d_M_copy_33 : decode b_M_copy 33 = .ok (.if_icmp .ge 33, 3) := by decide +kernel
theorem d_M_copy_36 : decode b_M_copy 36 = .ok (.aload_n 0, 1) := by decide +kernel
theorem d_M_copy_37 : decode b_M_copy 37 = .ok (.getfield 9, 3) := by decide +kernel
theorem d_M_copy_40 : decode b_M_copy 40 = .ok (.sipush 460, 3) := by decide +kernel
theorem d_M_copy_43 : decode b_M_copy 43 = .ok (.iload_n 2, 1) := by decide +kernel
theorem d_M_copy_44 : decode b_M_copy 44 = .ok (.imul, 1) := by decide +kernel
theorem d_M_copy_45 : decode b_M_copy 45 = .ok (.iload_n 3, 1) := by decide +kernel
theorem d_M_copy_46 : decode b_M_copy 46 = .ok (.iadd, 1) := by decide +kernel
theorem d_M_copy_47 : decode b_M_copy 47 = .ok (.aload_n 0, 1) := by decide +kernel
theorem d_M_copy_48 : decode b_M_copy 48 = .ok (.getfield 9, 3) := by decide +kernel
theorem d_M_copy_51 : decode b_M_copy 51 = .ok (.sipush 460, 3) := by decide +kernel
theorem d_M_copy_54 : decode b_M_copy 54 = .ok (.iload_n 1, 1) := by decide +kernel
theorem d_M_copy_55 : decode b_M_copy 55 = .ok (.imul, 1) := by decide +kernel
theorem d_M_copy_56 : decode b_M_copy 56 = .ok (.iload_n 3, 1) := by decide +kernel
theorem d_M_copy_57 : decode b_M_copy 57 = .ok (.iadd, 1) := by decide +kernel
theorem d_M_copy_58 : decode b_M_copy 58 = .ok (.iaload, 1) := by decide +kernel
theorem d_M_copy_59 : decode b_M_copy 59 = .ok (.iastore, 1) := by decide +kernel
theorem d_M_copy_60 : decode b_M_copy 60 = .ok (.iinc 3 1, 3) := by decide +kernel
theorem d_M_copy_63 : decode b_M_copy 63 = .ok (.goto (-37), 3) := by decide +kernel
theorem d_M_copy_66 : decode b_M_copy 66 = .ok (.return_, 1) := by decide +kernel
theorem d_M_trim_0 : decode b_M_trim 0 = .ok (.iload_n 2, 1) := by decide +kernel
theorem d_M_trim_1 : decode b_M_trim 1 = .ok (.istore_n 3, 1) := by decide +kernel
theorem d_M_trim_2 : decode b_M_trim 2 = .ok (.iload_n 3, 1) := by decide +kernel
theorem d_M_trim_3 : decode b_M_trim 3 = .ok (.ifCond .le 26, 3) := by decide +kernel
theorem d_M_trim_6 : decode b_M_trim 6 = .ok (.aload_n 0, 1) := by decide +kernel
theorem d_M_trim_7 : decode b_M_trim 7 = .ok (.getfield 9, 3) := by decide +kernel
theorem d_M_trim_10 : decode b_M_trim 10 = .ok (.sipush 460, 3) := by decide +kernel
theorem d_M_trim_13 : decode b_M_trim 13 = .ok (.iload_n 1, 1) := by decide +kernel
theorem d_M_trim_14 : decode b_M_trim 14 = .ok (.imul, 1) := by decide +kernel
theorem d_M_trim_15 : decode b_M_trim 15 = .ok (.iload_n 3, 1) := by decide +kernel
theorem d_M_trim_16 : decode b_M_trim 16 = .ok (.iadd, 1) := by decide +kernel
theorem d_M_trim_17 : decode b_M_trim 17 = .ok (.iconst 1, 1) := by decide +kernel
theorem d_M_trim_18 : decode b_M_trim 18 = .ok (.isub, 1) := by decide +kernel
theorem d_M_trim_19 : decode b_M_trim 19 = .ok (.iaload, 1) := by decide +kernel
theorem d_M_trim_20 : decode b_M_trim 20 = .ok (.ifCond .ne 9, 3) := by decide +kernel
theorem d_M_trim_23 : decode b_M_trim 23 = .ok (.iinc 3 (-1), 3) := by decide +kernel
theorem d_M_trim_26 : decode b_M_trim 26 = .ok (.goto (-24), 3) := by decide +kernel
theorem d_M_trim_29 : decode b_M_trim 29 = .ok (.aload_n 0, 1) := by decide +kernel
theorem d_M_trim_30 : decode b_M_trim 30 = .ok (.getfield 13, 3) := by decide +kernel
theorem d_M_trim_33 : decode b_M_trim 33 = .ok (.iload_n 1, 1) := by decide +kernel
theorem d_M_trim_34 : decode b_M_trim 34 = .ok (.iload_n 3, 1) := by decide +kernel
theorem d_M_trim_35 : decode b_M_trim 35 = .ok (.iastore, 1) := by decide +kernel
theorem d_M_trim_36 : decode b_M_trim 36 = .ok (.aload_n 0, 1) := by decide +kernel
theorem d_M_trim_37 : decode b_M_trim 37 = .ok (.getfield 16, 3) := by decide +kernel
theorem d_M_trim_40 : decode b_M_trim 40 = .ok (.iload_n 1, 1) := by decide +kernel
theorem d_M_trim_41 : decode b_M_trim 41 = .ok (.iload_n 3, 1) := by decide +kernel
theorem d_M_trim_42 : decode b_M_trim 42 = .ok (.ifCond .ne 7, 3) := by decide +kernel
theorem d_M_trim_45 : decode b_M_trim 45 = .ok (.iconst 0, 1) := by decide +kernel
theorem d_M_trim_46 : decode b_M_trim 46 = .ok (.goto 9, 3) := by decide +kernel
theorem d_M_trim_49 : decode b_M_trim 49 = .ok (.aload_n 0, 1) := by decide +kernel
theorem d_M_trim_50 : decode b_M_trim 50 = .ok (.getfield 16, 3) := by decide +kernel
theorem d_M_trim_53 : decode b_M_trim 53 = .ok (.iload_n 1, 1) := by decide +kernel
theorem d_M_trim_54 : decode b_M_trim 54 = .ok (.iaload, 1) := by decide +kernel
theorem d_M_trim_55 : decode b_M_trim 55 = .ok (.iastore, 1) := by decide +kernel
theorem d_M_trim_56 : decode b_M_trim 56 = .ok (.return_, 1) := by decide +kernel
theorem d_M_compare_0 : decode b_M_compare 0 = .ok (.aload_n 0, 1) := by decide +kernel
theorem d_M_compare_1 : decode b_M_compare 1 = .ok (.getfield 13, 3) := by decide +kernel
theorem d_M_compare_4 : decode b_M_compare 4 = .ok (.iload_n 1, 1) := by decide +kernel
theorem d_M_compare_5 : decode b_M_compare 5 = .ok (.iaload, 1) := by decide +kernel
theorem d_M_compare_6 : decode b_M_compare 6 = .ok (.aload_n 0, 1) := by decide +kernel
theorem d_M_compare_7 : decode b_M_compare 7 = .ok (.getfield 13, 3) := by decide +kernel
theorem d_M_compare_10 : decode b_M_compare 10 = .ok (.iload_n 2, 1) := by decide +kernel
theorem d_M_compare_11 : decode b_M_compare 11 = .ok (.iaload, 1) := by decide +kernel
theorem d_M_compare_12 : decode b_M_compare 12 = .ok (.if_icmp .eq 17, 3) := by decide +kernel
theorem d_M_compare_15 : decode b_M_compare 15 = .ok (.aload_n 0, 1) := by decide +kernel
theorem d_M_compare_16 : decode b_M_compare 16 = .ok (.getfield 13, 3) := by decide +kernel
theorem d_M_compare_19 : decode b_M_compare 19 = .ok (.iload_n 1, 1) := by decide +kernel
theorem d_M_compare_20 : decode b_M_compare 20 = .ok (.iaload, 1) := by decide +kernel
theorem d_M_compare_21 : decode b_M_compare 21 = .ok (.aload_n 0, 1) := by decide +kernel
theorem d_M_compare_22 : decode b_M_compare 22 = .ok (.getfield 13, 3) := by decide +kernel
theorem d_M_compare_25 : decode b_M_compare 25 = .ok (.iload_n 2, 1) := by decide +kernel
theorem d_M_compare_26 : decode b_M_compare 26 = .ok (.iaload, 1) := by decide +kernel
theorem d_M_compare_27 : decode b_M_compare 27 = .ok (.isub, 1) := by decide +kernel
theorem d_M_compare_28 : decode b_M_compare 28 = .ok (.ireturn, 1) := by decide +kernel
theorem d_M_compare_29 : decode b_M_compare 29 = .ok (.aload_n 0, 1) := by decide +kernel
theorem d_M_compare_30 : decode b_M_compare 30 = .ok (.getfield 13, 3) := by decide +kernel
theorem d_M_compare_33 : decode b_M_compare 33 = .ok (.iload_n 1, 1) := by decide +kernel
theorem d_M_compare_34 : decode b_M_compare 34 = .ok (.iaload, 1) := by decide +kernel
theorem d_M_compare_35 : decode b_M_compare 35 = .ok (.iconst 1, 1) := by decide +kernel
theorem d_M_compare_36 : decode b_M_compare 36 = .ok (.isub, 1) := by decide +kernel
theorem d_M_compare_37 : decode b_M_compare 37 = .ok (.istore_n 3, 1) := by decide +kernel
theorem d_M_compare_38 : decode b_M_compare 38 = .ok (.iload_n 3, 1) := by decide +kernel
theorem d_M_compare_39 : decode b_M_compare 39 = .ok (.ifCond .lt 36, 3) := by decide +kernel
theorem d_M_compare_42 : decode b_M_compare 42 = .ok (.aload_n 0, 1) := by decide +kernel
theorem d_M_compare_43 : decode b_M_compare 43 = .ok (.getfield 9, 3) := by decide +kernel
theorem d_M_compare_46 : decode b_M_compare 46 = .ok (.sipush 460, 3) := by decide +kernel
theorem d_M_compare_49 : decode b_M_compare 49 = .ok (.iload_n 1, 1) := by decide +kernel
theorem d_M_compare_50 : decode b_M_compare 50 = .ok (.imul, 1) := by decide +kernel
theorem d_M_compare_51 : decode b_M_compare 51 = .ok (.iload_n 3, 1) := by decide +kernel
theorem d_M_compare_52 : decode b_M_compare 52 = .ok (.iadd, 1) := by decide +kernel
theorem d_M_compare_53 : decode b_M_compare 53 = .ok (.iaload, 1) := by decide +kernel
theorem d_M_compare_54 : decode b_M_compare 54 = .ok (.aload_n 0, 1) := by decide +kernel
theorem d_M_compare_55 : decode b_M_compare 55 = .ok (.getfield 9, 3) := by decide +kernel
theorem d_M_compare_58 : decode b_M_compare 58 = .ok (.sipush 460, 3) := by decide +kernel
theorem d_M_compare_61 : decode b_M_compare 61 = .ok (.iload_n 2, 1) := by decide +kernel
theorem d_M_compare_62 : decode b_M_compare 62 = .ok (.imul, 1) := by decide +kernel
theorem d_M_compare_63 : decode b_M_compare 63 = .ok (.iload_n 3, 1) := by decide +kernel
theorem d_M_compare_64 : decode b_M_compare 64 = .ok (.iadd, 1) := by decide +kernel
theorem d_M_compare_65 : decode b_M_compare 65 = .ok (.iaload, 1) := by decide +kernel
theorem d_M_compare_66 : decode b_M_compare 66 = .ok (.if_icmp .ne 9, 3) := by decide +kernel
theorem d_M_compare_69 : decode b_M_compare 69 = .ok (.iinc 3 (-1), 3) := by decide +kernel
theorem d_M_compare_72 : decode b_M_compare 72 = .ok (.goto (-34), 3) := by decide +kernel
theorem d_M_compare_75 : decode b_M_compare 75 = .ok (.iload_n 3, 1) := by decide +kernel
theorem d_M_compare_76 : decode b_M_compare 76 = .ok (.ifCond .ge 7, 3) := by decide +kernel
theorem d_M_compare_79 : decode b_M_compare 79 = .ok (.iconst 0, 1) := by decide +kernel
theorem d_M_compare_80 : decode b_M_compare 80 = .ok (.goto 28, 3) := by decide +kernel
theorem d_M_compare_83 : decode b_M_compare 83 = .ok (.aload_n 0, 1) := by decide +kernel
theorem d_M_compare_84 : decode b_M_compare 84 = .ok (.getfield 9, 3) := by decide +kernel
theorem d_M_compare_87 : decode b_M_compare 87 = .ok (.sipush 460, 3) := by decide +kernel
theorem d_M_compare_90 : decode b_M_compare 90 = .ok (.iload_n 1, 1) := by decide +kernel
theorem d_M_compare_91 : decode b_M_compare 91 = .ok (.imul, 1) := by decide +kernel
theorem d_M_compare_92 : decode b_M_compare 92 = .ok (.iload_n 3, 1) := by decide +kernel
theorem d_M_compare_93 : decode b_M_compare 93 = .ok (.iadd, 1) := by decide +kernel
theorem d_M_compare_94 : decode b_M_compare 94 = .ok (.iaload, 1) := by decide +kernel
theorem d_M_compare_95 : decode b_M_compare 95 = .ok (.aload_n 0, 1) := by decide +kernel
theorem d_M_compare_96 : decode b_M_compare 96 = .ok (.getfield 9, 3) := by decide +kernel
theorem d_M_compare_99 : decode b_M_compare 99 = .ok (.sipush 460, 3) := by decide +kernel
theorem d_M_compare_102 : decode b_M_compare 102 = .ok (.iload_n 2, 1) := by decide +kernel
theorem d_M_compare_103 : decode b_M_compare 103 = .ok (.imul, 1) := by decide +kernel
theorem d_M_compare_104 : decode b_M_compare 104 = .ok (.iload_n 3, 1) := by decide +kernel
theorem d_M_compare_105 : decode b_M_compare 105 = .ok (.iadd, 1) := by decide +kernel
theorem d_M_compare_106 : decode b_M_compare 106 = .ok (.iaload, 1) := by decide +kernel
theorem d_M_compare_107 : decode b_M_compare 107 = .ok (.isub, 1) := by decide +kernel
theorem d_M_compare_108 : decode b_M_compare 108 = .ok (.ireturn, 1) := by decide +kernel
theorem d_M_isSame_0 : decode b_M_isSame 0 = .ok (.aload_n 0, 1) := by decide +kernel
theorem d_M_isSame_1 : decode b_M_isSame 1 = .ok (.getfield 16, 3) := by decide +kernel
theorem d_M_isSame_4 : decode b_M_isSame 4 = .ok (.iload_n 1, 1) := by decide +kernel
theorem d_M_isSame_5 : decode b_M_isSame 5 = .ok (.iaload, 1) := by decide +kernel
theorem d_M_isSame_6 : decode b_M_isSame 6 = .ok (.aload_n 0, 1) := by decide +kernel
theorem d_M_isSame_7 : decode b_M_isSame 7 = .ok (.getfield 16, 3) := by decide +kernel
theorem d_M_isSame_10 : decode b_M_isSame 10 = .ok (.iload_n 2, 1) := by decide +kernel
theorem d_M_isSame_11 : decode b_M_isSame 11 = .ok (.iaload, 1) := by decide +kernel
theorem d_M_isSame_12 : decode b_M_isSame 12 = .ok (.if_icmp .ne 16, 3) := by decide +kernel
theorem d_M_isSame_15 : decode b_M_isSame 15 = .ok (.aload_n 0, 1) := by decide +kernel
theorem d_M_isSame_16 : decode b_M_isSame 16 = .ok (.iload_n 1, 1) := by decide +kernel
theorem d_M_isSame_17 : decode b_M_isSame 17 = .ok (.iload_n 2, 1) := by decide +kernel
theorem d_M_isSame_18 : decode b_M_isSame 18 = .ok (.invokevirtual 36, 3) := by decide +kernel
theorem d_M_isSame_21 : decode b_M_isSame 21 = .ok (.ifCond .ne 7, 3) := by decide +kernel
theorem d_M_isSame_24 : decode b_M_isSame 24 = .ok (.iconst 1, 1) := by decide +kernel
theorem d_M_isSame_25 : decode b_M_isSame 25 = .ok (.goto 4, 3) := by decide +kernel
theorem d_M_isSame_28 : decode b_M_isSame 28 = .ok (.iconst 0, 1) := by decide +kernel
theorem d_M_isSame_29 : decode b_M_isSame 29 = .ok (.ireturn, 1) := by decide +kernel
theorem d_M_add_0 : decode b_M_add 0 = .ok (.aload_n 0, 1) := by decide +kernel
theorem d_M_add_1 : decode b_M_add 1 = .ok (.getfield 16, 3) := by decide +kernel
theorem d_M_add_4 : decode b_M_add 4 = .ok (.iload_n 2, 1) := by decide +kernel
theorem d_M_add_5 : decode b_M_add 5 = .ok (.iaload, 1) := by decide +kernel
theorem d_M_add_6 : decode b_M_add 6 = .ok (.istore 5, 2) := by decide +kernel
theorem d_M_add_8 : decode b_M_add 8 = .ok (.aload_n 0, 1) := by decide +kernel
theorem d_M_add_9 : decode b_M_add 9 = .ok (.getfield 16, 3) := by decide +kernel
theorem d_M_add_12 : decode b_M_add 12 = .ok (.iload_n 3, 1) := by decide +kernel
theorem d_M_add_13 : decode b_M_add 13 = .ok (.iaload, 1) := by decide +kernel
theorem d_M_add_14 : decode b_M_add 14 = .ok (.iload 4, 2) := by decide +kernel
theorem d_M_add_16 : decode b_M_add 16 = .ok (.imul, 1) := by decide +kernel
theorem d_M_add_17 : decode b_M_add 17 = .ok (.istore 6, 2) := by decide +kernel
theorem d_M_add_19 : decode b_M_add 19 = .ok (.iload 6, 2) := by decide +kernel
theorem d_M_add_21 : decode b_M_add 21 = .ok (.ifCond .ne 12, 3) := by decide +kernel
theorem d_M_add_24 : decode b_M_add 24 = .ok (.aload_n 0, 1) := by decide +kernel
theorem d_M_add_25 : decode b_M_add 25 = .ok (.iload_n 2, 1) := by decide +kernel
theorem d_M_add_26 : decode b_M_add 26 = .ok (.iload_n 1, 1) := by decide +kernel
theorem d_M_add_27 : decode b_M_add 27 = .ok (.invokevirtual 40, 3) := by decide +kernel
theorem d_M_add_30 : decode b_M_add 30 = .ok (.goto 88, 3) := by decide +kernel
theorem d_M_add_33 : decode b_M_add 33 = .ok (.iload 5, 2) := by decide +kernel
theorem d_M_add_35 : decode b_M_add 35 = .ok (.ifCond .ne 20, 3) := by decide +kernel
theorem d_M_add_38 : decode b_M_add 38 = .ok (.aload_n 0, 1) := by decide +kernel
theorem d_M_add_39 : decode b_M_add 39 = .ok (.iload_n 3, 1) := by decide +kernel
theorem d_M_add_40 : decode b_M_add 40 = .ok (.iload_n 1, 1) := by decide +kernel
theorem d_M_add_41 : decode b_M_add 41 = .ok (.invokevirtual 40, 3) := by decide +kernel
theorem d_M_add_44 : decode b_M_add 44 = .ok (.aload_n 0, 1) := by decide +kernel
theorem d_M_add_45 : decode b_M_add 45 = .ok (.getfield 16, 3) := by decide +kernel
theorem d_M_add_48 : decode b_M_add 48 = .ok (.iload_n 1, 1) := by decide +kernel
theorem d_M_add_49 : decode b_M_add 49 = .ok (.iload 6, 2) := by decide +kernel
theorem d_M_add_51 : decode b_M_add 51 = .ok (.iastore, 1) := by decide +kernel
theorem d_M_add_52 : decode b_M_add 52 = .ok (.goto 66, 3) := by decide +kernel
theorem d_M_add_55 : decode b_M_add 55 = .ok (.iload 5, 2) := by decide +kernel
theorem d_M_add_57 : decode b_M_add 57 = .ok (.iload 6, 2) := by decide +kernel
theorem d_M_add_59 : decode b_M_add 59 = .ok (.if_icmp .ne 21, 3) := by decide +kernel
theorem d_M_add_62 : decode b_M_add 62 = .ok (.aload_n 0, 1) := by decide +kernel
theorem d_M_add_63 : decode b_M_add 63 = .ok (.iload_n 1, 1) := by decide +kernel
theorem d_M_add_64 : decode b_M_add 64 = .ok (.iload_n 2, 1) := by decide +kernel
theorem d_M_add_65 : decode b_M_add 65 = .ok (.iload_n 3, 1) := by decide +kernel
theorem d_M_add_66 : decode b_M_add 66 = .ok (.invokevirtual 44, 3) := by decide +kernel
theorem d_M_add_69 : decode b_M_add 69 = .ok (.aload_n 0, 1) := by decide +kernel
theorem d_M_add_70 : decode b_M_add 70 = .ok (.getfield 16, 3) := by decide +kernel
theorem d_M_add_73 : decode b_M_add 73 = .ok (.iload_n 1, 1) := by decide +kernel
theorem d_M_add_74 : decode b_M_add 74 = .ok (.iload 5, 2) := by decide +kernel
theorem d_M_add_76 : decode b_M_add 76 = .ok (.iastore, 1) := by decide +kernel
theorem d_M_add_77 : decode b_M_add 77 = .ok (.goto 41, 3) := by decide +kernel
theorem d_M_add_80 : decode b_M_add 80 = .ok (.aload_n 0, 1) := by decide +kernel
theorem d_M_add_81 : decode b_M_add 81 = .ok (.iload_n 2, 1) := by decide +kernel
theorem d_M_add_82 : decode b_M_add 82 = .ok (.iload_n 3, 1) := by decide +kernel
theorem d_M_add_83 : decode b_M_add 83 = .ok (.invokevirtual 36, 3) := by decide +kernel
theorem d_M_add_86 : decode b_M_add 86 = .ok (.ifCond .lt 23, 3) := by decide +kernel
theorem d_M_add_89 : decode b_M_add 89 = .ok (.aload_n 0, 1) := by decide +kernel
theorem d_M_add_90 : decode b_M_add 90 = .ok (.getfield 16, 3) := by decide +kernel
theorem d_M_add_93 : decode b_M_add 93 = .ok (.iload_n 1, 1) := by decide +kernel
theorem d_M_add_94 : decode b_M_add 94 = .ok (.iload 5, 2) := by decide +kernel
theorem d_M_add_96 : decode b_M_add 96 = .ok (.iastore, 1) := by decide +kernel
theorem d_M_add_97 : decode b_M_add 97 = .ok (.aload_n 0, 1) := by decide +kernel
theorem d_M_add_98 : decode b_M_add 98 = .ok (.iload_n 1, 1) := by decide +kernel
theorem d_M_add_99 : decode b_M_add 99 = .ok (.iload_n 2, 1) := by decide +kernel
theorem d_M_add_100 : decode b_M_add 100 = .ok (.iload_n 3, 1) := by decide +kernel
theorem d_M_add_101 : decode b_M_add 101 = .ok (.iload 5, 2) := by decide +kernel
theorem d_M_add_103 : decode b_M_add 103 = .ok (.invokevirtual 48, 3) := by decide +kernel
theorem d_M_add_106 : decode b_M_add 106 = .ok (.goto 12, 3) := by decide +kernel
theorem d_M_add_109 : decode b_M_add 109 = .ok (.aload_n 0, 1) := by decide +kernel
theorem d_M_add_110 : decode b_M_add 110 = .ok (.iload_n 1, 1) := by decide +kernel
theorem d_M_add_111 : decode b_M_add 111 = .ok (.iload_n 3, 1) := by decide +kernel
theorem d_M_add_112 : decode b_M_add 112 = .ok (.iload_n 2, 1) := by decide +kernel
theorem d_M_add_113 : decode b_M_add 113 = .ok (.iload 6, 2) := by decide +kernel
theorem d_M_add_115 : decode b_M_add 115 = .ok (.invokevirtual 48, 3) := by decide +kernel
theorem d_M_add_118 : decode b_M_add 118 = .ok (.return_, 1) := by decide +kernel
theorem d_M_addSizes_0 : decode b_M_addSizes 0 = .ok (.aload_n 0, 1) := by decide +kernel
theorem d_M_addSizes_1 : decode b_M_addSizes 1 = .ok (.getfield 13, 3) := by decide +kernel
theorem d_M_addSizes_4 : decode b_M_addSizes 4 = .ok (.iload_n 2, 1) := by decide +kernel
theorem d_M_addSizes_5 : decode b_M_addSizes 5 = .ok (.iaload, 1) := by decide +kernel
theorem d_M_addSizes_6 : decode b_M_addSizes 6 = .ok (.aload_n 0, 1) := by decide +kernel
theorem d_M_addSizes_7 : decode b_M_addSizes 7 = .ok (.getfield 13, 3) := by decide +kernel
theorem d_M_addSizes_10 : decode b_M_addSizes 10 = .ok (.iload_n 3, 1) := by decide +kernel
theorem d_M_addSizes_11 : decode b_M_addSizes 11 = .ok (.iaload, 1) := by decide +kernel
theorem d_M_addSizes_12 : decode b_M_addSizes 12 = .ok (.if_icmp .le 12, 3) := by decide +kernel
theorem d_M_addSizes_15 : decode b_M_addSizes 15 = .ok (.aload_n 0, 1) := by decide +kernel
theorem d_M_addSizes_16 : decode b_M_addSizes 16 = .ok (.getfield 13, 3) := by decide +kernel
theorem d_M_addSizes_19 : decode b_M_addSizes 19 = .ok (.iload_n 2, 1) := by decide +kernel
theorem d_M_addSizes_20 : decode b_M_addSizes 20 = .ok (.iaload, 1) := by decide +kernel
theorem d_M_addSizes_21 : decode b_M_addSizes 21 = .ok (.goto 9, 3) := by decide +kernel
theorem d_M_addSizes_24 : decode b_M_addSizes 24 = .ok (.aload_n 0, 1) := by decide +kernel
theorem d_M_addSizes_25 : decode b_M_addSizes 25 = .ok (.getfield 13, 3) := by decide +kernel
theorem d_M_addSizes_28 : decode b_M_addSizes 28 = .ok (.iload_n 3, 1) := by decide +kernel
theorem d_M_addSizes_29 : decode b_M_addSizes 29 = .ok (.iaload, 1) := by decide +kernel
theorem d_M_addSizes_30 : decode b_M_addSizes 30 = .ok (.istore 4, 2) := by decide +kernel
theorem d_M_addSizes_32 : decode b_M_addSizes 32 = .ok (.aload_n 0, 1) := by decide +kernel
theorem d_M_addSizes_33 : decode b_M_addSizes 33 = .ok (.getfield 13, 3) := by decide +kernel
theorem d_M_addSizes_36 : decode b_M_addSizes 36 = .ok (.iload_n 2, 1) := by decide +kernel
theorem d_M_addSizes_37 : decode b_M_addSizes 37 = .ok (.iaload, 1) := by decide +kernel
theorem d_M_addSizes_38 : decode b_M_addSizes 38 = .ok (.istore 5, 2) := by decide +kernel
theorem d_M_addSizes_40 : decode b_M_addSizes 40 = .ok (.aload_n 0, 1) := by decide +kernel
theorem d_M_addSizes_41 : decode b_M_addSizes 41 = .ok (.getfield 13, 3) := by decide +kernel
theorem d_M_addSizes_44 : decode b_M_addSizes 44 = .ok (.iload_n 3, 1) := by decide +kernel
theorem d_M_addSizes_45 : decode b_M_addSizes 45 = .ok (.iaload, 1) := by decide +kernel
theorem d_M_addSizes_46 : decode b_M_addSizes 46 = .ok (.istore 6, 2) := by decide +kernel
theorem d_M_addSizes_48 : decode b_M_addSizes 48 = .ok (.iconst 0, 1) := by decide +kernel
theorem d_M_addSizes_49 : decode b_M_addSizes 49 = .ok (.istore 7, 2) := by decide +kernel
theorem d_M_addSizes_51 : decode b_M_addSizes 51 = .ok (.iconst 0, 1) := by decide +kernel
theorem d_M_addSizes_52 : decode b_M_addSizes 52 = .ok (.istore 8, 2) := by decide +kernel
theorem d_M_addSizes_54 : decode b_M_addSizes 54 = .ok (.iload 8, 2) := by decide +kernel
theorem d_M_addSizes_56 : decode b_M_addSizes 56 = .ok (.iload 4, 2) := by decide +kernel
theorem d_M_addSizes_58 : decode b_M_addSizes 58 = .ok (.if_icmp .ge 106, 3) := by decide +kernel
theorem d_M_addSizes_61 : decode b_M_addSizes 61 = .ok (.iload 7, 2) := by decide +kernel
theorem d_M_addSizes_63 : decode b_M_addSizes 63 = .ok (.iload 8, 2) := by decide +kernel
theorem d_M_addSizes_65 : decode b_M_addSizes 65 = .ok (.iload 5, 2) := by decide +kernel
theorem d_M_addSizes_67 : decode b_M_addSizes 67 = .ok (.if_icmp .ge 19, 3) := by decide +kernel
theorem d_M_addSizes_70 : decode b_M_addSizes 70 = .ok (.aload_n 0, 1) := by decide +kernel
theorem d_M_addSizes_71 : decode b_M_addSizes 71 = .ok (.getfield 9, 3) := by decide +kernel
theorem d_M_addSizes_74 : decode b_M_addSizes 74 = .ok (.sipush 460, 3) := by decide +kernel
theorem d_M_addSizes_77 : decode b_M_addSizes 77 = .ok (.iload_n 2, 1) := by decide +kernel
theorem d_M_addSizes_78 : decode b_M_addSizes 78 = .ok (.imul, 1) := by decide +kernel
theorem d_M_addSizes_79 : decode b_M_addSizes 79 = .ok (.iload 8, 2) := by decide +kernel
theorem d_M_addSizes_81 : decode b_M_addSizes 81 = .ok (.iadd, 1) := by decide +kernel
theorem d_M_addSizes_82 : decode b_M_addSizes 82 = .ok (.iaload, 1) := by decide +kernel
theorem d_M_addSizes_83 : decode b_M_addSizes 83 = .ok (.goto 4, 3) := by decide +kernel
theorem d_M_addSizes_86 : decode b_M_addSizes 86 = .ok (.iconst 0, 1) := by decide +kernel
theorem d_M_addSizes_87 : decode b_M_addSizes 87 = .ok (.iadd, 1) := by decide +kernel
theorem d_M_addSizes_88 : decode b_M_addSizes 88 = .ok (.iload 8, 2) := by decide +kernel
theorem d_M_addSizes_90 : decode b_M_addSizes 90 = .ok (.iload 6, 2) := by decide +kernel
theorem d_M_addSizes_92 : decode b_M_addSizes 92 = .ok (.if_icmp .ge 19, 3) := by decide +kernel
theorem d_M_addSizes_95 : decode b_M_addSizes 95 = .ok (.aload_n 0, 1) := by decide +kernel
theorem d_M_addSizes_96 : decode b_M_addSizes 96 = .ok (.getfield 9, 3) := by decide +kernel
theorem d_M_addSizes_99 : decode b_M_addSizes 99 = .ok (.sipush 460, 3) := by decide +kernel
theorem d_M_addSizes_102 : decode b_M_addSizes 102 = .ok (.iload_n 3, 1) := by decide +kernel
theorem d_M_addSizes_103 : decode b_M_addSizes 103 = .ok (.imul, 1) := by decide +kernel
theorem d_M_addSizes_104 : decode b_M_addSizes 104 = .ok (.iload 8, 2) := by decide +kernel
theorem d_M_addSizes_106 : decode b_M_addSizes 106 = .ok (.iadd, 1) := by decide +kernel
