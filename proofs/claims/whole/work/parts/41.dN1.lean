theorem d_N_init_0 : decode b_N_init 0 = .ok (.aload_n 0, 1) := by decide +kernel
theorem d_N_init_1 : decode b_N_init 1 = .ok (.invokespecial 3, 3) := by decide +kernel
theorem d_N_init_4 : decode b_N_init 4 = .ok (.aload_n 0, 1) := by decide +kernel
theorem d_N_init_5 : decode b_N_init 5 = .ok (.iload_n 1, 1) := by decide +kernel
theorem d_N_init_6 : decode b_N_init 6 = .ok (.iconst 3, 1) := by decide +kernel
theorem d_N_init_7 : decode b_N_init 7 = .ok (.invokestatic 9, 3) := by decide +kernel
theorem d_N_init_10 : decode b_N_init 10 = .ok (.newarray .int, 2) := by decide +kernel
theorem d_N_init_12 : decode b_N_init 12 = .ok (.putfield 15, 3) := by decide +kernel
theorem d_N_init_15 : decode b_N_init 15 = .ok (.return_, 1) := by decide +kernel
theorem d_N_becomeZero_0 : decode b_N_becomeZero 0 = .ok (.aload_n 0, 1) := by decide +kernel
theorem d_N_becomeZero_1 : decode b_N_becomeZero 1 = .ok (.iconst 0, 1) := by decide +kernel
theorem d_N_becomeZero_2 : decode b_N_becomeZero 2 = .ok (.putfield 21, 3) := by decide +kernel
theorem d_N_becomeZero_5 : decode b_N_becomeZero 5 = .ok (.aload_n 0, 1) := by decide +kernel
theorem d_N_becomeZero_6 : decode b_N_becomeZero 6 = .ok (.iconst 0, 1) := by decide +kernel
theorem d_N_becomeZero_7 : decode b_N_becomeZero 7 = .ok (.putfield 25, 3) := by decide +kernel
theorem d_N_becomeZero_10 : decode b_N_becomeZero 10 = .ok (.return_, 1) := by decide +kernel
theorem d_N_become_J_0 : decode b_N_become_J 0 = .ok (.lload_n 1, 1) := by decide +kernel
theorem d_N_become_J_1 : decode b_N_become_J 1 = .ok (.lconst 0, 1) := by decide +kernel
theorem d_N_become_J_2 : decode b_N_become_J 2 = .ok (.lcmp, 1) := by decide +kernel
theorem d_N_become_J_3 : decode b_N_become_J 3 = .ok (.ifCond .ge 7, 3) := by decide +kernel
theorem d_N_become_J_6 : decode b_N_become_J 6 = .ok (.lload_n 1, 1) := by decide +kernel
theorem d_N_become_J_7 : decode b_N_become_J 7 = .ok (.goto 5, 3) := by decide +kernel
theorem d_N_become_J_10 : decode b_N_become_J 10 = .ok (.lload_n 1, 1) := by decide +kernel
theorem d_N_become_J_11 : decode b_N_become_J 11 = .ok (.lneg, 1) := by decide +kernel
theorem d_N_become_J_12 : decode b_N_become_J 12 = .ok (.lstore_n 3, 1) := by decide +kernel
theorem d_N_become_J_13 : decode b_N_become_J 13 = .ok (.iconst 0, 1) := by decide +kernel
theorem d_N_become_J_14 : decode b_N_become_J 14 = .ok (.istore 5, 2) := by decide +kernel
theorem d_N_become_J_16 : decode b_N_become_J 16 = .ok (.iconst 0, 1) := by decide +kernel
theorem d_N_become_J_17 : decode b_N_become_J 17 = .ok (.istore 6, 2) := by decide +kernel
theorem d_N_become_J_19 : decode b_N_become_J 19 = .ok (.iload 6, 2) := by decide +kernel
theorem d_N_become_J_21 : decode b_N_become_J 21 = .ok (.iconst 3, 1) := by decide +kernel
theorem d_N_become_J_22 : decode b_N_become_J 22 = .ok (.if_icmp .ge 41, 3) := by decide +kernel
theorem d_N_become_J_25 : decode b_N_become_J 25 = .ok (.lload_n 3, 1) := by decide +kernel
theorem d_N_become_J_26 : decode b_N_become_J 26 = .ok (.lconst 0, 1) := by decide +kernel
theorem d_N_become_J_27 : decode b_N_become_J 27 = .ok (.lcmp, 1) := by decide +kernel
theorem d_N_become_J_28 : decode b_N_become_J 28 = .ok (.ifCond .eq 35, 3) := by decide +kernel
theorem d_N_become_J_31 : decode b_N_become_J 31 = .ok (.aload_n 0, 1) := by decide +kernel
theorem d_N_become_J_32 : decode b_N_become_J 32 = .ok (.getfield 15, 3) := by decide +kernel
theorem d_N_become_J_35 : decode b_N_become_J 35 = .ok (.iload 6, 2) := by decide +kernel
theorem d_N_become_J_37 : decode b_N_become_J 37 = .ok (.lload_n 3, 1) := by decide +kernel
theorem d_N_become_J_38 : decode b_N_become_J 38 = .ok (.ldc2_w 29, 3) := by decide +kernel
theorem d_N_become_J_41 : decode b_N_become_J 41 = .ok (.lrem, 1) := by decide +kernel
theorem d_N_become_J_42 : decode b_N_become_J 42 = .ok (.lneg, 1) := by decide +kernel
theorem d_N_become_J_43 : decode b_N_become_J 43 = .ok (.l2i, 1) := by decide +kernel
theorem d_N_become_J_44 : decode b_N_become_J 44 = .ok (.iastore, 1) := by decide +kernel
theorem d_N_become_J_45 : decode b_N_become_J 45 = .ok (.lload_n 3, 1) := by decide +kernel
theorem d_N_become_J_46 : decode b_N_become_J 46 = .ok (.ldc2_w 29, 3) := by decide +kernel
theorem d_N_become_J_49 : decode b_N_become_J 49 = .ok (.ldiv, 1) := by decide +kernel
theorem d_N_become_J_50 : decode b_N_become_J 50 = .ok (.lstore_n 3, 1) := by decide +kernel
theorem d_N_become_J_51 : decode b_N_become_J 51 = .ok (.iload 6, 2) := by decide +kernel
theorem d_N_become_J_53 : decode b_N_become_J 53 = .ok (.iconst 1, 1) := by decide +kernel
theorem d_N_become_J_54 : decode b_N_become_J 54 = .ok (.iadd, 1) := by decide +kernel
theorem d_N_become_J_55 : decode b_N_become_J 55 = .ok (.istore 5, 2) := by decide +kernel
theorem d_N_become_J_57 : decode b_N_become_J 57 = .ok (.iinc 6 1, 3) := by decide +kernel
theorem d_N_become_J_60 : decode b_N_become_J 60 = .ok (.goto (-41), 3) := by decide +kernel
theorem d_N_become_J_63 : decode b_N_become_J 63 = .ok (.aload_n 0, 1) := by decide +kernel
theorem d_N_become_J_64 : decode b_N_become_J 64 = .ok (.iload 5, 2) := by decide +kernel
theorem d_N_become_J_66 : decode b_N_become_J 66 = .ok (.putfield 21, 3) := by decide +kernel
theorem d_N_become_J_69 : decode b_N_become_J 69 = .ok (.aload_n 0, 1) := by decide +kernel
theorem d_N_become_J_70 : decode b_N_become_J 70 = .ok (.lload_n 1, 1) := by decide +kernel
theorem d_N_become_J_71 : decode b_N_become_J 71 = .ok (.lconst 0, 1) := by decide +kernel
theorem d_N_become_J_72 : decode b_N_become_J 72 = .ok (.lcmp, 1) := by decide +kernel
theorem d_N_become_J_73 : decode b_N_become_J 73 = .ok (.ifCond .ge 7, 3) := by decide +kernel
theorem d_N_become_J_76 : decode b_N_become_J 76 = .ok (.iconst 1, 1) := by decide +kernel
theorem d_N_become_J_77 : decode b_N_become_J 77 = .ok (.goto 4, 3) := by decide +kernel
theorem d_N_become_J_80 : decode b_N_become_J 80 = .ok (.iconst 0, 1) := by decide +kernel
theorem d_N_become_J_81 : decode b_N_become_J 81 = .ok (.putfield 25, 3) := by decide +kernel
theorem d_N_become_J_84 : decode b_N_become_J 84 = .ok (.return_, 1) := by decide +kernel
theorem d_N_become_N_0 : decode b_N_become_N 0 = .ok (.aload_n 1, 1) := by decide +kernel
theorem d_N_become_N_1 : decode b_N_become_N 1 = .ok (.getfield 21, 3) := by decide +kernel
theorem d_N_become_N_4 : decode b_N_become_N 4 = .ok (.aload_n 0, 1) := by decide +kernel
theorem d_N_become_N_5 : decode b_N_become_N 5 = .ok (.getfield 15, 3) := by decide +kernel
theorem d_N_become_N_8 : decode b_N_become_N 8 = .ok (.arraylength, 1) := by decide +kernel
theorem d_N_become_N_9 : decode b_N_become_N 9 = .ok (.if_icmp .le 8, 3) := by decide +kernel
theorem d_N_become_N_12 : decode b_N_become_N 12 = .ok (.aload_n 0, 1) := by decide +kernel
theorem d_N_become_N_13 : decode b_N_become_N 13 = .ok (.invokevirtual 31, 3) := by decide +kernel
theorem d_N_become_N_16 : decode b_N_become_N 16 = .ok (.return_, 1) := by decide +kernel
theorem d_N_become_N_17 : decode b_N_become_N 17 = .ok (.aload_n 1, 1) := by decide +kernel
theorem d_N_become_N_18 : decode b_N_become_N 18 = .ok (.getfield 15, 3) := by decide +kernel
theorem d_N_become_N_21 : decode b_N_become_N 21 = .ok (.iconst 0, 1) := by decide +kernel
theorem d_N_become_N_22 : decode b_N_become_N 22 = .ok (.aload_n 0, 1) := by decide +kernel
theorem d_N_become_N_23 : decode b_N_become_N 23 = .ok (.getfield 15, 3) := by decide +kernel
theorem d_N_become_N_26 : decode b_N_become_N 26 = .ok (.iconst 0, 1) := by decide +kernel
theorem d_N_become_N_27 : decode b_N_become_N 27 = .ok (.aload_n 1, 1) := by decide +kernel
theorem d_N_become_N_28 : decode b_N_become_N 28 = .ok (.getfield 21, 3) := by decide +kernel
theorem d_N_become_N_31 : decode b_N_become_N 31 = .ok (.invokestatic 34, 3) := by decide +kernel
theorem d_N_become_N_34 : decode b_N_become_N 34 = .ok (.aload_n 0, 1) := by decide +kernel
theorem d_N_become_N_35 : decode b_N_become_N 35 = .ok (.aload_n 1, 1) := by decide +kernel
theorem d_N_become_N_36 : decode b_N_become_N 36 = .ok (.getfield 21, 3) := by decide +kernel
theorem d_N_become_N_39 : decode b_N_become_N 39 = .ok (.putfield 21, 3) := by decide +kernel
theorem d_N_become_N_42 : decode b_N_become_N 42 = .ok (.aload_n 0, 1) := by decide +kernel
theorem d_N_become_N_43 : decode b_N_become_N 43 = .ok (.aload_n 1, 1) := by decide +kernel
theorem d_N_become_N_44 : decode b_N_become_N 44 = .ok (.getfield 25, 3) := by decide +kernel
theorem d_N_become_N_47 : decode b_N_become_N 47 = .ok (.putfield 25, 3) := by decide +kernel
theorem d_N_become_N_50 : decode b_N_become_N 50 = .ok (.return_, 1) := by decide +kernel
theorem d_N_settle_0 : decode b_N_settle 0 = .ok (.iload_n 1, 1) := by decide +kernel
theorem d_N_settle_1 : decode b_N_settle 1 = .ok (.aload_n 0, 1) := by decide +kernel
theorem d_N_settle_2 : decode b_N_settle 2 = .ok (.getfield 15, 3) := by decide +kernel
theorem d_N_settle_5 : decode b_N_settle 5 = .ok (.arraylength, 1) := by decide +kernel
theorem d_N_settle_6 : decode b_N_settle 6 = .ok (.if_icmp .gt 7, 3) := by decide +kernel
theorem d_N_settle_9 : decode b_N_settle 9 = .ok (.iload_n 1, 1) := by decide +kernel
theorem d_N_settle_10 : decode b_N_settle 10 = .ok (.goto 8, 3) := by decide +kernel
theorem d_N_settle_13 : decode b_N_settle 13 = .ok (.aload_n 0, 1) := by decide +kernel
theorem d_N_settle_14 : decode b_N_settle 14 = .ok (.getfield 15, 3) := by decide +kernel
theorem d_N_settle_17 : decode b_N_settle 17 = .ok (.arraylength, 1) := by decide +kernel
theorem d_N_settle_18 : decode b_N_settle 18 = .ok (.istore_n 3, 1) := by decide +kernel
theorem d_N_settle_19 : decode b_N_settle 19 = .ok (.iload_n 3, 1) := by decide +kernel
theorem d_N_settle_20 : decode b_N_settle 20 = .ok (.ifCond .le 20, 3) := by decide +kernel
theorem d_N_settle_23 : decode b_N_settle 23 = .ok (.aload_n 0, 1) := by decide +kernel
theorem d_N_settle_24 : decode b_N_settle 24 = .ok (.getfield 15, 3) := by decide +kernel
theorem d_N_settle_27 : decode b_N_settle 27 = .ok (.iload_n 3, 1) := by decide +kernel
theorem d_N_settle_28 : decode b_N_settle 28 = .ok (.iconst 1, 1) := by decide +kernel
theorem d_N_settle_29 : decode b_N_settle 29 = .ok (.isub, 1) := by decide +kernel
theorem d_N_settle_30 : decode b_N_settle 30 = .ok (.iaload, 1) := by decide +kernel
theorem d_N_settle_31 : decode b_N_settle 31 = .ok (.ifCond .ne 9, 3) := by decide +kernel
theorem d_N_settle_34 : decode b_N_settle 34 = .ok (.iinc 3 (-1), 3) := by decide +kernel
theorem d_N_settle_37 : decode b_N_settle 37 = .ok (.goto (-18), 3) := by decide +kernel
theorem d_N_settle_40 : decode b_N_settle 40 = .ok (.aload_n 0, 1) := by decide +kernel
theorem d_N_settle_41 : decode b_N_settle 41 = .ok (.iload_n 3, 1) := by decide +kernel
theorem d_N_settle_42 : decode b_N_settle 42 = .ok (.putfield 21, 3) := by decide +kernel
theorem d_N_settle_45 : decode b_N_settle 45 = .ok (.aload_n 0, 1) := by decide +kernel
theorem d_N_settle_46 : decode b_N_settle 46 = .ok (.iload_n 2, 1) := by decide +kernel
theorem d_N_settle_47 : decode b_N_settle 47 = .ok (.ifCond .eq 11, 3) := by decide +kernel
theorem d_N_settle_50 : decode b_N_settle 50 = .ok (.iload_n 3, 1) := by decide +kernel
theorem d_N_settle_51 : decode b_N_settle 51 = .ok (.ifCond .le 7, 3) := by decide +kernel
theorem d_N_settle_54 : decode b_N_settle 54 = .ok (.iconst 1, 1) := by decide +kernel
theorem d_N_settle_55 : decode b_N_settle 55 = .ok (.goto 4, 3) := by decide +kernel
theorem d_N_settle_58 : decode b_N_settle 58 = .ok (.iconst 0, 1) := by decide +kernel
theorem d_N_settle_59 : decode b_N_settle 59 = .ok (.putfield 25, 3) := by decide +kernel
theorem d_N_settle_62 : decode b_N_settle 62 = .ok (.return_, 1) := by decide +kernel
theorem d_N_changeSign_0 : decode b_N_changeSign 0 = .ok (.aload_n 0, 1) := by decide +kernel
theorem d_N_changeSign_1 : decode b_N_changeSign 1 = .ok (.aload_n 0, 1) := by decide +kernel
theorem d_N_changeSign_2 : decode b_N_changeSign 2 = .ok (.getfield 25, 3) := by decide +kernel
theorem d_N_changeSign_5 : decode b_N_changeSign 5 = .ok (.ifCond .ne 14, 3) := by decide +kernel
theorem d_N_changeSign_8 : decode b_N_changeSign 8 = .ok (.aload_n 0, 1) := by decide +kernel
theorem d_N_changeSign_9 : decode b_N_changeSign 9 = .ok (.getfield 21, 3) := by decide +kernel
theorem d_N_changeSign_12 : decode b_N_changeSign 12 = .ok (.ifCond .le 7, 3) := by decide +kernel
theorem d_N_changeSign_15 : decode b_N_changeSign 15 = .ok (.iconst 1, 1) := by decide +kernel
theorem d_N_changeSign_16 : decode b_N_changeSign 16 = .ok (.goto 4, 3) := by decide +kernel
theorem d_N_changeSign_19 : decode b_N_changeSign 19 = .ok (.iconst 0, 1) := by decide +kernel
theorem d_N_changeSign_20 : decode b_N_changeSign 20 = .ok (.putfield 25, 3) := by decide +kernel
theorem d_N_changeSign_23 : decode b_N_changeSign 23 = .ok (.return_, 1) := by decide +kernel
theorem d_N_isZero_0 : decode b_N_isZero 0 = .ok (.aload_n 0, 1) := by decide +kernel
theorem d_N_isZero_1 : decode b_N_isZero 1 = .ok (.getfield 21, 3) := by decide +kernel
theorem d_N_isZero_4 : decode b_N_isZero 4 = .ok (.ifCond .ne 7, 3) := by decide +kernel
theorem d_N_isZero_7 : decode b_N_isZero 7 = .ok (.iconst 1, 1) := by decide +kernel
theorem d_N_isZero_8 : decode b_N_isZero 8 = .ok (.goto 4, 3) := by decide +kernel
theorem d_N_isZero_11 : decode b_N_isZero 11 = .ok (.iconst 0, 1) := by decide +kernel
theorem d_N_isZero_12 : decode b_N_isZero 12 = .ok (.ireturn, 1) := by decide +kernel
theorem d_N_isLike_0 : decode b_N_isLike 0 = .ok (.aload_n 0, 1) := by decide +kernel
theorem d_N_isLike_1 : decode b_N_isLike 1 = .ok (.getfield 25, 3) := by decide +kernel
theorem d_N_isLike_4 : decode b_N_isLike 4 = .ok (.aload_n 1, 1) := by decide +kernel
theorem d_N_isLike_5 : decode b_N_isLike 5 = .ok (.getfield 25, 3) := by decide +kernel
theorem d_N_isLike_8 : decode b_N_isLike 8 = .ok (.if_icmp .ne 15, 3) := by decide +kernel
theorem d_N_isLike_11 : decode b_N_isLike 11 = .ok (.aload_n 0, 1) := by decide +kernel
theorem d_N_isLike_12 : decode b_N_isLike 12 = .ok (.aload_n 1, 1) := by decide +kernel
theorem d_N_isLike_13 : decode b_N_isLike 13 = .ok (.invokevirtual 40, 3) := by decide +kernel
theorem d_N_isLike_16 : decode b_N_isLike 16 = .ok (.ifCond .ne 7, 3) := by decide +kernel
theorem d_N_isLike_19 : decode b_N_isLike 19 = .ok (.iconst 1, 1) := by decide +kernel
theorem d_N_isLike_20 : decode b_N_isLike 20 = .ok (.goto 4, 3) := by decide +kernel
theorem d_N_isLike_23 : decode b_N_isLike 23 = .ok (.iconst 0, 1) := by decide +kernel
theorem d_N_isLike_24 : decode b_N_isLike 24 = .ok (.ireturn, 1) := by decide +kernel
theorem d_N_compareSize_0 : decode b_N_compareSize 0 = .ok (.aload_n 0, 1) := by decide +kernel
theorem d_N_compareSize_1 : decode b_N_compareSize 1 = .ok (.getfield 21, 3) := by decide +kernel
theorem d_N_compareSize_4 : decode b_N_compareSize 4 = .ok (.aload_n 1, 1) := by decide +kernel
theorem d_N_compareSize_5 : decode b_N_compareSize 5 = .ok (.getfield 21, 3) := by decide +kernel
theorem d_N_compareSize_8 : decode b_N_compareSize 8 = .ok (.if_icmp .eq 20, 3) := by decide +kernel
theorem d_N_compareSize_11 : decode b_N_compareSize 11 = .ok (.aload_n 0, 1) := by decide +kernel
theorem d_N_compareSize_12 : decode b_N_compareSize 12 = .ok (.getfield 21, 3) := by decide +kernel
theorem d_N_compareSize_15 : decode b_N_compareSize 15 = .ok (.aload_n 1, 1) := by decide +kernel
theorem d_N_compareSize_16 : decode b_N_compareSize 16 = .ok (.getfield 21, 3) := by decide +kernel
theorem d_N_compareSize_19 : decode b_N_compareSize 19 = .ok (.if_icmp .ge 7, 3) := by decide +kernel
theorem d_N_compareSize_22 : decode b_N_compareSize 22 = .ok (.iconst (-1), 1) := by decide +kernel
theorem d_N_compareSize_23 : decode b_N_compareSize 23 = .ok (.goto 4, 3) := by decide +kernel
theorem d_N_compareSize_26 : decode b_N_compareSize 26 = .ok (.iconst 1, 1) := by decide +kernel
theorem d_N_compareSize_27 : decode b_N_compareSize 27 = .ok (.ireturn, 1) := by decide +kernel
theorem d_N_compareSize_28 : decode b_N_compareSize 28 = .ok (.aload_n 0, 1) := by decide +kernel
theorem d_N_compareSize_29 : decode b_N_compareSize 29 = .ok (.getfield 21, 3) := by decide +kernel
theorem d_N_compareSize_32 : decode b_N_compareSize 32 = .ok (.iconst 1, 1) := by decide +kernel
theorem d_N_compareSize_33 : decode b_N_compareSize 33 = .ok (.isub, 1) := by decide +kernel
theorem d_N_compareSize_34 : decode b_N_compareSize 34 = .ok (.istore_n 2, 1) := by decide +kernel
theorem d_N_compareSize_35 : decode b_N_compareSize 35 = .ok (.iload_n 2, 1) := by decide +kernel
theorem d_N_compareSize_36 : decode b_N_compareSize 36 = .ok (.ifCond .lt 45, 3) := by decide +kernel
theorem d_N_compareSize_39 : decode b_N_compareSize 39 = .ok (.aload_n 0, 1) := by decide +kernel
theorem d_N_compareSize_40 : decode b_N_compareSize 40 = .ok (.getfield 15, 3) := by decide +kernel
theorem d_N_compareSize_43 : decode b_N_compareSize 43 = .ok (.iload_n 2, 1) := by decide +kernel
theorem d_N_compareSize_44 : decode b_N_compareSize 44 = .ok (.iaload, 1) := by decide +kernel
theorem d_N_compareSize_45 : decode b_N_compareSize 45 = .ok (.aload_n 1, 1) := by decide +kernel
theorem d_N_compareSize_46 : decode b_N_compareSize 46 = .ok (.getfield 15, 3) := by decide +kernel
theorem d_N_compareSize_49 : decode b_N_compareSize 49 = .ok (.iload_n 2, 1) := by decide +kernel
theorem d_N_compareSize_50 : decode b_N_compareSize 50 = .ok (.iaload, 1) := by decide +kernel
theorem d_N_compareSize_51 : decode b_N_compareSize 51 = .ok (.if_icmp .eq 24, 3) := by decide +kernel
theorem d_N_compareSize_54 : decode b_N_compareSize 54 = .ok (.aload_n 0, 1) := by decide +kernel
theorem d_N_compareSize_55 : decode b_N_compareSize 55 = .ok (.getfield 15, 3) := by decide +kernel
theorem d_N_compareSize_58 : decode b_N_compareSize 58 = .ok (.iload_n 2, 1) := by decide +kernel
theorem d_N_compareSize_59 : decode b_N_compareSize 59 = .ok (.iaload, 1) := by decide +kernel
theorem d_N_compareSize_60 : decode b_N_compareSize 60 = .ok (.aload_n 1, 1) := by decide +kernel
theorem d_N_compareSize_61 : decode b_N_compareSize 61 = .ok (.getfield 15, 3) := by decide +kernel
theorem d_N_compareSize_64 : decode b_N_compareSize 64 = .ok (.iload_n 2, 1) := by decide +kernel
theorem d_N_compareSize_65 : decode b_N_compareSize 65 = .ok (.iaload, 1) := by decide +kernel
theorem d_N_compareSize_66 : decode b_N_compareSize 66 = .ok (.if_icmp .ge 7, 3) := by decide +kernel
theorem d_N_compareSize_69 : decode b_N_compareSize 69 = .ok (.iconst (-1), 1) := by decide +kernel
theorem d_N_compareSize_70 : decode b_N_compareSize 70 = .ok (.goto 4, 3) := by decide +kernel
theorem d_N_compareSize_73 : decode b_N_compareSize 73 = .ok (.iconst 1, 1) := by decide +kernel
theorem d_N_compareSize_74 : decode b_N_compareSize 74 = .ok (.ireturn, 1) := by decide +kernel
theorem d_N_compareSize_75 : decode b_N_compareSize 75 = .ok (.iinc 2 (-1), 3) := by decide +kernel
theorem d_N_compareSize_78 : decode b_N_compareSize 78 = .ok (.goto (-43), 3) := by decide +kernel
theorem d_N_compareSize_81 : decode b_N_compareSize 81 = .ok (.iconst 0, 1) := by decide +kernel
theorem d_N_compareSize_82 : decode b_N_compareSize 82 = .ok (.ireturn, 1) := by decide +kernel
theorem d_N_limb_0 : decode b_N_limb 0 = .ok (.iload_n 1, 1) := by decide +kernel
theorem d_N_limb_1 : decode b_N_limb 1 = .ok (.ifCond .lt 20, 3) := by decide +kernel
theorem d_N_limb_4 : decode b_N_limb 4 = .ok (.iload_n 1, 1) := by decide +kernel
theorem d_N_limb_5 : decode b_N_limb 5 = .ok (.aload_n 0, 1) := by decide +kernel
theorem d_N_limb_6 : decode b_N_limb 6 = .ok (.getfield 21, 3) := by decide +kernel
theorem d_N_limb_9 : decode b_N_limb 9 = .ok (.if_icmp .ge 12, 3) := by decide +kernel
theorem d_N_limb_12 : decode b_N_limb 12 = .ok (.aload_n 0, 1) := by decide +kernel
theorem d_N_limb_13 : decode b_N_limb 13 = .ok (.getfield 15, 3) := by decide +kernel
theorem d_N_limb_16 : decode b_N_limb 16 = .ok (.iload_n 1, 1) := by decide +kernel
theorem d_N_limb_17 : decode b_N_limb 17 = .ok (.iaload, 1) := by decide +kernel
theorem d_N_limb_18 : decode b_N_limb 18 = .ok (.goto 4, 3) := by decide +kernel
theorem d_N_limb_21 : decode b_N_limb 21 = .ok (.iconst 0, 1) := by decide +kernel
theorem d_N_limb_22 : decode b_N_limb 22 = .ok (.ireturn, 1) := by decide +kernel
theorem d_N_lowPart_0 : decode b_N_lowPart 0 = .ok (.aload_n 0, 1) := by decide +kernel
theorem d_N_lowPart_1 : decode b_N_lowPart 1 = .ok (.iconst 1, 1) := by decide +kernel
theorem d_N_lowPart_2 : decode b_N_lowPart 2 = .ok (.invokevirtual 44, 3) := by decide +kernel
theorem d_N_lowPart_5 : decode b_N_lowPart 5 = .ok (.i2l, 1) := by decide +kernel
theorem d_N_lowPart_6 : decode b_N_lowPart 6 = .ok (.ldc2_w 29, 3) := by decide +kernel
theorem d_N_lowPart_9 : decode b_N_lowPart 9 = .ok (.lmul, 1) := by decide +kernel
theorem d_N_lowPart_10 : decode b_N_lowPart 10 = .ok (.aload_n 0, 1) := by decide +kernel
theorem d_N_lowPart_11 : decode b_N_lowPart 11 = .ok (.iconst 0, 1) := by decide +kernel
theorem d_N_lowPart_12 : decode b_N_lowPart 12 = .ok (.invokevirtual 44, 3) := by decide +kernel
theorem d_N_lowPart_15 : decode b_N_lowPart 15 = .ok (.i2l, 1) := by decide +kernel
theorem d_N_lowPart_16 : decode b_N_lowPart 16 = .ok (.ladd, 1) := by decide +kernel
theorem d_N_lowPart_17 : decode b_N_lowPart 17 = .ok (.lreturn, 1) := by decide +kernel
theorem d_N_digitCount_0 : decode b_N_digitCount 0 = .ok (.aload_n 0, 1) := by decide +kernel
theorem d_N_digitCount_1 : decode b_N_digitCount 1 = .ok (.getfield 21, 3) := by decide +kernel
theorem d_N_digitCount_4 : decode b_N_digitCount 4 = .ok (.ifCond .ne 5, 3) := by decide +kernel
theorem d_N_digitCount_7 : decode b_N_digitCount 7 = .ok (.iconst 1, 1) := by decide +kernel
theorem d_N_digitCount_8 : decode b_N_digitCount 8 = .ok (.ireturn, 1) := by decide +kernel
theorem d_N_digitCount_9 : decode b_N_digitCount 9 = .ok (.aload_n 0, 1) := by decide +kernel
theorem d_N_digitCount_10 : decode b_N_digitCount 10 = .ok (.getfield 21, 3) := by decide +kernel
theorem d_N_digitCount_13 : decode b_N_digitCount 13 = .ok (.iconst 1, 1) := by decide +kernel
theorem d_N_digitCount_14 : decode b_N_digitCount 14 = .ok (.isub, 1) := by decide +kernel
theorem d_N_digitCount_15 : decode b_N_digitCount 15 = .ok (.bipush 9, 2) := by decide +kernel
theorem d_N_digitCount_17 : decode b_N_digitCount 17 = .ok (.imul, 1) := by decide +kernel
theorem d_N_digitCount_18 : decode b_N_digitCount 18 = .ok (.aload_n 0, 1) := by decide +kernel
theorem d_N_digitCount_19 : decode b_N_digitCount 19 = .ok (.getfield 15, 3) := by decide +kernel
theorem d_N_digitCount_22 : decode b_N_digitCount 22 = .ok (.aload_n 0, 1) := by decide +kernel
theorem d_N_digitCount_23 : decode b_N_digitCount 23 = .ok (.getfield 21, 3) := by decide +kernel
theorem d_N_digitCount_26 : decode b_N_digitCount 26 = .ok (.iconst 1, 1) := by decide +kernel
theorem d_N_digitCount_27 : decode b_N_digitCount 27 = .ok (.isub, 1) := by decide +kernel
theorem d_N_digitCount_28 : decode b_N_digitCount 28 = .ok (.iaload, 1) := by decide +kernel
theorem d_N_digitCount_29 : decode b_N_digitCount 29 = .ok (.invokestatic 48, 3) := by decide +kernel
theorem d_N_digitCount_32 : decode b_N_digitCount 32 = .ok (.iadd, 1) := by decide +kernel
theorem d_N_digitCount_33 : decode b_N_digitCount 33 = .ok (.ireturn, 1) := by decide +kernel
theorem d_N_digitAbove_0 : decode b_N_digitAbove 0 = .ok (.iload_n 1, 1) := by decide +kernel
theorem d_N_digitAbove_1 : decode b_N_digitAbove 1 = .ok (.ifCond .ge 5, 3) := by decide +kernel
theorem d_N_digitAbove_4 : decode b_N_digitAbove 4 = .ok (.iconst 0, 1) := by decide +kernel
theorem d_N_digitAbove_5 : decode b_N_digitAbove 5 = .ok (.ireturn, 1) := by decide +kernel
theorem d_N_digitAbove_6 : decode b_N_digitAbove 6 = .ok (.aload_n 0, 1) := by decide +kernel
theorem d_N_digitAbove_7 : decode b_N_digitAbove 7 = .ok (.iload_n 1, 1) := by decide +kernel
theorem d_N_digitAbove_8 : decode b_N_digitAbove 8 = .ok (.bipush 9, 2) := by decide +kernel
theorem d_N_digitAbove_10 : decode b_N_digitAbove 10 = .ok (.idiv, 1) := by decide +kernel
theorem d_N_digitAbove_11 : decode b_N_digitAbove 11 = .ok (.invokevirtual 44, 3) := by decide +kernel
theorem d_N_digitAbove_14 : decode b_N_digitAbove 14 = .ok (.getstatic 51, 3) := by decide +kernel
theorem d_N_digitAbove_17 : decode b_N_digitAbove 17 = .ok (.iload_n 1, 1) := by decide +kernel
theorem d_N_digitAbove_18 : decode b_N_digitAbove 18 = .ok (.bipush 9, 2) := by decide +kernel
theorem d_N_digitAbove_20 : decode b_N_digitAbove 20 = .ok (.irem, 1) := by decide +kernel
theorem d_N_digitAbove_21 : decode b_N_digitAbove 21 = .ok (.iaload, 1) := by decide +kernel
theorem d_N_digitAbove_22 : decode b_N_digitAbove 22 = .ok (.idiv, 1) := by decide +kernel
theorem d_N_digitAbove_23 : decode b_N_digitAbove 23 = .ok (.bipush 10, 2) := by decide +kernel
theorem d_N_digitAbove_25 : decode b_N_digitAbove 25 = .ok (.irem, 1) := by decide +kernel
theorem d_N_digitAbove_26 : decode b_N_digitAbove 26 = .ok (.ireturn, 1) := by decide +kernel
theorem d_N_limbDigits_0 : decode b_N_limbDigits 0 = .ok (.iconst 1, 1) := by decide +kernel
theorem d_N_limbDigits_1 : decode b_N_limbDigits 1 = .ok (.istore_n 1, 1) := by decide +kernel
theorem d_N_limbDigits_2 : decode b_N_limbDigits 2 = .ok (.iload_n 1, 1) := by decide +kernel
theorem d_N_limbDigits_3 : decode b_N_limbDigits 3 = .ok (.bipush 9, 2) := by decide +kernel
theorem d_N_limbDigits_5 : decode b_N_limbDigits 5 = .ok (.if_icmp .ge 18, 3) := by decide +kernel
theorem d_N_limbDigits_8 : decode b_N_limbDigits 8 = .ok (.iload_n 0, 1) := by decide +kernel
theorem d_N_limbDigits_9 : decode b_N_limbDigits 9 = .ok (.getstatic 51, 3) := by decide +kernel
theorem d_N_limbDigits_12 : decode b_N_limbDigits 12 = .ok (.iload_n 1, 1) := by decide +kernel
theorem d_N_limbDigits_13 : decode b_N_limbDigits 13 = .ok (.iaload, 1) := by decide +kernel
theorem d_N_limbDigits_14 : decode b_N_limbDigits 14 = .ok (.if_icmp .lt 9, 3) := by decide +kernel
theorem d_N_limbDigits_17 : decode b_N_limbDigits 17 = .ok (.iinc 1 1, 3) := by decide +kernel
theorem d_N_limbDigits_20 : decode b_N_limbDigits 20 = .ok (.goto (-18), 3) := by decide +kernel
theorem d_N_limbDigits_23 : decode b_N_limbDigits 23 = .ok (.iload_n 1, 1) := by decide +kernel
theorem d_N_limbDigits_24 : decode b_N_limbDigits 24 = .ok (.ireturn, 1) := by decide +kernel
