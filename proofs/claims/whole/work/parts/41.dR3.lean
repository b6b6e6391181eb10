theorem d_R_giveBack_26 : decode b_R_giveBack 26 = .ok (.iaload, 1) := by decide +kernel
theorem d_R_giveBack_27 : decode b_R_giveBack 27 = .ok (.iadd, 1) := by decide +kernel
theorem d_R_giveBack_28 : decode b_R_giveBack 28 = .ok (.iload_n 3, 1) := by decide +kernel
theorem d_R_giveBack_29 : decode b_R_giveBack 29 = .ok (.iadd, 1) := by decide +kernel
theorem d_R_giveBack_30 : decode b_R_giveBack 30 = .ok (.istore 5, 2) := by decide +kernel
theorem d_R_giveBack_32 : decode b_R_giveBack 32 = .ok (.iload 5, 2) := by decide +kernel
theorem d_R_giveBack_34 : decode b_R_giveBack 34 = .ok (.ldc 70, 2) := by decide +kernel
theorem d_R_giveBack_36 : decode b_R_giveBack 36 = .ok (.if_icmp .lt 7, 3) := by decide +kernel
theorem d_R_giveBack_39 : decode b_R_giveBack 39 = .ok (.iconst 1, 1) := by decide +kernel
theorem d_R_giveBack_40 : decode b_R_giveBack 40 = .ok (.goto 4, 3) := by decide +kernel
theorem d_R_giveBack_43 : decode b_R_giveBack 43 = .ok (.iconst 0, 1) := by decide +kernel
theorem d_R_giveBack_44 : decode b_R_giveBack 44 = .ok (.istore_n 3, 1) := by decide +kernel
theorem d_R_giveBack_45 : decode b_R_giveBack 45 = .ok (.aload_n 0, 1) := by decide +kernel
theorem d_R_giveBack_46 : decode b_R_giveBack 46 = .ok (.getfield 15, 3) := by decide +kernel
theorem d_R_giveBack_49 : decode b_R_giveBack 49 = .ok (.iload_n 1, 1) := by decide +kernel
theorem d_R_giveBack_50 : decode b_R_giveBack 50 = .ok (.iload 4, 2) := by decide +kernel
theorem d_R_giveBack_52 : decode b_R_giveBack 52 = .ok (.iadd, 1) := by decide +kernel
theorem d_R_giveBack_53 : decode b_R_giveBack 53 = .ok (.iload_n 3, 1) := by decide +kernel
theorem d_R_giveBack_54 : decode b_R_giveBack 54 = .ok (.iconst 1, 1) := by decide +kernel
theorem d_R_giveBack_55 : decode b_R_giveBack 55 = .ok (.if_icmp .ne 11, 3) := by decide +kernel
theorem d_R_giveBack_58 : decode b_R_giveBack 58 = .ok (.iload 5, 2) := by decide +kernel
theorem d_R_giveBack_60 : decode b_R_giveBack 60 = .ok (.ldc 70, 2) := by decide +kernel
theorem d_R_giveBack_62 : decode b_R_giveBack 62 = .ok (.isub, 1) := by decide +kernel
theorem d_R_giveBack_63 : decode b_R_giveBack 63 = .ok (.goto 5, 3) := by decide +kernel
theorem d_R_giveBack_66 : decode b_R_giveBack 66 = .ok (.iload 5, 2) := by decide +kernel
theorem d_R_giveBack_68 : decode b_R_giveBack 68 = .ok (.iastore, 1) := by decide +kernel
theorem d_R_giveBack_69 : decode b_R_giveBack 69 = .ok (.iinc 4 1, 3) := by decide +kernel
theorem d_R_giveBack_72 : decode b_R_giveBack 72 = .ok (.goto (-67), 3) := by decide +kernel
theorem d_R_giveBack_75 : decode b_R_giveBack 75 = .ok (.return_, 1) := by decide +kernel
theorem d_R_store_0 : decode b_R_store 0 = .ok (.iload_n 2, 1) := by decide +kernel
theorem d_R_store_1 : decode b_R_store 1 = .ok (.aload_n 1, 1) := by decide +kernel
theorem d_R_store_2 : decode b_R_store 2 = .ok (.arraylength, 1) := by decide +kernel
theorem d_R_store_3 : decode b_R_store 3 = .ok (.invokestatic 106, 3) := by decide +kernel
theorem d_R_store_6 : decode b_R_store 6 = .ok (.istore 5, 2) := by decide +kernel
theorem d_R_store_8 : decode b_R_store 8 = .ok (.iload 5, 2) := by decide +kernel
theorem d_R_store_10 : decode b_R_store 10 = .ok (.ifCond .le 18, 3) := by decide +kernel
theorem d_R_store_13 : decode b_R_store 13 = .ok (.aload_n 1, 1) := by decide +kernel
theorem d_R_store_14 : decode b_R_store 14 = .ok (.iload 5, 2) := by decide +kernel
theorem d_R_store_16 : decode b_R_store 16 = .ok (.iconst 1, 1) := by decide +kernel
theorem d_R_store_17 : decode b_R_store 17 = .ok (.isub, 1) := by decide +kernel
theorem d_R_store_18 : decode b_R_store 18 = .ok (.iaload, 1) := by decide +kernel
theorem d_R_store_19 : decode b_R_store 19 = .ok (.ifCond .ne 9, 3) := by decide +kernel
theorem d_R_store_22 : decode b_R_store 22 = .ok (.iinc 5 (-1), 3) := by decide +kernel
theorem d_R_store_25 : decode b_R_store 25 = .ok (.goto (-17), 3) := by decide +kernel
theorem d_R_store_28 : decode b_R_store 28 = .ok (.iload 5, 2) := by decide +kernel
theorem d_R_store_30 : decode b_R_store 30 = .ok (.aload 4, 2) := by decide +kernel
theorem d_R_store_32 : decode b_R_store 32 = .ok (.getfield 59, 3) := by decide +kernel
theorem d_R_store_35 : decode b_R_store 35 = .ok (.arraylength, 1) := by decide +kernel
theorem d_R_store_36 : decode b_R_store 36 = .ok (.if_icmp .le 10, 3) := by decide +kernel
theorem d_R_store_39 : decode b_R_store 39 = .ok (.aload_n 0, 1) := by decide +kernel
theorem d_R_store_40 : decode b_R_store 40 = .ok (.aload 4, 2) := by decide +kernel
theorem d_R_store_42 : decode b_R_store 42 = .ok (.invokevirtual 62, 3) := by decide +kernel
theorem d_R_store_45 : decode b_R_store 45 = .ok (.return_, 1) := by decide +kernel
theorem d_R_store_46 : decode b_R_store 46 = .ok (.aload_n 1, 1) := by decide +kernel
theorem d_R_store_47 : decode b_R_store 47 = .ok (.iconst 0, 1) := by decide +kernel
theorem d_R_store_48 : decode b_R_store 48 = .ok (.aload 4, 2) := by decide +kernel
theorem d_R_store_50 : decode b_R_store 50 = .ok (.getfield 59, 3) := by decide +kernel
theorem d_R_store_53 : decode b_R_store 53 = .ok (.iconst 0, 1) := by decide +kernel
theorem d_R_store_54 : decode b_R_store 54 = .ok (.iload 5, 2) := by decide +kernel
theorem d_R_store_56 : decode b_R_store 56 = .ok (.invokestatic 112, 3) := by decide +kernel
theorem d_R_store_59 : decode b_R_store 59 = .ok (.aload 4, 2) := by decide +kernel
theorem d_R_store_61 : decode b_R_store 61 = .ok (.iload 5, 2) := by decide +kernel
theorem d_R_store_63 : decode b_R_store 63 = .ok (.putfield 49, 3) := by decide +kernel
theorem d_R_store_66 : decode b_R_store 66 = .ok (.aload 4, 2) := by decide +kernel
theorem d_R_store_68 : decode b_R_store 68 = .ok (.iload_n 3, 1) := by decide +kernel
theorem d_R_store_69 : decode b_R_store 69 = .ok (.ifCond .eq 12, 3) := by decide +kernel
theorem d_R_store_72 : decode b_R_store 72 = .ok (.iload 5, 2) := by decide +kernel
theorem d_R_store_74 : decode b_R_store 74 = .ok (.ifCond .le 7, 3) := by decide +kernel
theorem d_R_store_77 : decode b_R_store 77 = .ok (.iconst 1, 1) := by decide +kernel
theorem d_R_store_78 : decode b_R_store 78 = .ok (.goto 4, 3) := by decide +kernel
theorem d_R_store_81 : decode b_R_store 81 = .ok (.iconst 0, 1) := by decide +kernel
theorem d_R_store_82 : decode b_R_store 82 = .ok (.putfield 30, 3) := by decide +kernel
theorem d_R_store_85 : decode b_R_store 85 = .ok (.return_, 1) := by decide +kernel
theorem d_R_lose_0 : decode b_R_lose 0 = .ok (.aload_n 1, 1) := by decide +kernel
theorem d_R_lose_1 : decode b_R_lose 1 = .ok (.iconst 0, 1) := by decide +kernel
theorem d_R_lose_2 : decode b_R_lose 2 = .ok (.putfield 49, 3) := by decide +kernel
theorem d_R_lose_5 : decode b_R_lose 5 = .ok (.aload_n 1, 1) := by decide +kernel
theorem d_R_lose_6 : decode b_R_lose 6 = .ok (.iconst 0, 1) := by decide +kernel
theorem d_R_lose_7 : decode b_R_lose 7 = .ok (.putfield 30, 3) := by decide +kernel
theorem d_R_lose_10 : decode b_R_lose 10 = .ok (.aload_n 0, 1) := by decide +kernel
theorem d_R_lose_11 : decode b_R_lose 11 = .ok (.iconst 1, 1) := by decide +kernel
theorem d_R_lose_12 : decode b_R_lose 12 = .ok (.putfield 118, 3) := by decide +kernel
theorem d_R_lose_15 : decode b_R_lose 15 = .ok (.return_, 1) := by decide +kernel
