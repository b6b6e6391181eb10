theorem d_X_order_107 : decode b_X_order 107 = .ok (.ifCond .eq 5, 3) := by decide +kernel
theorem d_X_order_110 : decode b_X_order 110 = .ok (.iload_n 2, 1) := by decide +kernel
theorem d_X_order_111 : decode b_X_order 111 = .ok (.ireturn, 1) := by decide +kernel
theorem d_X_order_112 : decode b_X_order 112 = .ok (.aload_n 0, 1) := by decide +kernel
theorem d_X_order_113 : decode b_X_order 113 = .ok (.getfield 47, 3) := by decide +kernel
theorem d_X_order_116 : decode b_X_order 116 = .ok (.aload_n 0, 1) := by decide +kernel
theorem d_X_order_117 : decode b_X_order 117 = .ok (.getfield 51, 3) := by decide +kernel
theorem d_X_order_120 : decode b_X_order 120 = .ok (.invokevirtual 87, 3) := by decide +kernel
theorem d_X_order_123 : decode b_X_order 123 = .ok (.iinc 2 1, 3) := by decide +kernel
theorem d_X_order_126 : decode b_X_order 126 = .ok (.goto (-88), 3) := by decide +kernel
theorem d_X_order_129 : decode b_X_order 129 = .ok (.iconst 0, 1) := by decide +kernel
theorem d_X_order_130 : decode b_X_order 130 = .ok (.ireturn, 1) := by decide +kernel
theorem d_X_isNone_0 : decode b_X_isNone 0 = .ok (.iload_n 1, 1) := by decide +kernel
theorem d_X_isNone_1 : decode b_X_isNone 1 = .ok (.invokestatic 72, 3) := by decide +kernel
theorem d_X_isNone_4 : decode b_X_isNone 4 = .ok (.ifCond .eq 19, 3) := by decide +kernel
theorem d_X_isNone_7 : decode b_X_isNone 7 = .ok (.aload_n 0, 1) := by decide +kernel
theorem d_X_isNone_8 : decode b_X_isNone 8 = .ok (.getfield 57, 3) := by decide +kernel
theorem d_X_isNone_11 : decode b_X_isNone 11 = .ok (.iload_n 1, 1) := by decide +kernel
theorem d_X_isNone_12 : decode b_X_isNone 12 = .ok (.aaload, 1) := by decide +kernel
theorem d_X_isNone_13 : decode b_X_isNone 13 = .ok (.getfield 98, 3) := by decide +kernel
theorem d_X_isNone_16 : decode b_X_isNone 16 = .ok (.ifCond .eq 7, 3) := by decide +kernel
theorem d_X_isNone_19 : decode b_X_isNone 19 = .ok (.iconst 1, 1) := by decide +kernel
theorem d_X_isNone_20 : decode b_X_isNone 20 = .ok (.goto 4, 3) := by decide +kernel
theorem d_X_isNone_23 : decode b_X_isNone 23 = .ok (.iconst 0, 1) := by decide +kernel
theorem d_X_isNone_24 : decode b_X_isNone 24 = .ok (.ireturn, 1) := by decide +kernel
theorem d_X_same_0 : decode b_X_same 0 = .ok (.iload_n 1, 1) := by decide +kernel
theorem d_X_same_1 : decode b_X_same 1 = .ok (.invokestatic 72, 3) := by decide +kernel
theorem d_X_same_4 : decode b_X_same 4 = .ok (.ifCond .eq 32, 3) := by decide +kernel
theorem d_X_same_7 : decode b_X_same 7 = .ok (.iload_n 2, 1) := by decide +kernel
theorem d_X_same_8 : decode b_X_same 8 = .ok (.invokestatic 72, 3) := by decide +kernel
theorem d_X_same_11 : decode b_X_same 11 = .ok (.ifCond .eq 25, 3) := by decide +kernel
theorem d_X_same_14 : decode b_X_same 14 = .ok (.aload_n 0, 1) := by decide +kernel
theorem d_X_same_15 : decode b_X_same 15 = .ok (.getfield 57, 3) := by decide +kernel
theorem d_X_same_18 : decode b_X_same 18 = .ok (.iload_n 1, 1) := by decide +kernel
theorem d_X_same_19 : decode b_X_same 19 = .ok (.aaload, 1) := by decide +kernel
theorem d_X_same_20 : decode b_X_same 20 = .ok (.aload_n 0, 1) := by decide +kernel
theorem d_X_same_21 : decode b_X_same 21 = .ok (.getfield 57, 3) := by decide +kernel
theorem d_X_same_24 : decode b_X_same 24 = .ok (.iload_n 2, 1) := by decide +kernel
theorem d_X_same_25 : decode b_X_same 25 = .ok (.aaload, 1) := by decide +kernel
theorem d_X_same_26 : decode b_X_same 26 = .ok (.invokevirtual 116, 3) := by decide +kernel
theorem d_X_same_29 : decode b_X_same 29 = .ok (.ifCond .eq 7, 3) := by decide +kernel
theorem d_X_same_32 : decode b_X_same 32 = .ok (.iconst 1, 1) := by decide +kernel
theorem d_X_same_33 : decode b_X_same 33 = .ok (.goto 4, 3) := by decide +kernel
theorem d_X_same_36 : decode b_X_same 36 = .ok (.iconst 0, 1) := by decide +kernel
theorem d_X_same_37 : decode b_X_same 37 = .ok (.ireturn, 1) := by decide +kernel
theorem d_X_digits_0 : decode b_X_digits 0 = .ok (.aload_n 0, 1) := by decide +kernel
theorem d_X_digits_1 : decode b_X_digits 1 = .ok (.iload_n 1, 1) := by decide +kernel
theorem d_X_digits_2 : decode b_X_digits 2 = .ok (.iload_n 2, 1) := by decide +kernel
theorem d_X_digits_3 : decode b_X_digits 3 = .ok (.invokevirtual 120, 3) := by decide +kernel
theorem d_X_digits_6 : decode b_X_digits 6 = .ok (.ifCond .eq 19, 3) := by decide +kernel
theorem d_X_digits_9 : decode b_X_digits 9 = .ok (.aload_n 0, 1) := by decide +kernel
theorem d_X_digits_10 : decode b_X_digits 10 = .ok (.getfield 57, 3) := by decide +kernel
theorem d_X_digits_13 : decode b_X_digits 13 = .ok (.iload_n 1, 1) := by decide +kernel
theorem d_X_digits_14 : decode b_X_digits 14 = .ok (.aaload, 1) := by decide +kernel
theorem d_X_digits_15 : decode b_X_digits 15 = .ok (.iload_n 2, 1) := by decide +kernel
theorem d_X_digits_16 : decode b_X_digits 16 = .ok (.invokevirtual 124, 3) := by decide +kernel
theorem d_X_digits_19 : decode b_X_digits 19 = .ok (.invokevirtual 128, 3) := by decide +kernel
theorem d_X_digits_22 : decode b_X_digits 22 = .ok (.goto 4, 3) := by decide +kernel
theorem d_X_digits_25 : decode b_X_digits 25 = .ok (.iconst (-1), 1) := by decide +kernel
theorem d_X_digits_26 : decode b_X_digits 26 = .ok (.ireturn, 1) := by decide +kernel
theorem d_X_digitAt_0 : decode b_X_digitAt 0 = .ok (.aload_n 0, 1) := by decide +kernel
theorem d_X_digitAt_1 : decode b_X_digitAt 1 = .ok (.iload_n 1, 1) := by decide +kernel
theorem d_X_digitAt_2 : decode b_X_digitAt 2 = .ok (.iload_n 2, 1) := by decide +kernel
theorem d_X_digitAt_3 : decode b_X_digitAt 3 = .ok (.invokevirtual 120, 3) := by decide +kernel
theorem d_X_digitAt_6 : decode b_X_digitAt 6 = .ok (.ifCond .ne 5, 3) := by decide +kernel
theorem d_X_digitAt_9 : decode b_X_digitAt 9 = .ok (.iconst (-1), 1) := by decide +kernel
theorem d_X_digitAt_10 : decode b_X_digitAt 10 = .ok (.ireturn, 1) := by decide +kernel
theorem d_X_digitAt_11 : decode b_X_digitAt 11 = .ok (.aload_n 0, 1) := by decide +kernel
theorem d_X_digitAt_12 : decode b_X_digitAt 12 = .ok (.getfield 57, 3) := by decide +kernel
theorem d_X_digitAt_15 : decode b_X_digitAt 15 = .ok (.iload_n 1, 1) := by decide +kernel
theorem d_X_digitAt_16 : decode b_X_digitAt 16 = .ok (.aaload, 1) := by decide +kernel
theorem d_X_digitAt_17 : decode b_X_digitAt 17 = .ok (.iload_n 2, 1) := by decide +kernel
theorem d_X_digitAt_18 : decode b_X_digitAt 18 = .ok (.invokevirtual 124, 3) := by decide +kernel
theorem d_X_digitAt_21 : decode b_X_digitAt 21 = .ok (.astore 4, 2) := by decide +kernel
theorem d_X_digitAt_23 : decode b_X_digitAt 23 = .ok (.aload 4, 2) := by decide +kernel
theorem d_X_digitAt_25 : decode b_X_digitAt 25 = .ok (.invokevirtual 128, 3) := by decide +kernel
theorem d_X_digitAt_28 : decode b_X_digitAt 28 = .ok (.istore 5, 2) := by decide +kernel
theorem d_X_digitAt_30 : decode b_X_digitAt 30 = .ok (.iload_n 3, 1) := by decide +kernel
theorem d_X_digitAt_31 : decode b_X_digitAt 31 = .ok (.ifCond .lt 9, 3) := by decide +kernel
theorem d_X_digitAt_34 : decode b_X_digitAt 34 = .ok (.iload_n 3, 1) := by decide +kernel
theorem d_X_digitAt_35 : decode b_X_digitAt 35 = .ok (.iload 5, 2) := by decide +kernel
theorem d_X_digitAt_37 : decode b_X_digitAt 37 = .ok (.if_icmp .lt 7, 3) := by decide +kernel
theorem d_X_digitAt_40 : decode b_X_digitAt 40 = .ok (.iconst (-1), 1) := by decide +kernel
theorem d_X_digitAt_41 : decode b_X_digitAt 41 = .ok (.goto 14, 3) := by decide +kernel
theorem d_X_digitAt_44 : decode b_X_digitAt 44 = .ok (.aload 4, 2) := by decide +kernel
theorem d_X_digitAt_46 : decode b_X_digitAt 46 = .ok (.iload 5, 2) := by decide +kernel
theorem d_X_digitAt_48 : decode b_X_digitAt 48 = .ok (.iconst 1, 1) := by decide +kernel
theorem d_X_digitAt_49 : decode b_X_digitAt 49 = .ok (.isub, 1) := by decide +kernel
theorem d_X_digitAt_50 : decode b_X_digitAt 50 = .ok (.iload_n 3, 1) := by decide +kernel
theorem d_X_digitAt_51 : decode b_X_digitAt 51 = .ok (.isub, 1) := by decide +kernel
theorem d_X_digitAt_52 : decode b_X_digitAt 52 = .ok (.invokevirtual 132, 3) := by decide +kernel
theorem d_X_digitAt_55 : decode b_X_digitAt 55 = .ok (.ireturn, 1) := by decide +kernel
theorem d_X_sign_0 : decode b_X_sign 0 = .ok (.aload_n 0, 1) := by decide +kernel
theorem d_X_sign_1 : decode b_X_sign 1 = .ok (.iload_n 1, 1) := by decide +kernel
theorem d_X_sign_2 : decode b_X_sign 2 = .ok (.iload_n 2, 1) := by decide +kernel
theorem d_X_sign_3 : decode b_X_sign 3 = .ok (.invokevirtual 120, 3) := by decide +kernel
theorem d_X_sign_6 : decode b_X_sign 6 = .ok (.ifCond .ne 5, 3) := by decide +kernel
theorem d_X_sign_9 : decode b_X_sign 9 = .ok (.iconst (-1), 1) := by decide +kernel
theorem d_X_sign_10 : decode b_X_sign 10 = .ok (.ireturn, 1) := by decide +kernel
theorem d_X_sign_11 : decode b_X_sign 11 = .ok (.aload_n 0, 1) := by decide +kernel
theorem d_X_sign_12 : decode b_X_sign 12 = .ok (.getfield 57, 3) := by decide +kernel
theorem d_X_sign_15 : decode b_X_sign 15 = .ok (.iload_n 1, 1) := by decide +kernel
theorem d_X_sign_16 : decode b_X_sign 16 = .ok (.aaload, 1) := by decide +kernel
theorem d_X_sign_17 : decode b_X_sign 17 = .ok (.iload_n 2, 1) := by decide +kernel
theorem d_X_sign_18 : decode b_X_sign 18 = .ok (.invokevirtual 124, 3) := by decide +kernel
theorem d_X_sign_21 : decode b_X_sign 21 = .ok (.astore_n 3, 1) := by decide +kernel
theorem d_X_sign_22 : decode b_X_sign 22 = .ok (.aload_n 3, 1) := by decide +kernel
theorem d_X_sign_23 : decode b_X_sign 23 = .ok (.invokevirtual 136, 3) := by decide +kernel
theorem d_X_sign_26 : decode b_X_sign 26 = .ok (.ifCond .eq 5, 3) := by decide +kernel
theorem d_X_sign_29 : decode b_X_sign 29 = .ok (.iconst 1, 1) := by decide +kernel
theorem d_X_sign_30 : decode b_X_sign 30 = .ok (.ireturn, 1) := by decide +kernel
theorem d_X_sign_31 : decode b_X_sign 31 = .ok (.aload_n 3, 1) := by decide +kernel
theorem d_X_sign_32 : decode b_X_sign 32 = .ok (.getfield 140, 3) := by decide +kernel
theorem d_X_sign_35 : decode b_X_sign 35 = .ok (.ifCond .eq 7, 3) := by decide +kernel
theorem d_X_sign_38 : decode b_X_sign 38 = .ok (.iconst 0, 1) := by decide +kernel
theorem d_X_sign_39 : decode b_X_sign 39 = .ok (.goto 4, 3) := by decide +kernel
theorem d_X_sign_42 : decode b_X_sign 42 = .ok (.iconst 2, 1) := by decide +kernel
theorem d_X_sign_43 : decode b_X_sign 43 = .ok (.ireturn, 1) := by decide +kernel
theorem d_X_isSlot_0 : decode b_X_isSlot 0 = .ok (.iload_n 0, 1) := by decide +kernel
theorem d_X_isSlot_1 : decode b_X_isSlot 1 = .ok (.ifCond .lt 13, 3) := by decide +kernel
theorem d_X_isSlot_4 : decode b_X_isSlot 4 = .ok (.iload_n 0, 1) := by decide +kernel
theorem d_X_isSlot_5 : decode b_X_isSlot 5 = .ok (.bipush 8, 2) := by decide +kernel
theorem d_X_isSlot_7 : decode b_X_isSlot 7 = .ok (.if_icmp .ge 7, 3) := by decide +kernel
theorem d_X_isSlot_10 : decode b_X_isSlot 10 = .ok (.iconst 1, 1) := by decide +kernel
theorem d_X_isSlot_11 : decode b_X_isSlot 11 = .ok (.goto 4, 3) := by decide +kernel
theorem d_X_isSlot_14 : decode b_X_isSlot 14 = .ok (.iconst 0, 1) := by decide +kernel
theorem d_X_isSlot_15 : decode b_X_isSlot 15 = .ok (.ireturn, 1) := by decide +kernel
theorem d_X_isCoefficient_0 : decode b_X_isCoefficient 0 = .ok (.iload_n 0, 1) := by decide +kernel
theorem d_X_isCoefficient_1 : decode b_X_isCoefficient 1 = .ok (.ldc 143, 2) := by decide +kernel
theorem d_X_isCoefficient_3 : decode b_X_isCoefficient 3 = .ok (.if_icmp .lt 13, 3) := by decide +kernel
theorem d_X_isCoefficient_6 : decode b_X_isCoefficient 6 = .ok (.iload_n 0, 1) := by decide +kernel
theorem d_X_isCoefficient_7 : decode b_X_isCoefficient 7 = .ok (.ldc 144, 2) := by decide +kernel
theorem d_X_isCoefficient_9 : decode b_X_isCoefficient 9 = .ok (.if_icmp .gt 7, 3) := by decide +kernel
theorem d_X_isCoefficient_12 : decode b_X_isCoefficient 12 = .ok (.iconst 1, 1) := by decide +kernel
theorem d_X_isCoefficient_13 : decode b_X_isCoefficient 13 = .ok (.goto 4, 3) := by decide +kernel
theorem d_X_isCoefficient_16 : decode b_X_isCoefficient 16 = .ok (.iconst 0, 1) := by decide +kernel
theorem d_X_isCoefficient_17 : decode b_X_isCoefficient 17 = .ok (.ireturn, 1) := by decide +kernel
theorem d_X_hasNumber_0 : decode b_X_hasNumber 0 = .ok (.iload_n 1, 1) := by decide +kernel
theorem d_X_hasNumber_1 : decode b_X_hasNumber 1 = .ok (.invokestatic 72, 3) := by decide +kernel
theorem d_X_hasNumber_4 : decode b_X_hasNumber 4 = .ok (.ifCond .eq 28, 3) := by decide +kernel
theorem d_X_hasNumber_7 : decode b_X_hasNumber 7 = .ok (.iload_n 2, 1) := by decide +kernel
theorem d_X_hasNumber_8 : decode b_X_hasNumber 8 = .ok (.ifCond .lt 24, 3) := by decide +kernel
theorem d_X_hasNumber_11 : decode b_X_hasNumber 11 = .ok (.iload_n 2, 1) := by decide +kernel
theorem d_X_hasNumber_12 : decode b_X_hasNumber 12 = .ok (.iconst 3, 1) := by decide +kernel
theorem d_X_hasNumber_13 : decode b_X_hasNumber 13 = .ok (.if_icmp .gt 19, 3) := by decide +kernel
theorem d_X_hasNumber_16 : decode b_X_hasNumber 16 = .ok (.aload_n 0, 1) := by decide +kernel
theorem d_X_hasNumber_17 : decode b_X_hasNumber 17 = .ok (.getfield 57, 3) := by decide +kernel
theorem d_X_hasNumber_20 : decode b_X_hasNumber 20 = .ok (.iload_n 1, 1) := by decide +kernel
theorem d_X_hasNumber_21 : decode b_X_hasNumber 21 = .ok (.aaload, 1) := by decide +kernel
theorem d_X_hasNumber_22 : decode b_X_hasNumber 22 = .ok (.getfield 98, 3) := by decide +kernel
theorem d_X_hasNumber_25 : decode b_X_hasNumber 25 = .ok (.ifCond .ne 7, 3) := by decide +kernel
theorem d_X_hasNumber_28 : decode b_X_hasNumber 28 = .ok (.iconst 1, 1) := by decide +kernel
theorem d_X_hasNumber_29 : decode b_X_hasNumber 29 = .ok (.goto 4, 3) := by decide +kernel
theorem d_X_hasNumber_32 : decode b_X_hasNumber 32 = .ok (.iconst 0, 1) := by decide +kernel
theorem d_X_hasNumber_33 : decode b_X_hasNumber 33 = .ok (.ireturn, 1) := by decide +kernel
theorem d_X_keep_0 : decode b_X_keep 0 = .ok (.aload_n 1, 1) := by decide +kernel
theorem d_X_keep_1 : decode b_X_keep 1 = .ok (.bipush 120, 2) := by decide +kernel
theorem d_X_keep_3 : decode b_X_keep 3 = .ok (.invokevirtual 145, 3) := by decide +kernel
theorem d_X_keep_6 : decode b_X_keep 6 = .ok (.ifCond .eq 5, 3) := by decide +kernel
theorem d_X_keep_9 : decode b_X_keep 9 = .ok (.iconst 0, 1) := by decide +kernel
theorem d_X_keep_10 : decode b_X_keep 10 = .ok (.ireturn, 1) := by decide +kernel
theorem d_X_keep_11 : decode b_X_keep 11 = .ok (.aload_n 0, 1) := by decide +kernel
theorem d_X_keep_12 : decode b_X_keep 12 = .ok (.getfield 57, 3) := by decide +kernel
theorem d_X_keep_15 : decode b_X_keep 15 = .ok (.iload_n 2, 1) := by decide +kernel
theorem d_X_keep_16 : decode b_X_keep 16 = .ok (.aaload, 1) := by decide +kernel
theorem d_X_keep_17 : decode b_X_keep 17 = .ok (.aload_n 1, 1) := by decide +kernel
theorem d_X_keep_18 : decode b_X_keep 18 = .ok (.invokevirtual 87, 3) := by decide +kernel
theorem d_X_keep_21 : decode b_X_keep 21 = .ok (.iconst 1, 1) := by decide +kernel
theorem d_X_keep_22 : decode b_X_keep 22 = .ok (.ireturn, 1) := by decide +kernel
