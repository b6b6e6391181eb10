theorem d_P_init_0 : decode b_P_init 0 = .ok (.aload_n 0, 1) := by decide +kernel
theorem d_P_init_1 : decode b_P_init 1 = .ok (.invokespecial 3, 3) := by decide +kernel
theorem d_P_init_4 : decode b_P_init 4 = .ok (.aload_n 0, 1) := by decide +kernel
theorem d_P_init_5 : decode b_P_init 5 = .ok (.new 9, 3) := by decide +kernel
theorem d_P_init_8 : decode b_P_init 8 = .ok (.dup, 1) := by decide +kernel
theorem d_P_init_9 : decode b_P_init 9 = .ok (.bipush 30, 2) := by decide +kernel
theorem d_P_init_11 : decode b_P_init 11 = .ok (.invokespecial 11, 3) := by decide +kernel
theorem d_P_init_14 : decode b_P_init 14 = .ok (.putfield 14, 3) := by decide +kernel
theorem d_P_init_17 : decode b_P_init 17 = .ok (.aload_n 0, 1) := by decide +kernel
theorem d_P_init_18 : decode b_P_init 18 = .ok (.new 9, 3) := by decide +kernel
theorem d_P_init_21 : decode b_P_init 21 = .ok (.dup, 1) := by decide +kernel
theorem d_P_init_22 : decode b_P_init 22 = .ok (.bipush 30, 2) := by decide +kernel
theorem d_P_init_24 : decode b_P_init 24 = .ok (.invokespecial 11, 3) := by decide +kernel
theorem d_P_init_27 : decode b_P_init 27 = .ok (.putfield 20, 3) := by decide +kernel
theorem d_P_init_30 : decode b_P_init 30 = .ok (.aload_n 0, 1) := by decide +kernel
theorem d_P_init_31 : decode b_P_init 31 = .ok (.new 9, 3) := by decide +kernel
theorem d_P_init_34 : decode b_P_init 34 = .ok (.dup, 1) := by decide +kernel
theorem d_P_init_35 : decode b_P_init 35 = .ok (.bipush 30, 2) := by decide +kernel
theorem d_P_init_37 : decode b_P_init 37 = .ok (.invokespecial 11, 3) := by decide +kernel
theorem d_P_init_40 : decode b_P_init 40 = .ok (.putfield 23, 3) := by decide +kernel
theorem d_P_init_43 : decode b_P_init 43 = .ok (.aload_n 0, 1) := by decide +kernel
theorem d_P_init_44 : decode b_P_init 44 = .ok (.new 9, 3) := by decide +kernel
theorem d_P_init_47 : decode b_P_init 47 = .ok (.dup, 1) := by decide +kernel
theorem d_P_init_48 : decode b_P_init 48 = .ok (.bipush 30, 2) := by decide +kernel
theorem d_P_init_50 : decode b_P_init 50 = .ok (.invokespecial 11, 3) := by decide +kernel
theorem d_P_init_53 : decode b_P_init 53 = .ok (.putfield 26, 3) := by decide +kernel
theorem d_P_init_56 : decode b_P_init 56 = .ok (.aload_n 0, 1) := by decide +kernel
theorem d_P_init_57 : decode b_P_init 57 = .ok (.new 9, 3) := by decide +kernel
theorem d_P_init_60 : decode b_P_init 60 = .ok (.dup, 1) := by decide +kernel
theorem d_P_init_61 : decode b_P_init 61 = .ok (.bipush 30, 2) := by decide +kernel
theorem d_P_init_63 : decode b_P_init 63 = .ok (.invokespecial 11, 3) := by decide +kernel
theorem d_P_init_66 : decode b_P_init 66 = .ok (.putfield 29, 3) := by decide +kernel
theorem d_P_init_69 : decode b_P_init 69 = .ok (.aload_n 0, 1) := by decide +kernel
theorem d_P_init_70 : decode b_P_init 70 = .ok (.iconst 1, 1) := by decide +kernel
theorem d_P_init_71 : decode b_P_init 71 = .ok (.putfield 32, 3) := by decide +kernel
theorem d_P_init_74 : decode b_P_init 74 = .ok (.return_, 1) := by decide +kernel
theorem d_P_becomeNone_0 : decode b_P_becomeNone 0 = .ok (.aload_n 0, 1) := by decide +kernel
theorem d_P_becomeNone_1 : decode b_P_becomeNone 1 = .ok (.iconst 1, 1) := by decide +kernel
theorem d_P_becomeNone_2 : decode b_P_becomeNone 2 = .ok (.putfield 32, 3) := by decide +kernel
theorem d_P_becomeNone_5 : decode b_P_becomeNone 5 = .ok (.return_, 1) := by decide +kernel
theorem d_P_become_0 : decode b_P_become 0 = .ok (.aload_n 0, 1) := by decide +kernel
theorem d_P_become_1 : decode b_P_become 1 = .ok (.aload_n 1, 1) := by decide +kernel
theorem d_P_become_2 : decode b_P_become 2 = .ok (.getfield 32, 3) := by decide +kernel
theorem d_P_become_5 : decode b_P_become 5 = .ok (.putfield 32, 3) := by decide +kernel
theorem d_P_become_8 : decode b_P_become 8 = .ok (.aload_n 0, 1) := by decide +kernel
theorem d_P_become_9 : decode b_P_become 9 = .ok (.getfield 32, 3) := by decide +kernel
theorem d_P_become_12 : decode b_P_become 12 = .ok (.ifCond .eq 4, 3) := by decide +kernel
theorem d_P_become_15 : decode b_P_become 15 = .ok (.return_, 1) := by decide +kernel
theorem d_P_become_16 : decode b_P_become 16 = .ok (.aload_n 0, 1) := by decide +kernel
theorem d_P_become_17 : decode b_P_become 17 = .ok (.getfield 14, 3) := by decide +kernel
theorem d_P_become_20 : decode b_P_become 20 = .ok (.aload_n 1, 1) := by decide +kernel
theorem d_P_become_21 : decode b_P_become 21 = .ok (.getfield 14, 3) := by decide +kernel
theorem d_P_become_24 : decode b_P_become 24 = .ok (.invokevirtual 36, 3) := by decide +kernel
theorem d_P_become_27 : decode b_P_become 27 = .ok (.aload_n 0, 1) := by decide +kernel
theorem d_P_become_28 : decode b_P_become 28 = .ok (.getfield 20, 3) := by decide +kernel
theorem d_P_become_31 : decode b_P_become 31 = .ok (.aload_n 1, 1) := by decide +kernel
theorem d_P_become_32 : decode b_P_become 32 = .ok (.getfield 20, 3) := by decide +kernel
theorem d_P_become_35 : decode b_P_become 35 = .ok (.invokevirtual 36, 3) := by decide +kernel
theorem d_P_become_38 : decode b_P_become 38 = .ok (.aload_n 0, 1) := by decide +kernel
theorem d_P_become_39 : decode b_P_become 39 = .ok (.getfield 23, 3) := by decide +kernel
theorem d_P_become_42 : decode b_P_become 42 = .ok (.aload_n 1, 1) := by decide +kernel
theorem d_P_become_43 : decode b_P_become 43 = .ok (.getfield 23, 3) := by decide +kernel
theorem d_P_become_46 : decode b_P_become 46 = .ok (.invokevirtual 36, 3) := by decide +kernel
theorem d_P_become_49 : decode b_P_become 49 = .ok (.aload_n 0, 1) := by decide +kernel
theorem d_P_become_50 : decode b_P_become 50 = .ok (.getfield 26, 3) := by decide +kernel
theorem d_P_become_53 : decode b_P_become 53 = .ok (.aload_n 1, 1) := by decide +kernel
theorem d_P_become_54 : decode b_P_become 54 = .ok (.getfield 26, 3) := by decide +kernel
theorem d_P_become_57 : decode b_P_become 57 = .ok (.invokevirtual 36, 3) := by decide +kernel
theorem d_P_become_60 : decode b_P_become 60 = .ok (.aload_n 0, 1) := by decide +kernel
theorem d_P_become_61 : decode b_P_become 61 = .ok (.getfield 29, 3) := by decide +kernel
theorem d_P_become_64 : decode b_P_become 64 = .ok (.aload_n 1, 1) := by decide +kernel
theorem d_P_become_65 : decode b_P_become 65 = .ok (.getfield 29, 3) := by decide +kernel
theorem d_P_become_68 : decode b_P_become 68 = .ok (.invokevirtual 36, 3) := by decide +kernel
theorem d_P_become_71 : decode b_P_become 71 = .ok (.return_, 1) := by decide +kernel
theorem d_P_isLike_0 : decode b_P_isLike 0 = .ok (.aload_n 0, 1) := by decide +kernel
theorem d_P_isLike_1 : decode b_P_isLike 1 = .ok (.getfield 32, 3) := by decide +kernel
theorem d_P_isLike_4 : decode b_P_isLike 4 = .ok (.ifCond .ne 10, 3) := by decide +kernel
theorem d_P_isLike_7 : decode b_P_isLike 7 = .ok (.aload_n 1, 1) := by decide +kernel
theorem d_P_isLike_8 : decode b_P_isLike 8 = .ok (.getfield 32, 3) := by decide +kernel
theorem d_P_isLike_11 : decode b_P_isLike 11 = .ok (.ifCond .eq 20, 3) := by decide +kernel
theorem d_P_isLike_14 : decode b_P_isLike 14 = .ok (.aload_n 0, 1) := by decide +kernel
theorem d_P_isLike_15 : decode b_P_isLike 15 = .ok (.getfield 32, 3) := by decide +kernel
theorem d_P_isLike_18 : decode b_P_isLike 18 = .ok (.aload_n 1, 1) := by decide +kernel
theorem d_P_isLike_19 : decode b_P_isLike 19 = .ok (.getfield 32, 3) := by decide +kernel
theorem d_P_isLike_22 : decode b_P_isLike 22 = .ok (.if_icmp .ne 7, 3) := by decide +kernel
theorem d_P_isLike_25 : decode b_P_isLike 25 = .ok (.iconst 1, 1) := by decide +kernel
theorem d_P_isLike_26 : decode b_P_isLike 26 = .ok (.goto 4, 3) := by decide +kernel
theorem d_P_isLike_29 : decode b_P_isLike 29 = .ok (.iconst 0, 1) := by decide +kernel
theorem d_P_isLike_30 : decode b_P_isLike 30 = .ok (.ireturn, 1) := by decide +kernel
theorem d_P_isLike_31 : decode b_P_isLike 31 = .ok (.aload_n 0, 1) := by decide +kernel
theorem d_P_isLike_32 : decode b_P_isLike 32 = .ok (.getfield 14, 3) := by decide +kernel
theorem d_P_isLike_35 : decode b_P_isLike 35 = .ok (.aload_n 1, 1) := by decide +kernel
theorem d_P_isLike_36 : decode b_P_isLike 36 = .ok (.getfield 14, 3) := by decide +kernel
theorem d_P_isLike_39 : decode b_P_isLike 39 = .ok (.invokevirtual 40, 3) := by decide +kernel
theorem d_P_isLike_42 : decode b_P_isLike 42 = .ok (.ifCond .eq 35, 3) := by decide +kernel
theorem d_P_isLike_45 : decode b_P_isLike 45 = .ok (.aload_n 0, 1) := by decide +kernel
theorem d_P_isLike_46 : decode b_P_isLike 46 = .ok (.getfield 20, 3) := by decide +kernel
theorem d_P_isLike_49 : decode b_P_isLike 49 = .ok (.aload_n 1, 1) := by decide +kernel
theorem d_P_isLike_50 : decode b_P_isLike 50 = .ok (.getfield 20, 3) := by decide +kernel
theorem d_P_isLike_53 : decode b_P_isLike 53 = .ok (.invokevirtual 40, 3) := by decide +kernel
theorem d_P_isLike_56 : decode b_P_isLike 56 = .ok (.ifCond .eq 21, 3) := by decide +kernel
theorem d_P_isLike_59 : decode b_P_isLike 59 = .ok (.aload_n 0, 1) := by decide +kernel
theorem d_P_isLike_60 : decode b_P_isLike 60 = .ok (.getfield 23, 3) := by decide +kernel
theorem d_P_isLike_63 : decode b_P_isLike 63 = .ok (.aload_n 1, 1) := by decide +kernel
theorem d_P_isLike_64 : decode b_P_isLike 64 = .ok (.getfield 23, 3) := by decide +kernel
theorem d_P_isLike_67 : decode b_P_isLike 67 = .ok (.invokevirtual 40, 3) := by decide +kernel
theorem d_P_isLike_70 : decode b_P_isLike 70 = .ok (.ifCond .eq 7, 3) := by decide +kernel
theorem d_P_isLike_73 : decode b_P_isLike 73 = .ok (.iconst 1, 1) := by decide +kernel
theorem d_P_isLike_74 : decode b_P_isLike 74 = .ok (.goto 4, 3) := by decide +kernel
theorem d_P_isLike_77 : decode b_P_isLike 77 = .ok (.iconst 0, 1) := by decide +kernel
theorem d_P_isLike_78 : decode b_P_isLike 78 = .ok (.ireturn, 1) := by decide +kernel
theorem d_P_number_0 : decode b_P_number 0 = .ok (.iload_n 1, 1) := by decide +kernel
theorem d_P_number_1 : decode b_P_number 1 = .ok (.tableswitch 42 0 2 #[27, 32, 37], 27) := by decide +kernel
theorem d_P_number_28 : decode b_P_number 28 = .ok (.aload_n 0, 1) := by decide +kernel
theorem d_P_number_29 : decode b_P_number 29 = .ok (.getfield 14, 3) := by decide +kernel
theorem d_P_number_32 : decode b_P_number 32 = .ok (.areturn, 1) := by decide +kernel
theorem d_P_number_33 : decode b_P_number 33 = .ok (.aload_n 0, 1) := by decide +kernel
theorem d_P_number_34 : decode b_P_number 34 = .ok (.getfield 26, 3) := by decide +kernel
theorem d_P_number_37 : decode b_P_number 37 = .ok (.areturn, 1) := by decide +kernel
theorem d_P_number_38 : decode b_P_number 38 = .ok (.aload_n 0, 1) := by decide +kernel
theorem d_P_number_39 : decode b_P_number 39 = .ok (.getfield 20, 3) := by decide +kernel
theorem d_P_number_42 : decode b_P_number 42 = .ok (.areturn, 1) := by decide +kernel
theorem d_P_number_43 : decode b_P_number 43 = .ok (.aload_n 0, 1) := by decide +kernel
theorem d_P_number_44 : decode b_P_number 44 = .ok (.getfield 29, 3) := by decide +kernel
theorem d_P_number_47 : decode b_P_number 47 = .ok (.areturn, 1) := by decide +kernel
theorem d_P_isWiderThan_0 : decode b_P_isWiderThan 0 = .ok (.aload_n 0, 1) := by decide +kernel
theorem d_P_isWiderThan_1 : decode b_P_isWiderThan 1 = .ok (.getfield 32, 3) := by decide +kernel
theorem d_P_isWiderThan_4 : decode b_P_isWiderThan 4 = .ok (.ifCond .ne 29, 3) := by decide +kernel
theorem d_P_isWiderThan_7 : decode b_P_isWiderThan 7 = .ok (.aload_n 0, 1) := by decide +kernel
theorem d_P_isWiderThan_8 : decode b_P_isWiderThan 8 = .ok (.getfield 14, 3) := by decide +kernel
theorem d_P_isWiderThan_11 : decode b_P_isWiderThan 11 = .ok (.invokevirtual 44, 3) := by decide +kernel
theorem d_P_isWiderThan_14 : decode b_P_isWiderThan 14 = .ok (.iload_n 1, 1) := by decide +kernel
theorem d_P_isWiderThan_15 : decode b_P_isWiderThan 15 = .ok (.if_icmp .gt 14, 3) := by decide +kernel
theorem d_P_isWiderThan_18 : decode b_P_isWiderThan 18 = .ok (.aload_n 0, 1) := by decide +kernel
theorem d_P_isWiderThan_19 : decode b_P_isWiderThan 19 = .ok (.getfield 26, 3) := by decide +kernel
theorem d_P_isWiderThan_22 : decode b_P_isWiderThan 22 = .ok (.invokevirtual 44, 3) := by decide +kernel
theorem d_P_isWiderThan_25 : decode b_P_isWiderThan 25 = .ok (.iload_n 1, 1) := by decide +kernel
theorem d_P_isWiderThan_26 : decode b_P_isWiderThan 26 = .ok (.if_icmp .le 7, 3) := by decide +kernel
theorem d_P_isWiderThan_29 : decode b_P_isWiderThan 29 = .ok (.iconst 1, 1) := by decide +kernel
theorem d_P_isWiderThan_30 : decode b_P_isWiderThan 30 = .ok (.goto 4, 3) := by decide +kernel
theorem d_P_isWiderThan_33 : decode b_P_isWiderThan 33 = .ok (.iconst 0, 1) := by decide +kernel
theorem d_P_isWiderThan_34 : decode b_P_isWiderThan 34 = .ok (.ireturn, 1) := by decide +kernel
theorem d_P_isLongerThan_0 : decode b_P_isLongerThan 0 = .ok (.aload_n 0, 1) := by decide +kernel
theorem d_P_isLongerThan_1 : decode b_P_isLongerThan 1 = .ok (.iload_n 1, 1) := by decide +kernel
theorem d_P_isLongerThan_2 : decode b_P_isLongerThan 2 = .ok (.invokevirtual 48, 3) := by decide +kernel
theorem d_P_isLongerThan_5 : decode b_P_isLongerThan 5 = .ok (.ifCond .ne 32, 3) := by decide +kernel
theorem d_P_isLongerThan_8 : decode b_P_isLongerThan 8 = .ok (.aload_n 0, 1) := by decide +kernel
theorem d_P_isLongerThan_9 : decode b_P_isLongerThan 9 = .ok (.getfield 32, 3) := by decide +kernel
theorem d_P_isLongerThan_12 : decode b_P_isLongerThan 12 = .ok (.ifCond .ne 29, 3) := by decide +kernel
theorem d_P_isLongerThan_15 : decode b_P_isLongerThan 15 = .ok (.aload_n 0, 1) := by decide +kernel
theorem d_P_isLongerThan_16 : decode b_P_isLongerThan 16 = .ok (.getfield 20, 3) := by decide +kernel
theorem d_P_isLongerThan_19 : decode b_P_isLongerThan 19 = .ok (.invokevirtual 44, 3) := by decide +kernel
theorem d_P_isLongerThan_22 : decode b_P_isLongerThan 22 = .ok (.iload_n 1, 1) := by decide +kernel
theorem d_P_isLongerThan_23 : decode b_P_isLongerThan 23 = .ok (.if_icmp .gt 14, 3) := by decide +kernel
theorem d_P_isLongerThan_26 : decode b_P_isLongerThan 26 = .ok (.aload_n 0, 1) := by decide +kernel
theorem d_P_isLongerThan_27 : decode b_P_isLongerThan 27 = .ok (.getfield 29, 3) := by decide +kernel
theorem d_P_isLongerThan_30 : decode b_P_isLongerThan 30 = .ok (.invokevirtual 44, 3) := by decide +kernel
theorem d_P_isLongerThan_33 : decode b_P_isLongerThan 33 = .ok (.iload_n 1, 1) := by decide +kernel
theorem d_P_isLongerThan_34 : decode b_P_isLongerThan 34 = .ok (.if_icmp .le 7, 3) := by decide +kernel
theorem d_P_isLongerThan_37 : decode b_P_isLongerThan 37 = .ok (.iconst 1, 1) := by decide +kernel
theorem d_P_isLongerThan_38 : decode b_P_isLongerThan 38 = .ok (.goto 4, 3) := by decide +kernel
theorem d_P_isLongerThan_41 : decode b_P_isLongerThan 41 = .ok (.iconst 0, 1) := by decide +kernel
theorem d_P_isLongerThan_42 : decode b_P_isLongerThan 42 = .ok (.ireturn, 1) := by decide +kernel
