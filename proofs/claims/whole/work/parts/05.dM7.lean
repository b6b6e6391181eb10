theorem d_M_times_1 : decode b_M_times 1 = .ok (.iconst 0, 1) := by decide +kernel
theorem d_M_times_2 : decode b_M_times 2 = .ok (.putfield 30, 3) := by decide +kernel
theorem d_M_times_5 : decode b_M_times 5 = .ok (.iload_n 1, 1) := by decide +kernel
theorem d_M_times_6 : decode b_M_times 6 = .ok (.invokestatic 95, 3) := by decide +kernel
theorem d_M_times_9 : decode b_M_times 9 = .ok (.ifCond .eq 22, 3) := by decide +kernel
theorem d_M_times_12 : decode b_M_times 12 = .ok (.iload_n 3, 1) := by decide +kernel
theorem d_M_times_13 : decode b_M_times 13 = .ok (.invokestatic 95, 3) := by decide +kernel
theorem d_M_times_16 : decode b_M_times 16 = .ok (.ifCond .eq 15, 3) := by decide +kernel
theorem d_M_times_19 : decode b_M_times 19 = .ok (.iload_n 2, 1) := by decide +kernel
theorem d_M_times_20 : decode b_M_times 20 = .ok (.ldc 147, 2) := by decide +kernel
theorem d_M_times_22 : decode b_M_times 22 = .ok (.if_icmp .lt 9, 3) := by decide +kernel
theorem d_M_times_25 : decode b_M_times 25 = .ok (.iload_n 2, 1) := by decide +kernel
theorem d_M_times_26 : decode b_M_times 26 = .ok (.ldc 148, 2) := by decide +kernel
theorem d_M_times_28 : decode b_M_times 28 = .ok (.if_icmp .le 5, 3) := by decide +kernel
theorem d_M_times_31 : decode b_M_times 31 = .ok (.iconst (-1), 1) := by decide +kernel
theorem d_M_times_32 : decode b_M_times 32 = .ok (.ireturn, 1) := by decide +kernel
theorem d_M_times_33 : decode b_M_times 33 = .ok (.iload_n 2, 1) := by decide +kernel
theorem d_M_times_34 : decode b_M_times 34 = .ok (.ifCond .ge 8, 3) := by decide +kernel
theorem d_M_times_37 : decode b_M_times 37 = .ok (.iload_n 2, 1) := by decide +kernel
theorem d_M_times_38 : decode b_M_times 38 = .ok (.ineg, 1) := by decide +kernel
theorem d_M_times_39 : decode b_M_times 39 = .ok (.goto 4, 3) := by decide +kernel
theorem d_M_times_42 : decode b_M_times 42 = .ok (.iload_n 2, 1) := by decide +kernel
theorem d_M_times_43 : decode b_M_times 43 = .ok (.istore 4, 2) := by decide +kernel
theorem d_M_times_45 : decode b_M_times 45 = .ok (.ldc 149, 2) := by decide +kernel
theorem d_M_times_47 : decode b_M_times 47 = .ok (.istore 5, 2) := by decide +kernel
theorem d_M_times_49 : decode b_M_times 49 = .ok (.aload_n 0, 1) := by decide +kernel
theorem d_M_times_50 : decode b_M_times 50 = .ok (.getfield 19, 3) := by decide +kernel
theorem d_M_times_53 : decode b_M_times 53 = .ok (.bipush 36, 2) := by decide +kernel
theorem d_M_times_55 : decode b_M_times 55 = .ok (.iconst 1, 1) := by decide +kernel
theorem d_M_times_56 : decode b_M_times 56 = .ok (.bastore, 1) := by decide +kernel
theorem d_M_times_57 : decode b_M_times 57 = .ok (.iload 5, 2) := by decide +kernel
theorem d_M_times_59 : decode b_M_times 59 = .ok (.ifCond .le 79, 3) := by decide +kernel
theorem d_M_times_62 : decode b_M_times 62 = .ok (.aload_n 0, 1) := by decide +kernel
theorem d_M_times_63 : decode b_M_times 63 = .ok (.bipush 36, 2) := by decide +kernel
theorem d_M_times_65 : decode b_M_times 65 = .ok (.bipush 30, 2) := by decide +kernel
theorem d_M_times_67 : decode b_M_times 67 = .ok (.invokevirtual 112, 3) := by decide +kernel
theorem d_M_times_70 : decode b_M_times 70 = .ok (.aload_n 0, 1) := by decide +kernel
theorem d_M_times_71 : decode b_M_times 71 = .ok (.bipush 36, 2) := by decide +kernel
theorem d_M_times_73 : decode b_M_times 73 = .ok (.bipush 33, 2) := by decide +kernel
theorem d_M_times_75 : decode b_M_times 75 = .ok (.invokevirtual 112, 3) := by decide +kernel
theorem d_M_times_78 : decode b_M_times 78 = .ok (.aload_n 0, 1) := by decide +kernel
theorem d_M_times_79 : decode b_M_times 79 = .ok (.invokevirtual 137, 3) := by decide +kernel
theorem d_M_times_82 : decode b_M_times 82 = .ok (.aload_n 0, 1) := by decide +kernel
theorem d_M_times_83 : decode b_M_times 83 = .ok (.invokevirtual 150, 3) := by decide +kernel
theorem d_M_times_86 : decode b_M_times 86 = .ok (.ifCond .eq 5, 3) := by decide +kernel
theorem d_M_times_89 : decode b_M_times 89 = .ok (.iconst 0, 1) := by decide +kernel
theorem d_M_times_90 : decode b_M_times 90 = .ok (.ireturn, 1) := by decide +kernel
theorem d_M_times_91 : decode b_M_times 91 = .ok (.iload 4, 2) := by decide +kernel
theorem d_M_times_93 : decode b_M_times 93 = .ok (.iload 5, 2) := by decide +kernel
theorem d_M_times_95 : decode b_M_times 95 = .ok (.iand, 1) := by decide +kernel
theorem d_M_times_96 : decode b_M_times 96 = .ok (.ifCond .eq 33, 3) := by decide +kernel
theorem d_M_times_99 : decode b_M_times 99 = .ok (.aload_n 0, 1) := by decide +kernel
theorem d_M_times_100 : decode b_M_times 100 = .ok (.bipush 36, 2) := by decide +kernel
theorem d_M_times_102 : decode b_M_times 102 = .ok (.bipush 30, 2) := by decide +kernel
theorem d_M_times_104 : decode b_M_times 104 = .ok (.invokevirtual 112, 3) := by decide +kernel
theorem d_M_times_107 : decode b_M_times 107 = .ok (.aload_n 0, 1) := by decide +kernel
theorem d_M_times_108 : decode b_M_times 108 = .ok (.iconst 3, 1) := by decide +kernel
theorem d_M_times_109 : decode b_M_times 109 = .ok (.iload_n 1, 1) := by decide +kernel
theorem d_M_times_110 : decode b_M_times 110 = .ok (.imul, 1) := by decide +kernel
theorem d_M_times_111 : decode b_M_times 111 = .ok (.bipush 33, 2) := by decide +kernel
theorem d_M_times_113 : decode b_M_times 113 = .ok (.invokevirtual 112, 3) := by decide +kernel
theorem d_M_times_116 : decode b_M_times 116 = .ok (.aload_n 0, 1) := by decide +kernel
theorem d_M_times_117 : decode b_M_times 117 = .ok (.invokevirtual 137, 3) := by decide +kernel
theorem d_M_times_120 : decode b_M_times 120 = .ok (.aload_n 0, 1) := by decide +kernel
theorem d_M_times_121 : decode b_M_times 121 = .ok (.invokevirtual 150, 3) := by decide +kernel
theorem d_M_times_124 : decode b_M_times 124 = .ok (.ifCond .eq 5, 3) := by decide +kernel
theorem d_M_times_127 : decode b_M_times 127 = .ok (.iconst 0, 1) := by decide +kernel
theorem d_M_times_128 : decode b_M_times 128 = .ok (.ireturn, 1) := by decide +kernel
theorem d_M_times_129 : decode b_M_times 129 = .ok (.iload 5, 2) := by decide +kernel
theorem d_M_times_131 : decode b_M_times 131 = .ok (.iconst 1, 1) := by decide +kernel
theorem d_M_times_132 : decode b_M_times 132 = .ok (.ishr, 1) := by decide +kernel
theorem d_M_times_133 : decode b_M_times 133 = .ok (.istore 5, 2) := by decide +kernel
theorem d_M_times_135 : decode b_M_times 135 = .ok (.goto (-78), 3) := by decide +kernel
theorem d_M_times_138 : decode b_M_times 138 = .ok (.iload_n 2, 1) := by decide +kernel
theorem d_M_times_139 : decode b_M_times 139 = .ok (.ifCond .ge 9, 3) := by decide +kernel
theorem d_M_times_142 : decode b_M_times 142 = .ok (.aload_n 0, 1) := by decide +kernel
theorem d_M_times_143 : decode b_M_times 143 = .ok (.bipush 36, 2) := by decide +kernel
theorem d_M_times_145 : decode b_M_times 145 = .ok (.invokevirtual 143, 3) := by decide +kernel
theorem d_M_times_148 : decode b_M_times 148 = .ok (.aload_n 0, 1) := by decide +kernel
theorem d_M_times_149 : decode b_M_times 149 = .ok (.iload_n 3, 1) := by decide +kernel
theorem d_M_times_150 : decode b_M_times 150 = .ok (.invokevirtual 140, 3) := by decide +kernel
theorem d_M_times_153 : decode b_M_times 153 = .ok (.ireturn, 1) := by decide +kernel
theorem d_M_order_0 : decode b_M_order 0 = .ok (.aload_n 0, 1) := by decide +kernel
theorem d_M_order_1 : decode b_M_order 1 = .ok (.iconst 0, 1) := by decide +kernel
theorem d_M_order_2 : decode b_M_order 2 = .ok (.putfield 30, 3) := by decide +kernel
theorem d_M_order_5 : decode b_M_order 5 = .ok (.iload_n 1, 1) := by decide +kernel
theorem d_M_order_6 : decode b_M_order 6 = .ok (.invokestatic 95, 3) := by decide +kernel
theorem d_M_order_9 : decode b_M_order 9 = .ok (.ifCond .ne 5, 3) := by decide +kernel
theorem d_M_order_12 : decode b_M_order 12 = .ok (.iconst (-1), 1) := by decide +kernel
theorem d_M_order_13 : decode b_M_order 13 = .ok (.ireturn, 1) := by decide +kernel
theorem d_M_order_14 : decode b_M_order 14 = .ok (.aload_n 0, 1) := by decide +kernel
theorem d_M_order_15 : decode b_M_order 15 = .ok (.iconst 3, 1) := by decide +kernel
theorem d_M_order_16 : decode b_M_order 16 = .ok (.iload_n 1, 1) := by decide +kernel
theorem d_M_order_17 : decode b_M_order 17 = .ok (.imul, 1) := by decide +kernel
theorem d_M_order_18 : decode b_M_order 18 = .ok (.bipush 36, 2) := by decide +kernel
theorem d_M_order_20 : decode b_M_order 20 = .ok (.invokevirtual 112, 3) := by decide +kernel
theorem d_M_order_23 : decode b_M_order 23 = .ok (.iconst 1, 1) := by decide +kernel
theorem d_M_order_24 : decode b_M_order 24 = .ok (.istore_n 2, 1) := by decide +kernel
theorem d_M_order_25 : decode b_M_order 25 = .ok (.iload_n 2, 1) := by decide +kernel
theorem d_M_order_26 : decode b_M_order 26 = .ok (.bipush 12, 2) := by decide +kernel
theorem d_M_order_28 : decode b_M_order 28 = .ok (.if_icmp .gt 67, 3) := by decide +kernel
theorem d_M_order_31 : decode b_M_order 31 = .ok (.aload_n 0, 1) := by decide +kernel
theorem d_M_order_32 : decode b_M_order 32 = .ok (.getfield 19, 3) := by decide +kernel
theorem d_M_order_35 : decode b_M_order 35 = .ok (.bipush 36, 2) := by decide +kernel
theorem d_M_order_37 : decode b_M_order 37 = .ok (.baload, 1) := by decide +kernel
theorem d_M_order_38 : decode b_M_order 38 = .ok (.ifCond .eq 5, 3) := by decide +kernel
theorem d_M_order_41 : decode b_M_order 41 = .ok (.iload_n 2, 1) := by decide +kernel
theorem d_M_order_42 : decode b_M_order 42 = .ok (.ireturn, 1) := by decide +kernel
theorem d_M_order_43 : decode b_M_order 43 = .ok (.aload_n 0, 1) := by decide +kernel
theorem d_M_order_44 : decode b_M_order 44 = .ok (.getfield 13, 3) := by decide +kernel
theorem d_M_order_47 : decode b_M_order 47 = .ok (.bipush 38, 2) := by decide +kernel
theorem d_M_order_49 : decode b_M_order 49 = .ok (.iaload, 1) := by decide +kernel
theorem d_M_order_50 : decode b_M_order 50 = .ok (.iconst 1, 1) := by decide +kernel
theorem d_M_order_51 : decode b_M_order 51 = .ok (.if_icmp .gt 15, 3) := by decide +kernel
theorem d_M_order_54 : decode b_M_order 54 = .ok (.aload_n 0, 1) := by decide +kernel
theorem d_M_order_55 : decode b_M_order 55 = .ok (.getfield 9, 3) := by decide +kernel
theorem d_M_order_58 : decode b_M_order 58 = .ok (.sipush 17480, 3) := by decide +kernel
theorem d_M_order_61 : decode b_M_order 61 = .ok (.iaload, 1) := by decide +kernel
theorem d_M_order_62 : decode b_M_order 62 = .ok (.iconst 2, 1) := by decide +kernel
theorem d_M_order_63 : decode b_M_order 63 = .ok (.if_icmp .le 5, 3) := by decide +kernel
theorem d_M_order_66 : decode b_M_order 66 = .ok (.iconst 0, 1) := by decide +kernel
theorem d_M_order_67 : decode b_M_order 67 = .ok (.ireturn, 1) := by decide +kernel
theorem d_M_order_68 : decode b_M_order 68 = .ok (.aload_n 0, 1) := by decide +kernel
theorem d_M_order_69 : decode b_M_order 69 = .ok (.bipush 36, 2) := by decide +kernel
theorem d_M_order_71 : decode b_M_order 71 = .ok (.bipush 30, 2) := by decide +kernel
theorem d_M_order_73 : decode b_M_order 73 = .ok (.invokevirtual 112, 3) := by decide +kernel
theorem d_M_order_76 : decode b_M_order 76 = .ok (.aload_n 0, 1) := by decide +kernel
theorem d_M_order_77 : decode b_M_order 77 = .ok (.iconst 3, 1) := by decide +kernel
theorem d_M_order_78 : decode b_M_order 78 = .ok (.iload_n 1, 1) := by decide +kernel
theorem d_M_order_79 : decode b_M_order 79 = .ok (.imul, 1) := by decide +kernel
theorem d_M_order_80 : decode b_M_order 80 = .ok (.bipush 33, 2) := by decide +kernel
theorem d_M_order_82 : decode b_M_order 82 = .ok (.invokevirtual 112, 3) := by decide +kernel
theorem d_M_order_85 : decode b_M_order 85 = .ok (.aload_n 0, 1) := by decide +kernel
theorem d_M_order_86 : decode b_M_order 86 = .ok (.invokevirtual 137, 3) := by decide +kernel
theorem d_M_order_89 : decode b_M_order 89 = .ok (.iinc 2 1, 3) := by decide +kernel
theorem d_M_order_92 : decode b_M_order 92 = .ok (.goto (-67), 3) := by decide +kernel
theorem d_M_order_95 : decode b_M_order 95 = .ok (.iconst 0, 1) := by decide +kernel
theorem d_M_order_96 : decode b_M_order 96 = .ok (.ireturn, 1) := by decide +kernel
theorem d_M_isNone_0 : decode b_M_isNone 0 = .ok (.aload_n 0, 1) := by decide +kernel
theorem d_M_isNone_1 : decode b_M_isNone 1 = .ok (.iconst 0, 1) := by decide +kernel
theorem d_M_isNone_2 : decode b_M_isNone 2 = .ok (.putfield 30, 3) := by decide +kernel
theorem d_M_isNone_5 : decode b_M_isNone 5 = .ok (.iload_n 1, 1) := by decide +kernel
theorem d_M_isNone_6 : decode b_M_isNone 6 = .ok (.invokestatic 95, 3) := by decide +kernel
theorem d_M_isNone_9 : decode b_M_isNone 9 = .ok (.ifCond .eq 18, 3) := by decide +kernel
theorem d_M_isNone_12 : decode b_M_isNone 12 = .ok (.aload_n 0, 1) := by decide +kernel
theorem d_M_isNone_13 : decode b_M_isNone 13 = .ok (.getfield 19, 3) := by decide +kernel
theorem d_M_isNone_16 : decode b_M_isNone 16 = .ok (.iconst 3, 1) := by decide +kernel
theorem d_M_isNone_17 : decode b_M_isNone 17 = .ok (.iload_n 1, 1) := by decide +kernel
theorem d_M_isNone_18 : decode b_M_isNone 18 = .ok (.imul, 1) := by decide +kernel
theorem d_M_isNone_19 : decode b_M_isNone 19 = .ok (.baload, 1) := by decide +kernel
theorem d_M_isNone_20 : decode b_M_isNone 20 = .ok (.ifCond .eq 7, 3) := by decide +kernel
theorem d_M_isNone_23 : decode b_M_isNone 23 = .ok (.iconst 1, 1) := by decide +kernel
theorem d_M_isNone_24 : decode b_M_isNone 24 = .ok (.goto 4, 3) := by decide +kernel
theorem d_M_isNone_27 : decode b_M_isNone 27 = .ok (.iconst 0, 1) := by decide +kernel
theorem d_M_isNone_28 : decode b_M_isNone 28 = .ok (.ireturn, 1) := by decide +kernel
theorem d_M_same_0 : decode b_M_same 0 = .ok (.aload_n 0, 1) := by decide +kernel
theorem d_M_same_1 : decode b_M_same 1 = .ok (.iconst 0, 1) := by decide +kernel
theorem d_M_same_2 : decode b_M_same 2 = .ok (.putfield 30, 3) := by decide +kernel
theorem d_M_same_5 : decode b_M_same 5 = .ok (.iload_n 1, 1) := by decide +kernel
theorem d_M_same_6 : decode b_M_same 6 = .ok (.invokestatic 95, 3) := by decide +kernel
theorem d_M_same_9 : decode b_M_same 9 = .ok (.ifCond .eq 10, 3) := by decide +kernel
theorem d_M_same_12 : decode b_M_same 12 = .ok (.iload_n 2, 1) := by decide +kernel
theorem d_M_same_13 : decode b_M_same 13 = .ok (.invokestatic 95, 3) := by decide +kernel
theorem d_M_same_16 : decode b_M_same 16 = .ok (.ifCond .ne 5, 3) := by decide +kernel
theorem d_M_same_19 : decode b_M_same 19 = .ok (.iconst 0, 1) := by decide +kernel
theorem d_M_same_20 : decode b_M_same 20 = .ok (.ireturn, 1) := by decide +kernel
theorem d_M_same_21 : decode b_M_same 21 = .ok (.aload_n 0, 1) := by decide +kernel
theorem d_M_same_22 : decode b_M_same 22 = .ok (.getfield 19, 3) := by decide +kernel
theorem d_M_same_25 : decode b_M_same 25 = .ok (.iconst 3, 1) := by decide +kernel
theorem d_M_same_26 : decode b_M_same 26 = .ok (.iload_n 1, 1) := by decide +kernel
theorem d_M_same_27 : decode b_M_same 27 = .ok (.imul, 1) := by decide +kernel
theorem d_M_same_28 : decode b_M_same 28 = .ok (.baload, 1) := by decide +kernel
theorem d_M_same_29 : decode b_M_same 29 = .ok (.ifCond .ne 14, 3) := by decide +kernel
theorem d_M_same_32 : decode b_M_same 32 = .ok (.aload_n 0, 1) := by decide +kernel
theorem d_M_same_33 : decode b_M_same 33 = .ok (.getfield 19, 3) := by decide +kernel
theorem d_M_same_36 : decode b_M_same 36 = .ok (.iconst 3, 1) := by decide +kernel
theorem d_M_same_37 : decode b_M_same 37 = .ok (.iload_n 2, 1) := by decide +kernel
theorem d_M_same_38 : decode b_M_same 38 = .ok (.imul, 1) := by decide +kernel
theorem d_M_same_39 : decode b_M_same 39 = .ok (.baload, 1) := by decide +kernel
theorem d_M_same_40 : decode b_M_same 40 = .ok (.ifCond .eq 31, 3) := by decide +kernel
theorem d_M_same_43 : decode b_M_same 43 = .ok (.aload_n 0, 1) := by decide +kernel
theorem d_M_same_44 : decode b_M_same 44 = .ok (.getfield 19, 3) := by decide +kernel
theorem d_M_same_47 : decode b_M_same 47 = .ok (.iconst 3, 1) := by decide +kernel
theorem d_M_same_48 : decode b_M_same 48 = .ok (.iload_n 1, 1) := by decide +kernel
theorem d_M_same_49 : decode b_M_same 49 = .ok (.imul, 1) := by decide +kernel
theorem d_M_same_50 : decode b_M_same 50 = .ok (.baload, 1) := by decide +kernel
theorem d_M_same_51 : decode b_M_same 51 = .ok (.ifCond .eq 18, 3) := by decide +kernel
theorem d_M_same_54 : decode b_M_same 54 = .ok (.aload_n 0, 1) := by decide +kernel
theorem d_M_same_55 : decode b_M_same 55 = .ok (.getfield 19, 3) := by decide +kernel
theorem d_M_same_58 : decode b_M_same 58 = .ok (.iconst 3, 1) := by decide +kernel
theorem d_M_same_59 : decode b_M_same 59 = .ok (.iload_n 2, 1) := by decide +kernel
theorem d_M_same_60 : decode b_M_same 60 = .ok (.imul, 1) := by decide +kernel
theorem d_M_same_61 : decode b_M_same 61 = .ok (.baload, 1) := by decide +kernel
theorem d_M_same_62 : decode b_M_same 62 = .ok (.ifCond .eq 7, 3) := by decide +kernel
theorem d_M_same_65 : decode b_M_same 65 = .ok (.iconst 1, 1) := by decide +kernel
theorem d_M_same_66 : decode b_M_same 66 = .ok (.goto 4, 3) := by decide +kernel
theorem d_M_same_69 : decode b_M_same 69 = .ok (.iconst 0, 1) := by decide +kernel
theorem d_M_same_70 : decode b_M_same 70 = .ok (.ireturn, 1) := by decide +kernel
theorem d_M_same_71 : decode b_M_same 71 = .ok (.aload_n 0, 1) := by decide +kernel
theorem d_M_same_72 : decode b_M_same 72 = .ok (.iconst 3, 1) := by decide +kernel
theorem d_M_same_73 : decode b_M_same 73 = .ok (.iload_n 1, 1) := by decide +kernel
theorem d_M_same_74 : decode b_M_same 74 = .ok (.imul, 1) := by decide +kernel
theorem d_M_same_75 : decode b_M_same 75 = .ok (.iconst 3, 1) := by decide +kernel
theorem d_M_same_76 : decode b_M_same 76 = .ok (.iload_n 2, 1) := by decide +kernel
theorem d_M_same_77 : decode b_M_same 77 = .ok (.imul, 1) := by decide +kernel
theorem d_M_same_78 : decode b_M_same 78 = .ok (.invokevirtual 105, 3) := by decide +kernel
theorem d_M_same_81 : decode b_M_same 81 = .ok (.ifCond .eq 41, 3) := by decide +kernel
theorem d_M_same_84 : decode b_M_same 84 = .ok (.aload_n 0, 1) := by decide +kernel
theorem d_M_same_85 : decode b_M_same 85 = .ok (.iconst 3, 1) := by decide +kernel
theorem d_M_same_86 : decode b_M_same 86 = .ok (.iload_n 1, 1) := by decide +kernel
theorem d_M_same_87 : decode b_M_same 87 = .ok (.imul, 1) := by decide +kernel
theorem d_M_same_88 : decode b_M_same 88 = .ok (.iconst 1, 1) := by decide +kernel
theorem d_M_same_89 : decode b_M_same 89 = .ok (.iadd, 1) := by decide +kernel
theorem d_M_same_90 : decode b_M_same 90 = .ok (.iconst 3, 1) := by decide +kernel
theorem d_M_same_91 : decode b_M_same 91 = .ok (.iload_n 2, 1) := by decide +kernel
theorem d_M_same_92 : decode b_M_same 92 = .ok (.imul, 1) := by decide +kernel
theorem d_M_same_93 : decode b_M_same 93 = .ok (.iconst 1, 1) := by decide +kernel
theorem d_M_same_94 : decode b_M_same 94 = .ok (.iadd, 1) := by decide +kernel
theorem d_M_same_95 : decode b_M_same 95 = .ok (.invokevirtual 105, 3) := by decide +kernel
theorem d_M_same_98 : decode b_M_same 98 = .ok (.ifCond .eq 24, 3) := by decide +kernel
theorem d_M_same_101 : decode b_M_same 101 = .ok (.aload_n 0, 1) := by decide +kernel
theorem d_M_same_102 : decode b_M_same 102 = .ok (.iconst 3, 1) := by decide +kernel
theorem d_M_same_103 : decode b_M_same 103 = .ok (.iload_n 1, 1) := by decide +kernel
theorem d_M_same_104 : decode b_M_same 104 = .ok (.imul, 1) := by decide +kernel
theorem d_M_same_105 : decode b_M_same 105 = .ok (.iconst 2, 1) := by decide +kernel
theorem d_M_same_106 : decode b_M_same 106 = .ok (.iadd, 1) := by decide +kernel
theorem d_M_same_107 : decode b_M_same 107 = .ok (.iconst 3, 1) := by decide +kernel
theorem d_M_same_108 : decode b_M_same 108 = .ok (.iload_n 2, 1) := by decide +kernel
theorem d_M_same_109 : decode b_M_same 109 = .ok (.imul, 1) := by decide +kernel
theorem d_M_same_110 : decode b_M_same 110 = .ok (.iconst 2, 1) := by decide +kernel
theorem d_M_same_111 : decode b_M_same 111 = .ok (.iadd, 1) := by decide +kernel
theorem d_M_same_112 : decode b_M_same 112 = .ok (.invokevirtual 105, 3) := by decide +kernel
theorem d_M_same_115 : decode b_M_same 115 = .ok (.ifCond .eq 7, 3) := by decide +kernel
theorem d_M_same_118 : decode b_M_same 118 = .ok (.iconst 1, 1) := by decide +kernel
theorem d_M_same_119 : decode b_M_same 119 = .ok (.goto 4, 3) := by decide +kernel
theorem d_M_same_122 : decode b_M_same 122 = .ok (.iconst 0, 1) := by decide +kernel
theorem d_M_same_123 : decode b_M_same 123 = .ok (.ireturn, 1) := by decide +kernel
theorem d_M_take_0 : decode b_M_take 0 = .ok (.aload_n 0, 1) := by decide +kernel
theorem d_M_take_1 : decode b_M_take 1 = .ok (.iconst 0, 1) := by decide +kernel
theorem d_M_take_2 : decode b_M_take 2 = .ok (.putfield 30, 3) := by decide +kernel
theorem d_M_take_5 : decode b_M_take 5 = .ok (.iload_n 1, 1) := by decide +kernel
theorem d_M_take_6 : decode b_M_take 6 = .ok (.invokestatic 95, 3) := by decide +kernel
theorem d_M_take_9 : decode b_M_take 9 = .ok (.ifCond .eq 23, 3) := by decide +kernel
theorem d_M_take_12 : decode b_M_take 12 = .ok (.aload_n 0, 1) := by decide +kernel
theorem d_M_take_13 : decode b_M_take 13 = .ok (.getfield 19, 3) := by decide +kernel
theorem d_M_take_16 : decode b_M_take 16 = .ok (.iconst 3, 1) := by decide +kernel
theorem d_M_take_17 : decode b_M_take 17 = .ok (.iload_n 1, 1) := by decide +kernel
theorem d_M_take_18 : decode b_M_take 18 = .ok (.imul, 1) := by decide +kernel
theorem d_M_take_19 : decode b_M_take 19 = .ok (.baload, 1) := by decide +kernel
theorem d_M_take_20 : decode b_M_take 20 = .ok (.ifCond .ne 12, 3) := by decide +kernel
theorem d_M_take_23 : decode b_M_take 23 = .ok (.iload_n 2, 1) := by decide +kernel
theorem d_M_take_24 : decode b_M_take 24 = .ok (.ifCond .lt 8, 3) := by decide +kernel
theorem d_M_take_27 : decode b_M_take 27 = .ok (.iload_n 2, 1) := by decide +kernel
theorem d_M_take_28 : decode b_M_take 28 = .ok (.iconst 3, 1) := by decide +kernel
theorem d_M_take_29 : decode b_M_take 29 = .ok (.if_icmp .le 5, 3) := by decide +kernel
theorem d_M_take_32 : decode b_M_take 32 = .ok (.iconst 0, 1) := by decide +kernel
theorem d_M_take_33 : decode b_M_take 33 = .ok (.ireturn, 1) := by decide +kernel
theorem d_M_take_34 : decode b_M_take 34 = .ok (.iconst 3, 1) := by decide +kernel
theorem d_M_take_35 : decode b_M_take 35 = .ok (.iload_n 1, 1) := by decide +kernel
theorem d_M_take_36 : decode b_M_take 36 = .ok (.imul, 1) := by decide +kernel
theorem d_M_take_37 : decode b_M_take 37 = .ok (.istore_n 3, 1) := by decide +kernel
theorem d_M_take_38 : decode b_M_take 38 = .ok (.iload_n 2, 1) := by decide +kernel
theorem d_M_take_39 : decode b_M_take 39 = .ok (.ifCond .eq 8, 3) := by decide +kernel
theorem d_M_take_42 : decode b_M_take 42 = .ok (.iload_n 2, 1) := by decide +kernel
theorem d_M_take_43 : decode b_M_take 43 = .ok (.iconst 2, 1) := by decide +kernel
theorem d_M_take_44 : decode b_M_take 44 = .ok (.if_icmp .ne 22, 3) := by decide +kernel
theorem d_M_take_47 : decode b_M_take 47 = .ok (.aload_n 0, 1) := by decide +kernel
theorem d_M_take_48 : decode b_M_take 48 = .ok (.iload_n 2, 1) := by decide +kernel
theorem d_M_take_49 : decode b_M_take 49 = .ok (.ifCond .ne 7, 3) := by decide +kernel
theorem d_M_take_52 : decode b_M_take 52 = .ok (.iload_n 3, 1) := by decide +kernel
theorem d_M_take_53 : decode b_M_take 53 = .ok (.goto 6, 3) := by decide +kernel
theorem d_M_take_56 : decode b_M_take 56 = .ok (.iload_n 3, 1) := by decide +kernel
theorem d_M_take_57 : decode b_M_take 57 = .ok (.iconst 1, 1) := by decide +kernel
theorem d_M_take_58 : decode b_M_take 58 = .ok (.iadd, 1) := by decide +kernel
theorem d_M_take_59 : decode b_M_take 59 = .ok (.bipush 45, 2) := by decide +kernel
theorem d_M_take_61 : decode b_M_take 61 = .ok (.invokevirtual 40, 3) := by decide +kernel
theorem d_M_take_64 : decode b_M_take 64 = .ok (.iconst 1, 1) := by decide +kernel
theorem d_M_take_65 : decode b_M_take 65 = .ok (.ireturn, 1) := by decide +kernel
theorem d_M_take_66 : decode b_M_take 66 = .ok (.aload_n 0, 1) := by decide +kernel
theorem d_M_take_67 : decode b_M_take 67 = .ok (.bipush 45, 2) := by decide +kernel
theorem d_M_take_69 : decode b_M_take 69 = .ok (.iload_n 3, 1) := by decide +kernel
theorem d_M_take_70 : decode b_M_take 70 = .ok (.iconst 2, 1) := by decide +kernel
theorem d_M_take_71 : decode b_M_take 71 = .ok (.iadd, 1) := by decide +kernel
theorem d_M_take_72 : decode b_M_take 72 = .ok (.iload_n 3, 1) := by decide +kernel
theorem d_M_take_73 : decode b_M_take 73 = .ok (.iconst 2, 1) := by decide +kernel
theorem d_M_take_74 : decode b_M_take 74 = .ok (.iadd, 1) := by decide +kernel
theorem d_M_take_75 : decode b_M_take 75 = .ok (.invokevirtual 92, 3) := by decide +kernel
theorem d_M_take_78 : decode b_M_take 78 = .ok (.iload_n 2, 1) := by decide +kernel
theorem d_M_take_79 : decode b_M_take 79 = .ok (.iconst 3, 1) := by decide +kernel
theorem d_M_take_80 : decode b_M_take 80 = .ok (.if_icmp .ne 22, 3) := by decide +kernel
theorem d_M_take_83 : decode b_M_take 83 = .ok (.aload_n 0, 1) := by decide +kernel
theorem d_M_take_84 : decode b_M_take 84 = .ok (.bipush 46, 2) := by decide +kernel
theorem d_M_take_86 : decode b_M_take 86 = .ok (.bipush 45, 2) := by decide +kernel
theorem d_M_take_88 : decode b_M_take 88 = .ok (.iload_n 3, 1) := by decide +kernel
theorem d_M_take_89 : decode b_M_take 89 = .ok (.iconst 2, 1) := by decide +kernel
theorem d_M_take_90 : decode b_M_take 90 = .ok (.iadd, 1) := by decide +kernel
theorem d_M_take_91 : decode b_M_take 91 = .ok (.invokevirtual 92, 3) := by decide +kernel
theorem d_M_take_94 : decode b_M_take 94 = .ok (.aload_n 0, 1) := by decide +kernel
theorem d_M_take_95 : decode b_M_take 95 = .ok (.bipush 46, 2) := by decide +kernel
theorem d_M_take_97 : decode b_M_take 97 = .ok (.bipush 45, 2) := by decide +kernel
theorem d_M_take_99 : decode b_M_take 99 = .ok (.invokevirtual 40, 3) := by decide +kernel
theorem d_M_take_102 : decode b_M_take 102 = .ok (.iconst 1, 1) := by decide +kernel
theorem d_M_take_103 : decode b_M_take 103 = .ok (.ireturn, 1) := by decide +kernel
theorem d_M_digits_0 : decode b_M_digits 0 = .ok (.aload_n 0, 1) := by decide +kernel
theorem d_M_digits_1 : decode b_M_digits 1 = .ok (.iload_n 1, 1) := by decide +kernel
theorem d_M_digits_2 : decode b_M_digits 2 = .ok (.iload_n 2, 1) := by decide +kernel
theorem d_M_digits_3 : decode b_M_digits 3 = .ok (.invokevirtual 153, 3) := by decide +kernel
theorem d_M_digits_6 : decode b_M_digits 6 = .ok (.ifCond .eq 12, 3) := by decide +kernel
theorem d_M_digits_9 : decode b_M_digits 9 = .ok (.aload_n 0, 1) := by decide +kernel
theorem d_M_digits_10 : decode b_M_digits 10 = .ok (.bipush 45, 2) := by decide +kernel
theorem d_M_digits_12 : decode b_M_digits 12 = .ok (.invokevirtual 130, 3) := by decide +kernel
theorem d_M_digits_15 : decode b_M_digits 15 = .ok (.goto 4, 3) := by decide +kernel
theorem d_M_digits_18 : decode b_M_digits 18 = .ok (.iconst (-1), 1) := by decide +kernel
theorem d_M_digits_19 : decode b_M_digits 19 = .ok (.ireturn, 1) := by decide +kernel
theorem d_M_digitAt_0 : decode b_M_digitAt 0 = .ok (.aload_n 0, 1) := by decide +kernel
theorem d_M_digitAt_1 : decode b_M_digitAt 1 = .ok (.iload_n 1, 1) := by decide +kernel
theorem d_M_digitAt_2 : decode b_M_digitAt 2 = .ok (.iload_n 2, 1) := by decide +kernel
theorem d_M_digitAt_3 : decode b_M_digitAt 3 = .ok (.invokevirtual 153, 3) := by decide +kernel
theorem d_M_digitAt_6 : decode b_M_digitAt 6 = .ok (.ifCond .ne 5, 3) := by decide +kernel
theorem d_M_digitAt_9 : decode b_M_digitAt 9 = .ok (.iconst (-1), 1) := by decide +kernel
theorem d_M_digitAt_10 : decode b_M_digitAt 10 = .ok (.ireturn, 1) := by decide +kernel
theorem d_M_digitAt_11 : decode b_M_digitAt 11 = .ok (.aload_n 0, 1) := by decide +kernel
theorem d_M_digitAt_12 : decode b_M_digitAt 12 = .ok (.bipush 45, 2) := by decide +kernel
theorem d_M_digitAt_14 : decode b_M_digitAt 14 = .ok (.invokevirtual 130, 3) := by decide +kernel
theorem d_M_digitAt_17 : decode b_M_digitAt 17 = .ok (.istore 4, 2) := by decide +kernel
theorem d_M_digitAt_19 : decode b_M_digitAt 19 = .ok (.iload_n 3, 1) := by decide +kernel
theorem d_M_digitAt_20 : decode b_M_digitAt 20 = .ok (.ifCond .lt 9, 3) := by decide +kernel
theorem d_M_digitAt_23 : decode b_M_digitAt 23 = .ok (.iload_n 3, 1) := by decide +kernel
theorem d_M_digitAt_24 : decode b_M_digitAt 24 = .ok (.iload 4, 2) := by decide +kernel
theorem d_M_digitAt_26 : decode b_M_digitAt 26 = .ok (.if_icmp .lt 5, 3) := by decide +kernel
theorem d_M_digitAt_29 : decode b_M_digitAt 29 = .ok (.iconst (-1), 1) := by decide +kernel
theorem d_M_digitAt_30 : decode b_M_digitAt 30 = .ok (.ireturn, 1) := by decide +kernel
theorem d_M_digitAt_31 : decode b_M_digitAt 31 = .ok (.iload 4, 2) := by decide +kernel
theorem d_M_digitAt_33 : decode b_M_digitAt 33 = .ok (.iconst 1, 1) := by decide +kernel
theorem d_M_digitAt_34 : decode b_M_digitAt 34 = .ok (.isub, 1) := by decide +kernel
theorem d_M_digitAt_35 : decode b_M_digitAt 35 = .ok (.iload_n 3, 1) := by decide +kernel
theorem d_M_digitAt_36 : decode b_M_digitAt 36 = .ok (.isub, 1) := by decide +kernel
theorem d_M_digitAt_37 : decode b_M_digitAt 37 = .ok (.istore 5, 2) := by decide +kernel
theorem d_M_digitAt_39 : decode b_M_digitAt 39 = .ok (.aload_n 0, 1) := by decide +kernel
theorem d_M_digitAt_40 : decode b_M_digitAt 40 = .ok (.getfield 13, 3) := by decide +kernel
theorem d_M_digitAt_43 : decode b_M_digitAt 43 = .ok (.bipush 45, 2) := by decide +kernel
theorem d_M_digitAt_45 : decode b_M_digitAt 45 = .ok (.iaload, 1) := by decide +kernel
theorem d_M_digitAt_46 : decode b_M_digitAt 46 = .ok (.ifCond .ne 7, 3) := by decide +kernel
theorem d_M_digitAt_49 : decode b_M_digitAt 49 = .ok (.iconst 0, 1) := by decide +kernel
theorem d_M_digitAt_50 : decode b_M_digitAt 50 = .ok (.goto 17, 3) := by decide +kernel
theorem d_M_digitAt_53 : decode b_M_digitAt 53 = .ok (.aload_n 0, 1) := by decide +kernel
theorem d_M_digitAt_54 : decode b_M_digitAt 54 = .ok (.getfield 9, 3) := by decide +kernel
theorem d_M_digitAt_57 : decode b_M_digitAt 57 = .ok (.sipush 20700, 3) := by decide +kernel
theorem d_M_digitAt_60 : decode b_M_digitAt 60 = .ok (.iload 5, 2) := by decide +kernel
theorem d_M_digitAt_62 : decode b_M_digitAt 62 = .ok (.bipush 9, 2) := by decide +kernel
theorem d_M_digitAt_64 : decode b_M_digitAt 64 = .ok (.idiv, 1) := by decide +kernel
theorem d_M_digitAt_65 : decode b_M_digitAt 65 = .ok (.iadd, 1) := by decide +kernel
theorem d_M_digitAt_66 : decode b_M_digitAt 66 = .ok (.iaload, 1) := by decide +kernel
theorem d_M_digitAt_67 : decode b_M_digitAt 67 = .ok (.istore 6, 2) := by decide +kernel
theorem d_M_digitAt_69 : decode b_M_digitAt 69 = .ok (.iconst 0, 1) := by decide +kernel
theorem d_M_digitAt_70 : decode b_M_digitAt 70 = .ok (.istore 7, 2) := by decide +kernel
theorem d_M_digitAt_72 : decode b_M_digitAt 72 = .ok (.iload 7, 2) := by decide +kernel
theorem d_M_digitAt_74 : decode b_M_digitAt 74 = .ok (.iload 5, 2) := by decide +kernel
theorem d_M_digitAt_76 : decode b_M_digitAt 76 = .ok (.bipush 9, 2) := by decide +kernel
theorem d_M_digitAt_78 : decode b_M_digitAt 78 = .ok (.irem, 1) := by decide +kernel
theorem d_M_digitAt_79 : decode b_M_digitAt 79 = .ok (.if_icmp .ge 16, 3) := by decide +kernel
theorem d_M_digitAt_82 : decode b_M_digitAt 82 = .ok (.iload 6, 2) := by decide +kernel
theorem d_M_digitAt_84 : decode b_M_digitAt 84 = .ok (.bipush 10, 2) := by decide +kernel
theorem d_M_digitAt_86 : decode b_M_digitAt 86 = .ok (.idiv, 1) := by decide +kernel
theorem d_M_digitAt_87 : decode b_M_digitAt 87 = .ok (.istore 6, 2) := by decide +kernel
theorem d_M_digitAt_89 : decode b_M_digitAt 89 = .ok (.iinc 7 1, 3) := by decide +kernel
theorem d_M_digitAt_92 : decode b_M_digitAt 92 = .ok (.goto (-20), 3) := by decide +kernel
theorem d_M_digitAt_95 : decode b_M_digitAt 95 = .ok (.iload 6, 2) := by decide +kernel
theorem d_M_digitAt_97 : decode b_M_digitAt 97 = .ok (.bipush 10, 2) := by decide +kernel
theorem d_M_digitAt_99 : decode b_M_digitAt 99 = .ok (.irem, 1) := by decide +kernel
theorem d_M_digitAt_100 : decode b_M_digitAt 100 = .ok (.ireturn, 1) := by decide +kernel
theorem d_M_sign_0 : decode b_M_sign 0 = .ok (.aload_n 0, 1) := by decide +kernel
theorem d_M_sign_1 : decode b_M_sign 1 = .ok (.iload_n 1, 1) := by decide +kernel
theorem d_M_sign_2 : decode b_M_sign 2 = .ok (.iload_n 2, 1) := by decide +kernel
theorem d_M_sign_3 : decode b_M_sign 3 = .ok (.invokevirtual 153, 3) := by decide +kernel
theorem d_M_sign_6 : decode b_M_sign 6 = .ok (.ifCond .eq 15, 3) := by decide +kernel
theorem d_M_sign_9 : decode b_M_sign 9 = .ok (.aload_n 0, 1) := by decide +kernel
theorem d_M_sign_10 : decode b_M_sign 10 = .ok (.getfield 16, 3) := by decide +kernel
theorem d_M_sign_13 : decode b_M_sign 13 = .ok (.bipush 45, 2) := by decide +kernel
theorem d_M_sign_15 : decode b_M_sign 15 = .ok (.iaload, 1) := by decide +kernel
theorem d_M_sign_16 : decode b_M_sign 16 = .ok (.iconst 1, 1) := by decide +kernel
theorem d_M_sign_17 : decode b_M_sign 17 = .ok (.iadd, 1) := by decide +kernel
theorem d_M_sign_18 : decode b_M_sign 18 = .ok (.goto 4, 3) := by decide +kernel
theorem d_M_sign_21 : decode b_M_sign 21 = .ok (.iconst (-1), 1) := by decide +kernel
theorem d_M_sign_22 : decode b_M_sign 22 = .ok (.ireturn, 1) := by decide +kernel
