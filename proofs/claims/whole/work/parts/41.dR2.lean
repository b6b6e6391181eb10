theorem d_R_divide_76 : decode b_R_divide 76 = .ok (.invokevirtual 75, 3) := by decide +kernel
theorem d_R_divide_79 : decode b_R_divide 79 = .ok (.return_, 1) := by decide +kernel
theorem d_R_divide_80 : decode b_R_divide 80 = .ok (.aload_n 1, 1) := by decide +kernel
theorem d_R_divide_81 : decode b_R_divide 81 = .ok (.getfield 30, 3) := by decide +kernel
theorem d_R_divide_84 : decode b_R_divide 84 = .ok (.aload_n 2, 1) := by decide +kernel
theorem d_R_divide_85 : decode b_R_divide 85 = .ok (.getfield 30, 3) := by decide +kernel
theorem d_R_divide_88 : decode b_R_divide 88 = .ok (.if_icmp .eq 7, 3) := by decide +kernel
theorem d_R_divide_91 : decode b_R_divide 91 = .ok (.iconst 1, 1) := by decide +kernel
theorem d_R_divide_92 : decode b_R_divide 92 = .ok (.goto 4, 3) := by decide +kernel
theorem d_R_divide_95 : decode b_R_divide 95 = .ok (.iconst 0, 1) := by decide +kernel
theorem d_R_divide_96 : decode b_R_divide 96 = .ok (.istore 8, 2) := by decide +kernel
theorem d_R_divide_98 : decode b_R_divide 98 = .ok (.aload_n 1, 1) := by decide +kernel
theorem d_R_divide_99 : decode b_R_divide 99 = .ok (.getfield 30, 3) := by decide +kernel
theorem d_R_divide_102 : decode b_R_divide 102 = .ok (.istore 9, 2) := by decide +kernel
theorem d_R_divide_104 : decode b_R_divide 104 = .ok (.ldc 70, 2) := by decide +kernel
theorem d_R_divide_106 : decode b_R_divide 106 = .ok (.iload 6, 2) := by decide +kernel
theorem d_R_divide_108 : decode b_R_divide 108 = .ok (.iconst 1, 1) := by decide +kernel
theorem d_R_divide_109 : decode b_R_divide 109 = .ok (.iadd, 1) := by decide +kernel
theorem d_R_divide_110 : decode b_R_divide 110 = .ok (.idiv, 1) := by decide +kernel
theorem d_R_divide_111 : decode b_R_divide 111 = .ok (.istore 10, 2) := by decide +kernel
theorem d_R_divide_113 : decode b_R_divide 113 = .ok (.aload_n 0, 1) := by decide +kernel
theorem d_R_divide_114 : decode b_R_divide 114 = .ok (.getfield 15, 3) := by decide +kernel
theorem d_R_divide_117 : decode b_R_divide 117 = .ok (.aload_n 1, 1) := by decide +kernel
theorem d_R_divide_118 : decode b_R_divide 118 = .ok (.getfield 49, 3) := by decide +kernel
theorem d_R_divide_121 : decode b_R_divide 121 = .ok (.aload_n 0, 1) := by decide +kernel
theorem d_R_divide_122 : decode b_R_divide 122 = .ok (.aload_n 1, 1) := by decide +kernel
theorem d_R_divide_123 : decode b_R_divide 123 = .ok (.iload 10, 2) := by decide +kernel
theorem d_R_divide_125 : decode b_R_divide 125 = .ok (.aload_n 0, 1) := by decide +kernel
theorem d_R_divide_126 : decode b_R_divide 126 = .ok (.getfield 15, 3) := by decide +kernel
theorem d_R_divide_129 : decode b_R_divide 129 = .ok (.invokevirtual 90, 3) := by decide +kernel
theorem d_R_divide_132 : decode b_R_divide 132 = .ok (.iastore, 1) := by decide +kernel
theorem d_R_divide_133 : decode b_R_divide 133 = .ok (.aload_n 0, 1) := by decide +kernel
theorem d_R_divide_134 : decode b_R_divide 134 = .ok (.getfield 18, 3) := by decide +kernel
theorem d_R_divide_137 : decode b_R_divide 137 = .ok (.iload 5, 2) := by decide +kernel
theorem d_R_divide_139 : decode b_R_divide 139 = .ok (.aload_n 0, 1) := by decide +kernel
theorem d_R_divide_140 : decode b_R_divide 140 = .ok (.aload_n 2, 1) := by decide +kernel
theorem d_R_divide_141 : decode b_R_divide 141 = .ok (.iload 10, 2) := by decide +kernel
theorem d_R_divide_143 : decode b_R_divide 143 = .ok (.aload_n 0, 1) := by decide +kernel
theorem d_R_divide_144 : decode b_R_divide 144 = .ok (.getfield 18, 3) := by decide +kernel
theorem d_R_divide_147 : decode b_R_divide 147 = .ok (.invokevirtual 90, 3) := by decide +kernel
theorem d_R_divide_150 : decode b_R_divide 150 = .ok (.iastore, 1) := by decide +kernel
theorem d_R_divide_151 : decode b_R_divide 151 = .ok (.iload 7, 2) := by decide +kernel
theorem d_R_divide_153 : decode b_R_divide 153 = .ok (.istore 11, 2) := by decide +kernel
theorem d_R_divide_155 : decode b_R_divide 155 = .ok (.iload 11, 2) := by decide +kernel
theorem d_R_divide_157 : decode b_R_divide 157 = .ok (.ifCond .lt 35, 3) := by decide +kernel
theorem d_R_divide_160 : decode b_R_divide 160 = .ok (.aload_n 0, 1) := by decide +kernel
theorem d_R_divide_161 : decode b_R_divide 161 = .ok (.getfield 9, 3) := by decide +kernel
theorem d_R_divide_164 : decode b_R_divide 164 = .ok (.iload 11, 2) := by decide +kernel
theorem d_R_divide_166 : decode b_R_divide 166 = .ok (.aload_n 0, 1) := by decide +kernel
theorem d_R_divide_167 : decode b_R_divide 167 = .ok (.aload_n 0, 1) := by decide +kernel
theorem d_R_divide_168 : decode b_R_divide 168 = .ok (.iload 11, 2) := by decide +kernel
theorem d_R_divide_170 : decode b_R_divide 170 = .ok (.iload 5, 2) := by decide +kernel
theorem d_R_divide_172 : decode b_R_divide 172 = .ok (.iadd, 1) := by decide +kernel
theorem d_R_divide_173 : decode b_R_divide 173 = .ok (.iload 5, 2) := by decide +kernel
theorem d_R_divide_175 : decode b_R_divide 175 = .ok (.invokevirtual 94, 3) := by decide +kernel
theorem d_R_divide_178 : decode b_R_divide 178 = .ok (.iload 11, 2) := by decide +kernel
theorem d_R_divide_180 : decode b_R_divide 180 = .ok (.iload 5, 2) := by decide +kernel
theorem d_R_divide_182 : decode b_R_divide 182 = .ok (.invokevirtual 98, 3) := by decide +kernel
theorem d_R_divide_185 : decode b_R_divide 185 = .ok (.iastore, 1) := by decide +kernel
theorem d_R_divide_186 : decode b_R_divide 186 = .ok (.iinc 11 (-1), 3) := by decide +kernel
theorem d_R_divide_189 : decode b_R_divide 189 = .ok (.goto (-34), 3) := by decide +kernel
theorem d_R_divide_192 : decode b_R_divide 192 = .ok (.aload_n 0, 1) := by decide +kernel
theorem d_R_divide_193 : decode b_R_divide 193 = .ok (.iload 10, 2) := by decide +kernel
theorem d_R_divide_195 : decode b_R_divide 195 = .ok (.iload 5, 2) := by decide +kernel
theorem d_R_divide_197 : decode b_R_divide 197 = .ok (.invokevirtual 102, 3) := by decide +kernel
theorem d_R_divide_200 : decode b_R_divide 200 = .ok (.aload_n 0, 1) := by decide +kernel
theorem d_R_divide_201 : decode b_R_divide 201 = .ok (.aload_n 0, 1) := by decide +kernel
theorem d_R_divide_202 : decode b_R_divide 202 = .ok (.getfield 9, 3) := by decide +kernel
theorem d_R_divide_205 : decode b_R_divide 205 = .ok (.iload 7, 2) := by decide +kernel
theorem d_R_divide_207 : decode b_R_divide 207 = .ok (.iconst 1, 1) := by decide +kernel
theorem d_R_divide_208 : decode b_R_divide 208 = .ok (.iadd, 1) := by decide +kernel
theorem d_R_divide_209 : decode b_R_divide 209 = .ok (.iload 8, 2) := by decide +kernel
theorem d_R_divide_211 : decode b_R_divide 211 = .ok (.aload_n 3, 1) := by decide +kernel
theorem d_R_divide_212 : decode b_R_divide 212 = .ok (.invokevirtual 80, 3) := by decide +kernel
theorem d_R_divide_215 : decode b_R_divide 215 = .ok (.aload_n 0, 1) := by decide +kernel
theorem d_R_divide_216 : decode b_R_divide 216 = .ok (.aload_n 0, 1) := by decide +kernel
theorem d_R_divide_217 : decode b_R_divide 217 = .ok (.getfield 15, 3) := by decide +kernel
theorem d_R_divide_220 : decode b_R_divide 220 = .ok (.iload 5, 2) := by decide +kernel
theorem d_R_divide_222 : decode b_R_divide 222 = .ok (.iload 9, 2) := by decide +kernel
theorem d_R_divide_224 : decode b_R_divide 224 = .ok (.aload 4, 2) := by decide +kernel
theorem d_R_divide_226 : decode b_R_divide 226 = .ok (.invokevirtual 80, 3) := by decide +kernel
theorem d_R_divide_229 : decode b_R_divide 229 = .ok (.return_, 1) := by decide +kernel
theorem d_R_scaleUp_0 : decode b_R_scaleUp 0 = .ok (.aload_n 1, 1) := by decide +kernel
theorem d_R_scaleUp_1 : decode b_R_scaleUp 1 = .ok (.getfield 49, 3) := by decide +kernel
theorem d_R_scaleUp_4 : decode b_R_scaleUp 4 = .ok (.aload_n 3, 1) := by decide +kernel
theorem d_R_scaleUp_5 : decode b_R_scaleUp 5 = .ok (.arraylength, 1) := by decide +kernel
theorem d_R_scaleUp_6 : decode b_R_scaleUp 6 = .ok (.invokestatic 106, 3) := by decide +kernel
theorem d_R_scaleUp_9 : decode b_R_scaleUp 9 = .ok (.istore 4, 2) := by decide +kernel
theorem d_R_scaleUp_11 : decode b_R_scaleUp 11 = .ok (.lconst 0, 1) := by decide +kernel
theorem d_R_scaleUp_12 : decode b_R_scaleUp 12 = .ok (.lstore 5, 2) := by decide +kernel
theorem d_R_scaleUp_14 : decode b_R_scaleUp 14 = .ok (.iconst 0, 1) := by decide +kernel
theorem d_R_scaleUp_15 : decode b_R_scaleUp 15 = .ok (.istore 7, 2) := by decide +kernel
theorem d_R_scaleUp_17 : decode b_R_scaleUp 17 = .ok (.iload 7, 2) := by decide +kernel
theorem d_R_scaleUp_19 : decode b_R_scaleUp 19 = .ok (.iload 4, 2) := by decide +kernel
theorem d_R_scaleUp_21 : decode b_R_scaleUp 21 = .ok (.if_icmp .ge 47, 3) := by decide +kernel
theorem d_R_scaleUp_24 : decode b_R_scaleUp 24 = .ok (.iload_n 2, 1) := by decide +kernel
theorem d_R_scaleUp_25 : decode b_R_scaleUp 25 = .ok (.i2l, 1) := by decide +kernel
theorem d_R_scaleUp_26 : decode b_R_scaleUp 26 = .ok (.aload_n 1, 1) := by decide +kernel
theorem d_R_scaleUp_27 : decode b_R_scaleUp 27 = .ok (.getfield 59, 3) := by decide +kernel
theorem d_R_scaleUp_30 : decode b_R_scaleUp 30 = .ok (.iload 7, 2) := by decide +kernel
theorem d_R_scaleUp_32 : decode b_R_scaleUp 32 = .ok (.iaload, 1) := by decide +kernel
theorem d_R_scaleUp_33 : decode b_R_scaleUp 33 = .ok (.i2l, 1) := by decide +kernel
theorem d_R_scaleUp_34 : decode b_R_scaleUp 34 = .ok (.lmul, 1) := by decide +kernel
theorem d_R_scaleUp_35 : decode b_R_scaleUp 35 = .ok (.lload 5, 2) := by decide +kernel
theorem d_R_scaleUp_37 : decode b_R_scaleUp 37 = .ok (.ladd, 1) := by decide +kernel
theorem d_R_scaleUp_38 : decode b_R_scaleUp 38 = .ok (.lstore 8, 2) := by decide +kernel
theorem d_R_scaleUp_40 : decode b_R_scaleUp 40 = .ok (.lload 8, 2) := by decide +kernel
theorem d_R_scaleUp_42 : decode b_R_scaleUp 42 = .ok (.ldc2_w 78, 3) := by decide +kernel
theorem d_R_scaleUp_45 : decode b_R_scaleUp 45 = .ok (.ldiv, 1) := by decide +kernel
theorem d_R_scaleUp_46 : decode b_R_scaleUp 46 = .ok (.lstore 5, 2) := by decide +kernel
theorem d_R_scaleUp_48 : decode b_R_scaleUp 48 = .ok (.aload_n 3, 1) := by decide +kernel
theorem d_R_scaleUp_49 : decode b_R_scaleUp 49 = .ok (.iload 7, 2) := by decide +kernel
theorem d_R_scaleUp_51 : decode b_R_scaleUp 51 = .ok (.lload 8, 2) := by decide +kernel
theorem d_R_scaleUp_53 : decode b_R_scaleUp 53 = .ok (.lload 5, 2) := by decide +kernel
theorem d_R_scaleUp_55 : decode b_R_scaleUp 55 = .ok (.ldc2_w 78, 3) := by decide +kernel
theorem d_R_scaleUp_58 : decode b_R_scaleUp 58 = .ok (.lmul, 1) := by decide +kernel
theorem d_R_scaleUp_59 : decode b_R_scaleUp 59 = .ok (.lsub, 1) := by decide +kernel
theorem d_R_scaleUp_60 : decode b_R_scaleUp 60 = .ok (.l2i, 1) := by decide +kernel
theorem d_R_scaleUp_61 : decode b_R_scaleUp 61 = .ok (.iastore, 1) := by decide +kernel
theorem d_R_scaleUp_62 : decode b_R_scaleUp 62 = .ok (.iinc 7 1, 3) := by decide +kernel
theorem d_R_scaleUp_65 : decode b_R_scaleUp 65 = .ok (.goto (-48), 3) := by decide +kernel
theorem d_R_scaleUp_68 : decode b_R_scaleUp 68 = .ok (.lload 5, 2) := by decide +kernel
theorem d_R_scaleUp_70 : decode b_R_scaleUp 70 = .ok (.l2i, 1) := by decide +kernel
theorem d_R_scaleUp_71 : decode b_R_scaleUp 71 = .ok (.ireturn, 1) := by decide +kernel
theorem d_R_scaleDown_0 : decode b_R_scaleDown 0 = .ok (.iload_n 1, 1) := by decide +kernel
theorem d_R_scaleDown_1 : decode b_R_scaleDown 1 = .ok (.iconst 1, 1) := by decide +kernel
theorem d_R_scaleDown_2 : decode b_R_scaleDown 2 = .ok (.if_icmp .gt 4, 3) := by decide +kernel
theorem d_R_scaleDown_5 : decode b_R_scaleDown 5 = .ok (.return_, 1) := by decide +kernel
theorem d_R_scaleDown_6 : decode b_R_scaleDown 6 = .ok (.lconst 0, 1) := by decide +kernel
theorem d_R_scaleDown_7 : decode b_R_scaleDown 7 = .ok (.lstore_n 3, 1) := by decide +kernel
theorem d_R_scaleDown_8 : decode b_R_scaleDown 8 = .ok (.iload_n 2, 1) := by decide +kernel
theorem d_R_scaleDown_9 : decode b_R_scaleDown 9 = .ok (.aload_n 0, 1) := by decide +kernel
theorem d_R_scaleDown_10 : decode b_R_scaleDown 10 = .ok (.getfield 15, 3) := by decide +kernel
theorem d_R_scaleDown_13 : decode b_R_scaleDown 13 = .ok (.arraylength, 1) := by decide +kernel
theorem d_R_scaleDown_14 : decode b_R_scaleDown 14 = .ok (.invokestatic 106, 3) := by decide +kernel
theorem d_R_scaleDown_17 : decode b_R_scaleDown 17 = .ok (.iconst 1, 1) := by decide +kernel
theorem d_R_scaleDown_18 : decode b_R_scaleDown 18 = .ok (.isub, 1) := by decide +kernel
theorem d_R_scaleDown_19 : decode b_R_scaleDown 19 = .ok (.istore 5, 2) := by decide +kernel
theorem d_R_scaleDown_21 : decode b_R_scaleDown 21 = .ok (.iload 5, 2) := by decide +kernel
theorem d_R_scaleDown_23 : decode b_R_scaleDown 23 = .ok (.ifCond .lt 44, 3) := by decide +kernel
theorem d_R_scaleDown_26 : decode b_R_scaleDown 26 = .ok (.lload_n 3, 1) := by decide +kernel
theorem d_R_scaleDown_27 : decode b_R_scaleDown 27 = .ok (.ldc2_w 78, 3) := by decide +kernel
theorem d_R_scaleDown_30 : decode b_R_scaleDown 30 = .ok (.lmul, 1) := by decide +kernel
theorem d_R_scaleDown_31 : decode b_R_scaleDown 31 = .ok (.aload_n 0, 1) := by decide +kernel
theorem d_R_scaleDown_32 : decode b_R_scaleDown 32 = .ok (.getfield 15, 3) := by decide +kernel
theorem d_R_scaleDown_35 : decode b_R_scaleDown 35 = .ok (.iload 5, 2) := by decide +kernel
theorem d_R_scaleDown_37 : decode b_R_scaleDown 37 = .ok (.iaload, 1) := by decide +kernel
theorem d_R_scaleDown_38 : decode b_R_scaleDown 38 = .ok (.i2l, 1) := by decide +kernel
theorem d_R_scaleDown_39 : decode b_R_scaleDown 39 = .ok (.ladd, 1) := by decide +kernel
theorem d_R_scaleDown_40 : decode b_R_scaleDown 40 = .ok (.lstore 6, 2) := by decide +kernel
theorem d_R_scaleDown_42 : decode b_R_scaleDown 42 = .ok (.aload_n 0, 1) := by decide +kernel
theorem d_R_scaleDown_43 : decode b_R_scaleDown 43 = .ok (.getfield 15, 3) := by decide +kernel
theorem d_R_scaleDown_46 : decode b_R_scaleDown 46 = .ok (.iload 5, 2) := by decide +kernel
theorem d_R_scaleDown_48 : decode b_R_scaleDown 48 = .ok (.lload 6, 2) := by decide +kernel
theorem d_R_scaleDown_50 : decode b_R_scaleDown 50 = .ok (.iload_n 1, 1) := by decide +kernel
theorem d_R_scaleDown_51 : decode b_R_scaleDown 51 = .ok (.i2l, 1) := by decide +kernel
theorem d_R_scaleDown_52 : decode b_R_scaleDown 52 = .ok (.ldiv, 1) := by decide +kernel
theorem d_R_scaleDown_53 : decode b_R_scaleDown 53 = .ok (.l2i, 1) := by decide +kernel
theorem d_R_scaleDown_54 : decode b_R_scaleDown 54 = .ok (.iastore, 1) := by decide +kernel
theorem d_R_scaleDown_55 : decode b_R_scaleDown 55 = .ok (.lload 6, 2) := by decide +kernel
theorem d_R_scaleDown_57 : decode b_R_scaleDown 57 = .ok (.iload_n 1, 1) := by decide +kernel
theorem d_R_scaleDown_58 : decode b_R_scaleDown 58 = .ok (.i2l, 1) := by decide +kernel
theorem d_R_scaleDown_59 : decode b_R_scaleDown 59 = .ok (.lrem, 1) := by decide +kernel
theorem d_R_scaleDown_60 : decode b_R_scaleDown 60 = .ok (.lstore_n 3, 1) := by decide +kernel
theorem d_R_scaleDown_61 : decode b_R_scaleDown 61 = .ok (.iinc 5 (-1), 3) := by decide +kernel
theorem d_R_scaleDown_64 : decode b_R_scaleDown 64 = .ok (.goto (-43), 3) := by decide +kernel
theorem d_R_scaleDown_67 : decode b_R_scaleDown 67 = .ok (.return_, 1) := by decide +kernel
theorem d_R_guessLimb_0 : decode b_R_guessLimb 0 = .ok (.iload_n 2, 1) := by decide +kernel
theorem d_R_guessLimb_1 : decode b_R_guessLimb 1 = .ok (.iconst 1, 1) := by decide +kernel
theorem d_R_guessLimb_2 : decode b_R_guessLimb 2 = .ok (.if_icmp .lt 28, 3) := by decide +kernel
theorem d_R_guessLimb_5 : decode b_R_guessLimb 5 = .ok (.iload_n 1, 1) := by decide +kernel
theorem d_R_guessLimb_6 : decode b_R_guessLimb 6 = .ok (.iload_n 2, 1) := by decide +kernel
theorem d_R_guessLimb_7 : decode b_R_guessLimb 7 = .ok (.if_icmp .lt 23, 3) := by decide +kernel
theorem d_R_guessLimb_10 : decode b_R_guessLimb 10 = .ok (.iload_n 1, 1) := by decide +kernel
theorem d_R_guessLimb_11 : decode b_R_guessLimb 11 = .ok (.aload_n 0, 1) := by decide +kernel
theorem d_R_guessLimb_12 : decode b_R_guessLimb 12 = .ok (.getfield 15, 3) := by decide +kernel
theorem d_R_guessLimb_15 : decode b_R_guessLimb 15 = .ok (.arraylength, 1) := by decide +kernel
theorem d_R_guessLimb_16 : decode b_R_guessLimb 16 = .ok (.if_icmp .ge 14, 3) := by decide +kernel
theorem d_R_guessLimb_19 : decode b_R_guessLimb 19 = .ok (.aload_n 0, 1) := by decide +kernel
theorem d_R_guessLimb_20 : decode b_R_guessLimb 20 = .ok (.getfield 18, 3) := by decide +kernel
theorem d_R_guessLimb_23 : decode b_R_guessLimb 23 = .ok (.iload_n 2, 1) := by decide +kernel
theorem d_R_guessLimb_24 : decode b_R_guessLimb 24 = .ok (.iconst 1, 1) := by decide +kernel
theorem d_R_guessLimb_25 : decode b_R_guessLimb 25 = .ok (.isub, 1) := by decide +kernel
theorem d_R_guessLimb_26 : decode b_R_guessLimb 26 = .ok (.iaload, 1) := by decide +kernel
theorem d_R_guessLimb_27 : decode b_R_guessLimb 27 = .ok (.ifCond .ne 5, 3) := by decide +kernel
theorem d_R_guessLimb_30 : decode b_R_guessLimb 30 = .ok (.lconst 0, 1) := by decide +kernel
theorem d_R_guessLimb_31 : decode b_R_guessLimb 31 = .ok (.lreturn, 1) := by decide +kernel
theorem d_R_guessLimb_32 : decode b_R_guessLimb 32 = .ok (.aload_n 0, 1) := by decide +kernel
theorem d_R_guessLimb_33 : decode b_R_guessLimb 33 = .ok (.getfield 18, 3) := by decide +kernel
theorem d_R_guessLimb_36 : decode b_R_guessLimb 36 = .ok (.iload_n 2, 1) := by decide +kernel
theorem d_R_guessLimb_37 : decode b_R_guessLimb 37 = .ok (.iconst 1, 1) := by decide +kernel
theorem d_R_guessLimb_38 : decode b_R_guessLimb 38 = .ok (.isub, 1) := by decide +kernel
theorem d_R_guessLimb_39 : decode b_R_guessLimb 39 = .ok (.iaload, 1) := by decide +kernel
theorem d_R_guessLimb_40 : decode b_R_guessLimb 40 = .ok (.i2l, 1) := by decide +kernel
theorem d_R_guessLimb_41 : decode b_R_guessLimb 41 = .ok (.lstore_n 3, 1) := by decide +kernel
theorem d_R_guessLimb_42 : decode b_R_guessLimb 42 = .ok (.iload_n 2, 1) := by decide +kernel
theorem d_R_guessLimb_43 : decode b_R_guessLimb 43 = .ok (.iconst 1, 1) := by decide +kernel
theorem d_R_guessLimb_44 : decode b_R_guessLimb 44 = .ok (.if_icmp .le 15, 3) := by decide +kernel
theorem d_R_guessLimb_47 : decode b_R_guessLimb 47 = .ok (.aload_n 0, 1) := by decide +kernel
theorem d_R_guessLimb_48 : decode b_R_guessLimb 48 = .ok (.getfield 18, 3) := by decide +kernel
theorem d_R_guessLimb_51 : decode b_R_guessLimb 51 = .ok (.iload_n 2, 1) := by decide +kernel
theorem d_R_guessLimb_52 : decode b_R_guessLimb 52 = .ok (.iconst 2, 1) := by decide +kernel
theorem d_R_guessLimb_53 : decode b_R_guessLimb 53 = .ok (.isub, 1) := by decide +kernel
theorem d_R_guessLimb_54 : decode b_R_guessLimb 54 = .ok (.iaload, 1) := by decide +kernel
theorem d_R_guessLimb_55 : decode b_R_guessLimb 55 = .ok (.i2l, 1) := by decide +kernel
theorem d_R_guessLimb_56 : decode b_R_guessLimb 56 = .ok (.goto 4, 3) := by decide +kernel
theorem d_R_guessLimb_59 : decode b_R_guessLimb 59 = .ok (.lconst 0, 1) := by decide +kernel
theorem d_R_guessLimb_60 : decode b_R_guessLimb 60 = .ok (.lstore 5, 2) := by decide +kernel
theorem d_R_guessLimb_62 : decode b_R_guessLimb 62 = .ok (.iload_n 2, 1) := by decide +kernel
theorem d_R_guessLimb_63 : decode b_R_guessLimb 63 = .ok (.iconst 1, 1) := by decide +kernel
theorem d_R_guessLimb_64 : decode b_R_guessLimb 64 = .ok (.if_icmp .le 15, 3) := by decide +kernel
theorem d_R_guessLimb_67 : decode b_R_guessLimb 67 = .ok (.aload_n 0, 1) := by decide +kernel
theorem d_R_guessLimb_68 : decode b_R_guessLimb 68 = .ok (.getfield 15, 3) := by decide +kernel
theorem d_R_guessLimb_71 : decode b_R_guessLimb 71 = .ok (.iload_n 1, 1) := by decide +kernel
theorem d_R_guessLimb_72 : decode b_R_guessLimb 72 = .ok (.iconst 2, 1) := by decide +kernel
theorem d_R_guessLimb_73 : decode b_R_guessLimb 73 = .ok (.isub, 1) := by decide +kernel
theorem d_R_guessLimb_74 : decode b_R_guessLimb 74 = .ok (.iaload, 1) := by decide +kernel
theorem d_R_guessLimb_75 : decode b_R_guessLimb 75 = .ok (.i2l, 1) := by decide +kernel
theorem d_R_guessLimb_76 : decode b_R_guessLimb 76 = .ok (.goto 4, 3) := by decide +kernel
theorem d_R_guessLimb_79 : decode b_R_guessLimb 79 = .ok (.lconst 0, 1) := by decide +kernel
theorem d_R_guessLimb_80 : decode b_R_guessLimb 80 = .ok (.lstore 7, 2) := by decide +kernel
theorem d_R_guessLimb_82 : decode b_R_guessLimb 82 = .ok (.aload_n 0, 1) := by decide +kernel
theorem d_R_guessLimb_83 : decode b_R_guessLimb 83 = .ok (.getfield 15, 3) := by decide +kernel
theorem d_R_guessLimb_86 : decode b_R_guessLimb 86 = .ok (.iload_n 1, 1) := by decide +kernel
theorem d_R_guessLimb_87 : decode b_R_guessLimb 87 = .ok (.iaload, 1) := by decide +kernel
theorem d_R_guessLimb_88 : decode b_R_guessLimb 88 = .ok (.i2l, 1) := by decide +kernel
theorem d_R_guessLimb_89 : decode b_R_guessLimb 89 = .ok (.ldc2_w 78, 3) := by decide +kernel
theorem d_R_guessLimb_92 : decode b_R_guessLimb 92 = .ok (.lmul, 1) := by decide +kernel
theorem d_R_guessLimb_93 : decode b_R_guessLimb 93 = .ok (.aload_n 0, 1) := by decide +kernel
theorem d_R_guessLimb_94 : decode b_R_guessLimb 94 = .ok (.getfield 15, 3) := by decide +kernel
theorem d_R_guessLimb_97 : decode b_R_guessLimb 97 = .ok (.iload_n 1, 1) := by decide +kernel
theorem d_R_guessLimb_98 : decode b_R_guessLimb 98 = .ok (.iconst 1, 1) := by decide +kernel
theorem d_R_guessLimb_99 : decode b_R_guessLimb 99 = .ok (.isub, 1) := by decide +kernel
theorem d_R_guessLimb_100 : decode b_R_guessLimb 100 = .ok (.iaload, 1) := by decide +kernel
theorem d_R_guessLimb_101 : decode b_R_guessLimb 101 = .ok (.i2l, 1) := by decide +kernel
theorem d_R_guessLimb_102 : decode b_R_guessLimb 102 = .ok (.ladd, 1) := by decide +kernel
theorem d_R_guessLimb_103 : decode b_R_guessLimb 103 = .ok (.lstore 9, 2) := by decide +kernel
theorem d_R_guessLimb_105 : decode b_R_guessLimb 105 = .ok (.lload 9, 2) := by decide +kernel
theorem d_R_guessLimb_107 : decode b_R_guessLimb 107 = .ok (.lload_n 3, 1) := by decide +kernel
theorem d_R_guessLimb_108 : decode b_R_guessLimb 108 = .ok (.ldiv, 1) := by decide +kernel
theorem d_R_guessLimb_109 : decode b_R_guessLimb 109 = .ok (.lstore 11, 2) := by decide +kernel
theorem d_R_guessLimb_111 : decode b_R_guessLimb 111 = .ok (.lload 9, 2) := by decide +kernel
theorem d_R_guessLimb_113 : decode b_R_guessLimb 113 = .ok (.lload 11, 2) := by decide +kernel
theorem d_R_guessLimb_115 : decode b_R_guessLimb 115 = .ok (.lload_n 3, 1) := by decide +kernel
theorem d_R_guessLimb_116 : decode b_R_guessLimb 116 = .ok (.lmul, 1) := by decide +kernel
theorem d_R_guessLimb_117 : decode b_R_guessLimb 117 = .ok (.lsub, 1) := by decide +kernel
theorem d_R_guessLimb_118 : decode b_R_guessLimb 118 = .ok (.lstore 13, 2) := by decide +kernel
theorem d_R_guessLimb_120 : decode b_R_guessLimb 120 = .ok (.iconst 0, 1) := by decide +kernel
theorem d_R_guessLimb_121 : decode b_R_guessLimb 121 = .ok (.istore 15, 2) := by decide +kernel
theorem d_R_guessLimb_123 : decode b_R_guessLimb 123 = .ok (.iload 15, 2) := by decide +kernel
theorem d_R_guessLimb_125 : decode b_R_guessLimb 125 = .ok (.iconst 3, 1) := by decide +kernel
theorem d_R_guessLimb_126 : decode b_R_guessLimb 126 = .ok (.if_icmp .ge 60, 3) := by decide +kernel
theorem d_R_guessLimb_129 : decode b_R_guessLimb 129 = .ok (.lload 13, 2) := by decide +kernel
theorem d_R_guessLimb_131 : decode b_R_guessLimb 131 = .ok (.ldc2_w 78, 3) := by decide +kernel
theorem d_R_guessLimb_134 : decode b_R_guessLimb 134 = .ok (.lcmp, 1) := by decide +kernel
theorem d_R_guessLimb_135 : decode b_R_guessLimb 135 = .ok (.ifCond .ge 51, 3) := by decide +kernel
theorem d_R_guessLimb_138 : decode b_R_guessLimb 138 = .ok (.lload 11, 2) := by decide +kernel
theorem d_R_guessLimb_140 : decode b_R_guessLimb 140 = .ok (.ldc2_w 78, 3) := by decide +kernel
theorem d_R_guessLimb_143 : decode b_R_guessLimb 143 = .ok (.lcmp, 1) := by decide +kernel
theorem d_R_guessLimb_144 : decode b_R_guessLimb 144 = .ok (.ifCond .ge 24, 3) := by decide +kernel
theorem d_R_guessLimb_147 : decode b_R_guessLimb 147 = .ok (.lload 11, 2) := by decide +kernel
theorem d_R_guessLimb_149 : decode b_R_guessLimb 149 = .ok (.lload 5, 2) := by decide +kernel
theorem d_R_guessLimb_151 : decode b_R_guessLimb 151 = .ok (.lmul, 1) := by decide +kernel
theorem d_R_guessLimb_152 : decode b_R_guessLimb 152 = .ok (.lload 13, 2) := by decide +kernel
theorem d_R_guessLimb_154 : decode b_R_guessLimb 154 = .ok (.ldc2_w 78, 3) := by decide +kernel
theorem d_R_guessLimb_157 : decode b_R_guessLimb 157 = .ok (.lmul, 1) := by decide +kernel
theorem d_R_guessLimb_158 : decode b_R_guessLimb 158 = .ok (.lload 7, 2) := by decide +kernel
theorem d_R_guessLimb_160 : decode b_R_guessLimb 160 = .ok (.ladd, 1) := by decide +kernel
theorem d_R_guessLimb_161 : decode b_R_guessLimb 161 = .ok (.lcmp, 1) := by decide +kernel
theorem d_R_guessLimb_162 : decode b_R_guessLimb 162 = .ok (.ifCond .gt 6, 3) := by decide +kernel
theorem d_R_guessLimb_165 : decode b_R_guessLimb 165 = .ok (.goto 21, 3) := by decide +kernel
theorem d_R_guessLimb_168 : decode b_R_guessLimb 168 = .ok (.lload 11, 2) := by decide +kernel
theorem d_R_guessLimb_170 : decode b_R_guessLimb 170 = .ok (.lconst 1, 1) := by decide +kernel
theorem d_R_guessLimb_171 : decode b_R_guessLimb 171 = .ok (.lsub, 1) := by decide +kernel
theorem d_R_guessLimb_172 : decode b_R_guessLimb 172 = .ok (.lstore 11, 2) := by decide +kernel
theorem d_R_guessLimb_174 : decode b_R_guessLimb 174 = .ok (.lload 13, 2) := by decide +kernel
theorem d_R_guessLimb_176 : decode b_R_guessLimb 176 = .ok (.lload_n 3, 1) := by decide +kernel
theorem d_R_guessLimb_177 : decode b_R_guessLimb 177 = .ok (.ladd, 1) := by decide +kernel
theorem d_R_guessLimb_178 : decode b_R_guessLimb 178 = .ok (.lstore 13, 2) := by decide +kernel
theorem d_R_guessLimb_180 : decode b_R_guessLimb 180 = .ok (.iinc 15 1, 3) := by decide +kernel
theorem d_R_guessLimb_183 : decode b_R_guessLimb 183 = .ok (.goto (-60), 3) := by decide +kernel
theorem d_R_guessLimb_186 : decode b_R_guessLimb 186 = .ok (.lload 11, 2) := by decide +kernel
theorem d_R_guessLimb_188 : decode b_R_guessLimb 188 = .ok (.lreturn, 1) := by decide +kernel
theorem d_R_takeMultiple_0 : decode b_R_takeMultiple 0 = .ok (.iload_n 3, 1) := by decide +kernel
theorem d_R_takeMultiple_1 : decode b_R_takeMultiple 1 = .ok (.ifCond .lt 15, 3) := by decide +kernel
theorem d_R_takeMultiple_4 : decode b_R_takeMultiple 4 = .ok (.iload_n 3, 1) := by decide +kernel
theorem d_R_takeMultiple_5 : decode b_R_takeMultiple 5 = .ok (.iload 4, 2) := by decide +kernel
theorem d_R_takeMultiple_7 : decode b_R_takeMultiple 7 = .ok (.iadd, 1) := by decide +kernel
theorem d_R_takeMultiple_8 : decode b_R_takeMultiple 8 = .ok (.aload_n 0, 1) := by decide +kernel
theorem d_R_takeMultiple_9 : decode b_R_takeMultiple 9 = .ok (.getfield 15, 3) := by decide +kernel
theorem d_R_takeMultiple_12 : decode b_R_takeMultiple 12 = .ok (.arraylength, 1) := by decide +kernel
theorem d_R_takeMultiple_13 : decode b_R_takeMultiple 13 = .ok (.if_icmp .lt 5, 3) := by decide +kernel
theorem d_R_takeMultiple_16 : decode b_R_takeMultiple 16 = .ok (.iconst 0, 1) := by decide +kernel
theorem d_R_takeMultiple_17 : decode b_R_takeMultiple 17 = .ok (.ireturn, 1) := by decide +kernel
theorem d_R_takeMultiple_18 : decode b_R_takeMultiple 18 = .ok (.lconst 0, 1) := by decide +kernel
theorem d_R_takeMultiple_19 : decode b_R_takeMultiple 19 = .ok (.lstore 5, 2) := by decide +kernel
theorem d_R_takeMultiple_21 : decode b_R_takeMultiple 21 = .ok (.iconst 0, 1) := by decide +kernel
theorem d_R_takeMultiple_22 : decode b_R_takeMultiple 22 = .ok (.istore 7, 2) := by decide +kernel
theorem d_R_takeMultiple_24 : decode b_R_takeMultiple 24 = .ok (.iload 7, 2) := by decide +kernel
theorem d_R_takeMultiple_26 : decode b_R_takeMultiple 26 = .ok (.iload 4, 2) := by decide +kernel
theorem d_R_takeMultiple_28 : decode b_R_takeMultiple 28 = .ok (.if_icmp .ge 83, 3) := by decide +kernel
theorem d_R_takeMultiple_31 : decode b_R_takeMultiple 31 = .ok (.lload_n 1, 1) := by decide +kernel
theorem d_R_takeMultiple_32 : decode b_R_takeMultiple 32 = .ok (.aload_n 0, 1) := by decide +kernel
theorem d_R_takeMultiple_33 : decode b_R_takeMultiple 33 = .ok (.getfield 18, 3) := by decide +kernel
theorem d_R_takeMultiple_36 : decode b_R_takeMultiple 36 = .ok (.iload 7, 2) := by decide +kernel
theorem d_R_takeMultiple_38 : decode b_R_takeMultiple 38 = .ok (.iaload, 1) := by decide +kernel
theorem d_R_takeMultiple_39 : decode b_R_takeMultiple 39 = .ok (.i2l, 1) := by decide +kernel
theorem d_R_takeMultiple_40 : decode b_R_takeMultiple 40 = .ok (.lmul, 1) := by decide +kernel
theorem d_R_takeMultiple_41 : decode b_R_takeMultiple 41 = .ok (.lload 5, 2) := by decide +kernel
theorem d_R_takeMultiple_43 : decode b_R_takeMultiple 43 = .ok (.ladd, 1) := by decide +kernel
theorem d_R_takeMultiple_44 : decode b_R_takeMultiple 44 = .ok (.lstore 8, 2) := by decide +kernel
theorem d_R_takeMultiple_46 : decode b_R_takeMultiple 46 = .ok (.lload 8, 2) := by decide +kernel
theorem d_R_takeMultiple_48 : decode b_R_takeMultiple 48 = .ok (.ldc2_w 78, 3) := by decide +kernel
theorem d_R_takeMultiple_51 : decode b_R_takeMultiple 51 = .ok (.ldiv, 1) := by decide +kernel
theorem d_R_takeMultiple_52 : decode b_R_takeMultiple 52 = .ok (.lstore 5, 2) := by decide +kernel
theorem d_R_takeMultiple_54 : decode b_R_takeMultiple 54 = .ok (.aload_n 0, 1) := by decide +kernel
theorem d_R_takeMultiple_55 : decode b_R_takeMultiple 55 = .ok (.getfield 15, 3) := by decide +kernel
theorem d_R_takeMultiple_58 : decode b_R_takeMultiple 58 = .ok (.iload_n 3, 1) := by decide +kernel
theorem d_R_takeMultiple_59 : decode b_R_takeMultiple 59 = .ok (.iload 7, 2) := by decide +kernel
theorem d_R_takeMultiple_61 : decode b_R_takeMultiple 61 = .ok (.iadd, 1) := by decide +kernel
theorem d_R_takeMultiple_62 : decode b_R_takeMultiple 62 = .ok (.iaload, 1) := by decide +kernel
theorem d_R_takeMultiple_63 : decode b_R_takeMultiple 63 = .ok (.lload 8, 2) := by decide +kernel
theorem d_R_takeMultiple_65 : decode b_R_takeMultiple 65 = .ok (.lload 5, 2) := by decide +kernel
theorem d_R_takeMultiple_67 : decode b_R_takeMultiple 67 = .ok (.ldc2_w 78, 3) := by decide +kernel
theorem d_R_takeMultiple_70 : decode b_R_takeMultiple 70 = .ok (.lmul, 1) := by decide +kernel
theorem d_R_takeMultiple_71 : decode b_R_takeMultiple 71 = .ok (.lsub, 1) := by decide +kernel
theorem d_R_takeMultiple_72 : decode b_R_takeMultiple 72 = .ok (.l2i, 1) := by decide +kernel
theorem d_R_takeMultiple_73 : decode b_R_takeMultiple 73 = .ok (.isub, 1) := by decide +kernel
theorem d_R_takeMultiple_74 : decode b_R_takeMultiple 74 = .ok (.istore 10, 2) := by decide +kernel
theorem d_R_takeMultiple_76 : decode b_R_takeMultiple 76 = .ok (.iload 10, 2) := by decide +kernel
theorem d_R_takeMultiple_78 : decode b_R_takeMultiple 78 = .ok (.ifCond .ge 16, 3) := by decide +kernel
theorem d_R_takeMultiple_81 : decode b_R_takeMultiple 81 = .ok (.iload 10, 2) := by decide +kernel
theorem d_R_takeMultiple_83 : decode b_R_takeMultiple 83 = .ok (.ldc 70, 2) := by decide +kernel
theorem d_R_takeMultiple_85 : decode b_R_takeMultiple 85 = .ok (.iadd, 1) := by decide +kernel
theorem d_R_takeMultiple_86 : decode b_R_takeMultiple 86 = .ok (.istore 10, 2) := by decide +kernel
theorem d_R_takeMultiple_88 : decode b_R_takeMultiple 88 = .ok (.lload 5, 2) := by decide +kernel
theorem d_R_takeMultiple_90 : decode b_R_takeMultiple 90 = .ok (.lconst 1, 1) := by decide +kernel
theorem d_R_takeMultiple_91 : decode b_R_takeMultiple 91 = .ok (.ladd, 1) := by decide +kernel
theorem d_R_takeMultiple_92 : decode b_R_takeMultiple 92 = .ok (.lstore 5, 2) := by decide +kernel
theorem d_R_takeMultiple_94 : decode b_R_takeMultiple 94 = .ok (.aload_n 0, 1) := by decide +kernel
theorem d_R_takeMultiple_95 : decode b_R_takeMultiple 95 = .ok (.getfield 15, 3) := by decide +kernel
theorem d_R_takeMultiple_98 : decode b_R_takeMultiple 98 = .ok (.iload_n 3, 1) := by decide +kernel
theorem d_R_takeMultiple_99 : decode b_R_takeMultiple 99 = .ok (.iload 7, 2) := by decide +kernel
theorem d_R_takeMultiple_101 : decode b_R_takeMultiple 101 = .ok (.iadd, 1) := by decide +kernel
theorem d_R_takeMultiple_102 : decode b_R_takeMultiple 102 = .ok (.iload 10, 2) := by decide +kernel
theorem d_R_takeMultiple_104 : decode b_R_takeMultiple 104 = .ok (.iastore, 1) := by decide +kernel
theorem d_R_takeMultiple_105 : decode b_R_takeMultiple 105 = .ok (.iinc 7 1, 3) := by decide +kernel
theorem d_R_takeMultiple_108 : decode b_R_takeMultiple 108 = .ok (.goto (-84), 3) := by decide +kernel
theorem d_R_takeMultiple_111 : decode b_R_takeMultiple 111 = .ok (.aload_n 0, 1) := by decide +kernel
theorem d_R_takeMultiple_112 : decode b_R_takeMultiple 112 = .ok (.getfield 15, 3) := by decide +kernel
theorem d_R_takeMultiple_115 : decode b_R_takeMultiple 115 = .ok (.iload_n 3, 1) := by decide +kernel
theorem d_R_takeMultiple_116 : decode b_R_takeMultiple 116 = .ok (.iload 4, 2) := by decide +kernel
theorem d_R_takeMultiple_118 : decode b_R_takeMultiple 118 = .ok (.iadd, 1) := by decide +kernel
theorem d_R_takeMultiple_119 : decode b_R_takeMultiple 119 = .ok (.iaload, 1) := by decide +kernel
theorem d_R_takeMultiple_120 : decode b_R_takeMultiple 120 = .ok (.i2l, 1) := by decide +kernel
theorem d_R_takeMultiple_121 : decode b_R_takeMultiple 121 = .ok (.lload 5, 2) := by decide +kernel
theorem d_R_takeMultiple_123 : decode b_R_takeMultiple 123 = .ok (.lcmp, 1) := by decide +kernel
theorem d_R_takeMultiple_124 : decode b_R_takeMultiple 124 = .ok (.ifCond .ge 7, 3) := by decide +kernel
theorem d_R_takeMultiple_127 : decode b_R_takeMultiple 127 = .ok (.iconst 1, 1) := by decide +kernel
theorem d_R_takeMultiple_128 : decode b_R_takeMultiple 128 = .ok (.goto 4, 3) := by decide +kernel
theorem d_R_takeMultiple_131 : decode b_R_takeMultiple 131 = .ok (.iconst 0, 1) := by decide +kernel
theorem d_R_takeMultiple_132 : decode b_R_takeMultiple 132 = .ok (.istore 7, 2) := by decide +kernel
theorem d_R_takeMultiple_134 : decode b_R_takeMultiple 134 = .ok (.aload_n 0, 1) := by decide +kernel
theorem d_R_takeMultiple_135 : decode b_R_takeMultiple 135 = .ok (.getfield 15, 3) := by decide +kernel
theorem d_R_takeMultiple_138 : decode b_R_takeMultiple 138 = .ok (.iload_n 3, 1) := by decide +kernel
theorem d_R_takeMultiple_139 : decode b_R_takeMultiple 139 = .ok (.iload 4, 2) := by decide +kernel
theorem d_R_takeMultiple_141 : decode b_R_takeMultiple 141 = .ok (.iadd, 1) := by decide +kernel
theorem d_R_takeMultiple_142 : decode b_R_takeMultiple 142 = .ok (.iconst 0, 1) := by decide +kernel
theorem d_R_takeMultiple_143 : decode b_R_takeMultiple 143 = .ok (.iastore, 1) := by decide +kernel
theorem d_R_takeMultiple_144 : decode b_R_takeMultiple 144 = .ok (.iload 7, 2) := by decide +kernel
theorem d_R_takeMultiple_146 : decode b_R_takeMultiple 146 = .ok (.ifCond .eq 10, 3) := by decide +kernel
theorem d_R_takeMultiple_149 : decode b_R_takeMultiple 149 = .ok (.aload_n 0, 1) := by decide +kernel
theorem d_R_takeMultiple_150 : decode b_R_takeMultiple 150 = .ok (.iload_n 3, 1) := by decide +kernel
theorem d_R_takeMultiple_151 : decode b_R_takeMultiple 151 = .ok (.iload 4, 2) := by decide +kernel
theorem d_R_takeMultiple_153 : decode b_R_takeMultiple 153 = .ok (.invokevirtual 109, 3) := by decide +kernel
theorem d_R_takeMultiple_156 : decode b_R_takeMultiple 156 = .ok (.iload 7, 2) := by decide +kernel
theorem d_R_takeMultiple_158 : decode b_R_takeMultiple 158 = .ok (.ifCond .eq 9, 3) := by decide +kernel
theorem d_R_takeMultiple_161 : decode b_R_takeMultiple 161 = .ok (.lload_n 1, 1) := by decide +kernel
theorem d_R_takeMultiple_162 : decode b_R_takeMultiple 162 = .ok (.lconst 1, 1) := by decide +kernel
theorem d_R_takeMultiple_163 : decode b_R_takeMultiple 163 = .ok (.lsub, 1) := by decide +kernel
theorem d_R_takeMultiple_164 : decode b_R_takeMultiple 164 = .ok (.goto 4, 3) := by decide +kernel
theorem d_R_takeMultiple_167 : decode b_R_takeMultiple 167 = .ok (.lload_n 1, 1) := by decide +kernel
theorem d_R_takeMultiple_168 : decode b_R_takeMultiple 168 = .ok (.l2i, 1) := by decide +kernel
theorem d_R_takeMultiple_169 : decode b_R_takeMultiple 169 = .ok (.ireturn, 1) := by decide +kernel
theorem d_R_giveBack_0 : decode b_R_giveBack 0 = .ok (.iconst 0, 1) := by decide +kernel
theorem d_R_giveBack_1 : decode b_R_giveBack 1 = .ok (.istore_n 3, 1) := by decide +kernel
theorem d_R_giveBack_2 : decode b_R_giveBack 2 = .ok (.iconst 0, 1) := by decide +kernel
theorem d_R_giveBack_3 : decode b_R_giveBack 3 = .ok (.istore 4, 2) := by decide +kernel
theorem d_R_giveBack_5 : decode b_R_giveBack 5 = .ok (.iload 4, 2) := by decide +kernel
theorem d_R_giveBack_7 : decode b_R_giveBack 7 = .ok (.iload_n 2, 1) := by decide +kernel
theorem d_R_giveBack_8 : decode b_R_giveBack 8 = .ok (.if_icmp .ge 67, 3) := by decide +kernel
theorem d_R_giveBack_11 : decode b_R_giveBack 11 = .ok (.aload_n 0, 1) := by decide +kernel
theorem d_R_giveBack_12 : decode b_R_giveBack 12 = .ok (.getfield 15, 3) := by decide +kernel
theorem d_R_giveBack_15 : decode b_R_giveBack 15 = .ok (.iload_n 1, 1) := by decide +kernel
theorem d_R_giveBack_16 : decode b_R_giveBack 16 = .ok (.iload 4, 2) := by decide +kernel
theorem d_R_giveBack_18 : decode b_R_giveBack 18 = .ok (.iadd, 1) := by decide +kernel
theorem d_R_giveBack_19 : decode b_R_giveBack 19 = .ok (.iaload, 1) := by decide +kernel
theorem d_R_giveBack_20 : decode b_R_giveBack 20 = .ok (.aload_n 0, 1) := by decide +kernel
theorem d_R_giveBack_21 : decode b_R_giveBack 21 = .ok (.getfield 18, 3) := by decide +kernel
theorem d_R_giveBack_24 : decode b_R_giveBack 24 = .ok (.iload 4, 2) := by decide +kernel
