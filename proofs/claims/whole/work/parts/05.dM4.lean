theorem d_M_share_0 : decode b_M_share 0 = .ok (.aload_n 0, 1) := by decide +kernel
theorem d_M_share_1 : decode b_M_share 1 = .ok (.getfield 16, 3) := by decide +kernel
theorem d_M_share_4 : decode b_M_share 4 = .ok (.iload_n 2, 1) := by decide +kernel
theorem d_M_share_5 : decode b_M_share 5 = .ok (.iaload, 1) := by decide +kernel
theorem d_M_share_6 : decode b_M_share 6 = .ok (.aload_n 0, 1) := by decide +kernel
theorem d_M_share_7 : decode b_M_share 7 = .ok (.getfield 16, 3) := by decide +kernel
theorem d_M_share_10 : decode b_M_share 10 = .ok (.iload_n 3, 1) := by decide +kernel
theorem d_M_share_11 : decode b_M_share 11 = .ok (.iaload, 1) := by decide +kernel
theorem d_M_share_12 : decode b_M_share 12 = .ok (.imul, 1) := by decide +kernel
theorem d_M_share_13 : decode b_M_share 13 = .ok (.istore 4, 2) := by decide +kernel
theorem d_M_share_15 : decode b_M_share 15 = .ok (.aload_n 0, 1) := by decide +kernel
theorem d_M_share_16 : decode b_M_share 16 = .ok (.iload_n 2, 1) := by decide +kernel
theorem d_M_share_17 : decode b_M_share 17 = .ok (.bipush 53, 2) := by decide +kernel
theorem d_M_share_19 : decode b_M_share 19 = .ok (.invokevirtual 40, 3) := by decide +kernel
theorem d_M_share_22 : decode b_M_share 22 = .ok (.aload_n 0, 1) := by decide +kernel
theorem d_M_share_23 : decode b_M_share 23 = .ok (.iload_n 3, 1) := by decide +kernel
theorem d_M_share_24 : decode b_M_share 24 = .ok (.bipush 54, 2) := by decide +kernel
theorem d_M_share_26 : decode b_M_share 26 = .ok (.invokevirtual 40, 3) := by decide +kernel
theorem d_M_share_29 : decode b_M_share 29 = .ok (.aload_n 0, 1) := by decide +kernel
theorem d_M_share_30 : decode b_M_share 30 = .ok (.iload_n 1, 1) := by decide +kernel
theorem d_M_share_31 : decode b_M_share 31 = .ok (.bipush 53, 2) := by decide +kernel
theorem d_M_share_33 : decode b_M_share 33 = .ok (.bipush 54, 2) := by decide +kernel
theorem d_M_share_35 : decode b_M_share 35 = .ok (.invokevirtual 66, 3) := by decide +kernel
theorem d_M_share_38 : decode b_M_share 38 = .ok (.aload_n 0, 1) := by decide +kernel
theorem d_M_share_39 : decode b_M_share 39 = .ok (.getfield 16, 3) := by decide +kernel
theorem d_M_share_42 : decode b_M_share 42 = .ok (.iload_n 1, 1) := by decide +kernel
theorem d_M_share_43 : decode b_M_share 43 = .ok (.aload_n 0, 1) := by decide +kernel
theorem d_M_share_44 : decode b_M_share 44 = .ok (.getfield 16, 3) := by decide +kernel
theorem d_M_share_47 : decode b_M_share 47 = .ok (.iload_n 1, 1) := by decide +kernel
theorem d_M_share_48 : decode b_M_share 48 = .ok (.iaload, 1) := by decide +kernel
theorem d_M_share_49 : decode b_M_share 49 = .ok (.ifCond .ne 7, 3) := by decide +kernel
theorem d_M_share_52 : decode b_M_share 52 = .ok (.iconst 0, 1) := by decide +kernel
theorem d_M_share_53 : decode b_M_share 53 = .ok (.goto 5, 3) := by decide +kernel
theorem d_M_share_56 : decode b_M_share 56 = .ok (.iload 4, 2) := by decide +kernel
theorem d_M_share_58 : decode b_M_share 58 = .ok (.iastore, 1) := by decide +kernel
theorem d_M_share_59 : decode b_M_share 59 = .ok (.return_, 1) := by decide +kernel
theorem d_M_digitsOf_0 : decode b_M_digitsOf 0 = .ok (.aload_n 0, 1) := by decide +kernel
theorem d_M_digitsOf_1 : decode b_M_digitsOf 1 = .ok (.getfield 13, 3) := by decide +kernel
theorem d_M_digitsOf_4 : decode b_M_digitsOf 4 = .ok (.iload_n 1, 1) := by decide +kernel
theorem d_M_digitsOf_5 : decode b_M_digitsOf 5 = .ok (.iaload, 1) := by decide +kernel
theorem d_M_digitsOf_6 : decode b_M_digitsOf 6 = .ok (.ifCond .ne 5, 3) := by decide +kernel
theorem d_M_digitsOf_9 : decode b_M_digitsOf 9 = .ok (.iconst 1, 1) := by decide +kernel
theorem d_M_digitsOf_10 : decode b_M_digitsOf 10 = .ok (.ireturn, 1) := by decide +kernel
theorem d_M_digitsOf_11 : decode b_M_digitsOf 11 = .ok (.bipush 9, 2) := by decide +kernel
theorem d_M_digitsOf_13 : decode b_M_digitsOf 13 = .ok (.aload_n 0, 1) := by decide +kernel
theorem d_M_digitsOf_14 : decode b_M_digitsOf 14 = .ok (.getfield 13, 3) := by decide +kernel
theorem d_M_digitsOf_17 : decode b_M_digitsOf 17 = .ok (.iload_n 1, 1) := by decide +kernel
theorem d_M_digitsOf_18 : decode b_M_digitsOf 18 = .ok (.iaload, 1) := by decide +kernel
theorem d_M_digitsOf_19 : decode b_M_digitsOf 19 = .ok (.iconst 1, 1) := by decide +kernel
theorem d_M_digitsOf_20 : decode b_M_digitsOf 20 = .ok (.isub, 1) := by decide +kernel
theorem d_M_digitsOf_21 : decode b_M_digitsOf 21 = .ok (.imul, 1) := by decide +kernel
theorem d_M_digitsOf_22 : decode b_M_digitsOf 22 = .ok (.istore_n 2, 1) := by decide +kernel
theorem d_M_digitsOf_23 : decode b_M_digitsOf 23 = .ok (.aload_n 0, 1) := by decide +kernel
theorem d_M_digitsOf_24 : decode b_M_digitsOf 24 = .ok (.getfield 9, 3) := by decide +kernel
theorem d_M_digitsOf_27 : decode b_M_digitsOf 27 = .ok (.sipush 460, 3) := by decide +kernel
theorem d_M_digitsOf_30 : decode b_M_digitsOf 30 = .ok (.iload_n 1, 1) := by decide +kernel
theorem d_M_digitsOf_31 : decode b_M_digitsOf 31 = .ok (.imul, 1) := by decide +kernel
theorem d_M_digitsOf_32 : decode b_M_digitsOf 32 = .ok (.aload_n 0, 1) := by decide +kernel
theorem d_M_digitsOf_33 : decode b_M_digitsOf 33 = .ok (.getfield 13, 3) := by decide +kernel
theorem d_M_digitsOf_36 : decode b_M_digitsOf 36 = .ok (.iload_n 1, 1) := by decide +kernel
theorem d_M_digitsOf_37 : decode b_M_digitsOf 37 = .ok (.iaload, 1) := by decide +kernel
theorem d_M_digitsOf_38 : decode b_M_digitsOf 38 = .ok (.iadd, 1) := by decide +kernel
theorem d_M_digitsOf_39 : decode b_M_digitsOf 39 = .ok (.iconst 1, 1) := by decide +kernel
theorem d_M_digitsOf_40 : decode b_M_digitsOf 40 = .ok (.isub, 1) := by decide +kernel
theorem d_M_digitsOf_41 : decode b_M_digitsOf 41 = .ok (.iaload, 1) := by decide +kernel
theorem d_M_digitsOf_42 : decode b_M_digitsOf 42 = .ok (.istore_n 3, 1) := by decide +kernel
theorem d_M_digitsOf_43 : decode b_M_digitsOf 43 = .ok (.iload_n 3, 1) := by decide +kernel
theorem d_M_digitsOf_44 : decode b_M_digitsOf 44 = .ok (.ifCond .le 14, 3) := by decide +kernel
theorem d_M_digitsOf_47 : decode b_M_digitsOf 47 = .ok (.iinc 2 1, 3) := by decide +kernel
theorem d_M_digitsOf_50 : decode b_M_digitsOf 50 = .ok (.iload_n 3, 1) := by decide +kernel
theorem d_M_digitsOf_51 : decode b_M_digitsOf 51 = .ok (.bipush 10, 2) := by decide +kernel
theorem d_M_digitsOf_53 : decode b_M_digitsOf 53 = .ok (.idiv, 1) := by decide +kernel
theorem d_M_digitsOf_54 : decode b_M_digitsOf 54 = .ok (.istore_n 3, 1) := by decide +kernel
theorem d_M_digitsOf_55 : decode b_M_digitsOf 55 = .ok (.goto (-12), 3) := by decide +kernel
theorem d_M_digitsOf_58 : decode b_M_digitsOf 58 = .ok (.iload_n 2, 1) := by decide +kernel
theorem d_M_digitsOf_59 : decode b_M_digitsOf 59 = .ok (.ireturn, 1) := by decide +kernel
theorem d_M_curve_0 : decode b_M_curve 0 = .ok (.aload_n 0, 1) := by decide +kernel
theorem d_M_curve_1 : decode b_M_curve 1 = .ok (.iconst 0, 1) := by decide +kernel
theorem d_M_curve_2 : decode b_M_curve 2 = .ok (.putfield 30, 3) := by decide +kernel
theorem d_M_curve_5 : decode b_M_curve 5 = .ok (.iload_n 1, 1) := by decide +kernel
theorem d_M_curve_6 : decode b_M_curve 6 = .ok (.invokestatic 69, 3) := by decide +kernel
theorem d_M_curve_9 : decode b_M_curve 9 = .ok (.ifCond .eq 33, 3) := by decide +kernel
theorem d_M_curve_12 : decode b_M_curve 12 = .ok (.iload_n 2, 1) := by decide +kernel
theorem d_M_curve_13 : decode b_M_curve 13 = .ok (.invokestatic 69, 3) := by decide +kernel
theorem d_M_curve_16 : decode b_M_curve 16 = .ok (.ifCond .eq 26, 3) := by decide +kernel
theorem d_M_curve_19 : decode b_M_curve 19 = .ok (.iload_n 3, 1) := by decide +kernel
theorem d_M_curve_20 : decode b_M_curve 20 = .ok (.invokestatic 69, 3) := by decide +kernel
theorem d_M_curve_23 : decode b_M_curve 23 = .ok (.ifCond .eq 19, 3) := by decide +kernel
theorem d_M_curve_26 : decode b_M_curve 26 = .ok (.iload 4, 2) := by decide +kernel
theorem d_M_curve_28 : decode b_M_curve 28 = .ok (.invokestatic 69, 3) := by decide +kernel
theorem d_M_curve_31 : decode b_M_curve 31 = .ok (.ifCond .eq 11, 3) := by decide +kernel
theorem d_M_curve_34 : decode b_M_curve 34 = .ok (.iload 5, 2) := by decide +kernel
theorem d_M_curve_36 : decode b_M_curve 36 = .ok (.invokestatic 69, 3) := by decide +kernel
theorem d_M_curve_39 : decode b_M_curve 39 = .ok (.ifCond .ne 5, 3) := by decide +kernel
theorem d_M_curve_42 : decode b_M_curve 42 = .ok (.iconst (-1), 1) := by decide +kernel
theorem d_M_curve_43 : decode b_M_curve 43 = .ok (.ireturn, 1) := by decide +kernel
theorem d_M_curve_44 : decode b_M_curve 44 = .ok (.iload_n 1, 1) := by decide +kernel
theorem d_M_curve_45 : decode b_M_curve 45 = .ok (.i2l, 1) := by decide +kernel
theorem d_M_curve_46 : decode b_M_curve 46 = .ok (.iload_n 1, 1) := by decide +kernel
theorem d_M_curve_47 : decode b_M_curve 47 = .ok (.i2l, 1) := by decide +kernel
theorem d_M_curve_48 : decode b_M_curve 48 = .ok (.lmul, 1) := by decide +kernel
theorem d_M_curve_49 : decode b_M_curve 49 = .ok (.ldc2_w 73, 3) := by decide +kernel
theorem d_M_curve_52 : decode b_M_curve 52 = .ok (.iload_n 2, 1) := by decide +kernel
theorem d_M_curve_53 : decode b_M_curve 53 = .ok (.i2l, 1) := by decide +kernel
theorem d_M_curve_54 : decode b_M_curve 54 = .ok (.lmul, 1) := by decide +kernel
theorem d_M_curve_55 : decode b_M_curve 55 = .ok (.ladd, 1) := by decide +kernel
theorem d_M_curve_56 : decode b_M_curve 56 = .ok (.lstore 6, 2) := by decide +kernel
theorem d_M_curve_58 : decode b_M_curve 58 = .ok (.iload_n 1, 1) := by decide +kernel
theorem d_M_curve_59 : decode b_M_curve 59 = .ok (.i2l, 1) := by decide +kernel
theorem d_M_curve_60 : decode b_M_curve 60 = .ok (.iload_n 3, 1) := by decide +kernel
theorem d_M_curve_61 : decode b_M_curve 61 = .ok (.i2l, 1) := by decide +kernel
theorem d_M_curve_62 : decode b_M_curve 62 = .ok (.lmul, 1) := by decide +kernel
theorem d_M_curve_63 : decode b_M_curve 63 = .ok (.ldc2_w 75, 3) := by decide +kernel
theorem d_M_curve_66 : decode b_M_curve 66 = .ok (.iload 4, 2) := by decide +kernel
theorem d_M_curve_68 : decode b_M_curve 68 = .ok (.i2l, 1) := by decide +kernel
theorem d_M_curve_69 : decode b_M_curve 69 = .ok (.lmul, 1) := by decide +kernel
theorem d_M_curve_70 : decode b_M_curve 70 = .ok (.ladd, 1) := by decide +kernel
theorem d_M_curve_71 : decode b_M_curve 71 = .ok (.lstore 8, 2) := by decide +kernel
theorem d_M_curve_73 : decode b_M_curve 73 = .ok (.iload_n 3, 1) := by decide +kernel
theorem d_M_curve_74 : decode b_M_curve 74 = .ok (.i2l, 1) := by decide +kernel
theorem d_M_curve_75 : decode b_M_curve 75 = .ok (.iload_n 3, 1) := by decide +kernel
theorem d_M_curve_76 : decode b_M_curve 76 = .ok (.i2l, 1) := by decide +kernel
theorem d_M_curve_77 : decode b_M_curve 77 = .ok (.lmul, 1) := by decide +kernel
theorem d_M_curve_78 : decode b_M_curve 78 = .ok (.ldc2_w 73, 3) := by decide +kernel
theorem d_M_curve_81 : decode b_M_curve 81 = .ok (.iload 5, 2) := by decide +kernel
theorem d_M_curve_83 : decode b_M_curve 83 = .ok (.i2l, 1) := by decide +kernel
theorem d_M_curve_84 : decode b_M_curve 84 = .ok (.lmul, 1) := by decide +kernel
theorem d_M_curve_85 : decode b_M_curve 85 = .ok (.ladd, 1) := by decide +kernel
theorem d_M_curve_86 : decode b_M_curve 86 = .ok (.lstore 10, 2) := by decide +kernel
theorem d_M_curve_88 : decode b_M_curve 88 = .ok (.iload_n 1, 1) := by decide +kernel
theorem d_M_curve_89 : decode b_M_curve 89 = .ok (.i2l, 1) := by decide +kernel
theorem d_M_curve_90 : decode b_M_curve 90 = .ok (.iload_n 1, 1) := by decide +kernel
theorem d_M_curve_91 : decode b_M_curve 91 = .ok (.i2l, 1) := by decide +kernel
theorem d_M_curve_92 : decode b_M_curve 92 = .ok (.lmul, 1) := by decide +kernel
theorem d_M_curve_93 : decode b_M_curve 93 = .ok (.iload 5, 2) := by decide +kernel
theorem d_M_curve_95 : decode b_M_curve 95 = .ok (.i2l, 1) := by decide +kernel
theorem d_M_curve_96 : decode b_M_curve 96 = .ok (.lmul, 1) := by decide +kernel
theorem d_M_curve_97 : decode b_M_curve 97 = .ok (.iload_n 1, 1) := by decide +kernel
theorem d_M_curve_98 : decode b_M_curve 98 = .ok (.i2l, 1) := by decide +kernel
theorem d_M_curve_99 : decode b_M_curve 99 = .ok (.iload_n 3, 1) := by decide +kernel
theorem d_M_curve_100 : decode b_M_curve 100 = .ok (.i2l, 1) := by decide +kernel
theorem d_M_curve_101 : decode b_M_curve 101 = .ok (.lmul, 1) := by decide +kernel
theorem d_M_curve_102 : decode b_M_curve 102 = .ok (.iload 4, 2) := by decide +kernel
theorem d_M_curve_104 : decode b_M_curve 104 = .ok (.i2l, 1) := by decide +kernel
theorem d_M_curve_105 : decode b_M_curve 105 = .ok (.lmul, 1) := by decide +kernel
theorem d_M_curve_106 : decode b_M_curve 106 = .ok (.lsub, 1) := by decide +kernel
theorem d_M_curve_107 : decode b_M_curve 107 = .ok (.ldc2_w 73, 3) := by decide +kernel
theorem d_M_curve_110 : decode b_M_curve 110 = .ok (.iload_n 2, 1) := by decide +kernel
theorem d_M_curve_111 : decode b_M_curve 111 = .ok (.i2l, 1) := by decide +kernel
theorem d_M_curve_112 : decode b_M_curve 112 = .ok (.lmul, 1) := by decide +kernel
theorem d_M_curve_113 : decode b_M_curve 113 = .ok (.iload 5, 2) := by decide +kernel
theorem d_M_curve_115 : decode b_M_curve 115 = .ok (.i2l, 1) := by decide +kernel
theorem d_M_curve_116 : decode b_M_curve 116 = .ok (.lmul, 1) := by decide +kernel
theorem d_M_curve_117 : decode b_M_curve 117 = .ok (.ladd, 1) := by decide +kernel
theorem d_M_curve_118 : decode b_M_curve 118 = .ok (.iload_n 2, 1) := by decide +kernel
theorem d_M_curve_119 : decode b_M_curve 119 = .ok (.i2l, 1) := by decide +kernel
theorem d_M_curve_120 : decode b_M_curve 120 = .ok (.iload_n 3, 1) := by decide +kernel
theorem d_M_curve_121 : decode b_M_curve 121 = .ok (.i2l, 1) := by decide +kernel
theorem d_M_curve_122 : decode b_M_curve 122 = .ok (.lmul, 1) := by decide +kernel
theorem d_M_curve_123 : decode b_M_curve 123 = .ok (.iload_n 3, 1) := by decide +kernel
theorem d_M_curve_124 : decode b_M_curve 124 = .ok (.i2l, 1) := by decide +kernel
theorem d_M_curve_125 : decode b_M_curve 125 = .ok (.lmul, 1) := by decide +kernel
theorem d_M_curve_126 : decode b_M_curve 126 = .ok (.ladd, 1) := by decide +kernel
theorem d_M_curve_127 : decode b_M_curve 127 = .ok (.iload 4, 2) := by decide +kernel
theorem d_M_curve_129 : decode b_M_curve 129 = .ok (.i2l, 1) := by decide +kernel
theorem d_M_curve_130 : decode b_M_curve 130 = .ok (.iload 4, 2) := by decide +kernel
theorem d_M_curve_132 : decode b_M_curve 132 = .ok (.i2l, 1) := by decide +kernel
theorem d_M_curve_133 : decode b_M_curve 133 = .ok (.lmul, 1) := by decide +kernel
theorem d_M_curve_134 : decode b_M_curve 134 = .ok (.lsub, 1) := by decide +kernel
theorem d_M_curve_135 : decode b_M_curve 135 = .ok (.lstore 12, 2) := by decide +kernel
theorem d_M_curve_137 : decode b_M_curve 137 = .ok (.aload_n 0, 1) := by decide +kernel
theorem d_M_curve_138 : decode b_M_curve 138 = .ok (.bipush 45, 2) := by decide +kernel
theorem d_M_curve_140 : decode b_M_curve 140 = .ok (.lload 6, 2) := by decide +kernel
theorem d_M_curve_142 : decode b_M_curve 142 = .ok (.lload 8, 2) := by decide +kernel
theorem d_M_curve_144 : decode b_M_curve 144 = .ok (.lload 10, 2) := by decide +kernel
theorem d_M_curve_146 : decode b_M_curve 146 = .ok (.ldc2_w 77, 3) := by decide +kernel
theorem d_M_curve_149 : decode b_M_curve 149 = .ok (.invokevirtual 79, 3) := by decide +kernel
theorem d_M_curve_152 : decode b_M_curve 152 = .ok (.aload_n 0, 1) := by decide +kernel
theorem d_M_curve_153 : decode b_M_curve 153 = .ok (.bipush 46, 2) := by decide +kernel
theorem d_M_curve_155 : decode b_M_curve 155 = .ok (.lload 6, 2) := by decide +kernel
theorem d_M_curve_157 : decode b_M_curve 157 = .ok (.lload 6, 2) := by decide +kernel
theorem d_M_curve_159 : decode b_M_curve 159 = .ok (.lload 12, 2) := by decide +kernel
theorem d_M_curve_161 : decode b_M_curve 161 = .ok (.lconst 1, 1) := by decide +kernel
theorem d_M_curve_162 : decode b_M_curve 162 = .ok (.invokevirtual 79, 3) := by decide +kernel
theorem d_M_curve_165 : decode b_M_curve 165 = .ok (.aload_n 0, 1) := by decide +kernel
theorem d_M_curve_166 : decode b_M_curve 166 = .ok (.bipush 45, 2) := by decide +kernel
theorem d_M_curve_168 : decode b_M_curve 168 = .ok (.bipush 45, 2) := by decide +kernel
theorem d_M_curve_170 : decode b_M_curve 170 = .ok (.bipush 46, 2) := by decide +kernel
theorem d_M_curve_172 : decode b_M_curve 172 = .ok (.iconst (-1), 1) := by decide +kernel
theorem d_M_curve_173 : decode b_M_curve 173 = .ok (.invokevirtual 83, 3) := by decide +kernel
theorem d_M_curve_176 : decode b_M_curve 176 = .ok (.aload_n 0, 1) := by decide +kernel
theorem d_M_curve_177 : decode b_M_curve 177 = .ok (.bipush 46, 2) := by decide +kernel
theorem d_M_curve_179 : decode b_M_curve 179 = .ok (.lload 8, 2) := by decide +kernel
theorem d_M_curve_181 : decode b_M_curve 181 = .ok (.lload 8, 2) := by decide +kernel
theorem d_M_curve_183 : decode b_M_curve 183 = .ok (.lload 8, 2) := by decide +kernel
theorem d_M_curve_185 : decode b_M_curve 185 = .ok (.ldc2_w 86, 3) := by decide +kernel
theorem d_M_curve_188 : decode b_M_curve 188 = .ok (.invokevirtual 79, 3) := by decide +kernel
theorem d_M_curve_191 : decode b_M_curve 191 = .ok (.aload_n 0, 1) := by decide +kernel
theorem d_M_curve_192 : decode b_M_curve 192 = .ok (.bipush 45, 2) := by decide +kernel
theorem d_M_curve_194 : decode b_M_curve 194 = .ok (.bipush 45, 2) := by decide +kernel
theorem d_M_curve_196 : decode b_M_curve 196 = .ok (.bipush 46, 2) := by decide +kernel
theorem d_M_curve_198 : decode b_M_curve 198 = .ok (.iconst (-1), 1) := by decide +kernel
theorem d_M_curve_199 : decode b_M_curve 199 = .ok (.invokevirtual 83, 3) := by decide +kernel
theorem d_M_curve_202 : decode b_M_curve 202 = .ok (.aload_n 0, 1) := by decide +kernel
theorem d_M_curve_203 : decode b_M_curve 203 = .ok (.bipush 46, 2) := by decide +kernel
theorem d_M_curve_205 : decode b_M_curve 205 = .ok (.lload 10, 2) := by decide +kernel
theorem d_M_curve_207 : decode b_M_curve 207 = .ok (.lload 10, 2) := by decide +kernel
theorem d_M_curve_209 : decode b_M_curve 209 = .ok (.ldc2_w 88, 3) := by decide +kernel
theorem d_M_curve_212 : decode b_M_curve 212 = .ok (.lconst 1, 1) := by decide +kernel
theorem d_M_curve_213 : decode b_M_curve 213 = .ok (.invokevirtual 79, 3) := by decide +kernel
theorem d_M_curve_216 : decode b_M_curve 216 = .ok (.aload_n 0, 1) := by decide +kernel
theorem d_M_curve_217 : decode b_M_curve 217 = .ok (.bipush 45, 2) := by decide +kernel
theorem d_M_curve_219 : decode b_M_curve 219 = .ok (.bipush 45, 2) := by decide +kernel
theorem d_M_curve_221 : decode b_M_curve 221 = .ok (.bipush 46, 2) := by decide +kernel
theorem d_M_curve_223 : decode b_M_curve 223 = .ok (.iconst (-1), 1) := by decide +kernel
theorem d_M_curve_224 : decode b_M_curve 224 = .ok (.invokevirtual 83, 3) := by decide +kernel
theorem d_M_curve_227 : decode b_M_curve 227 = .ok (.aload_n 0, 1) := by decide +kernel
theorem d_M_curve_228 : decode b_M_curve 228 = .ok (.getfield 16, 3) := by decide +kernel
theorem d_M_curve_231 : decode b_M_curve 231 = .ok (.bipush 45, 2) := by decide +kernel
theorem d_M_curve_233 : decode b_M_curve 233 = .ok (.iaload, 1) := by decide +kernel
theorem d_M_curve_234 : decode b_M_curve 234 = .ok (.ifCond .ne 5, 3) := by decide +kernel
theorem d_M_curve_237 : decode b_M_curve 237 = .ok (.iconst 5, 1) := by decide +kernel
theorem d_M_curve_238 : decode b_M_curve 238 = .ok (.ireturn, 1) := by decide +kernel
theorem d_M_curve_239 : decode b_M_curve 239 = .ok (.aload_n 0, 1) := by decide +kernel
theorem d_M_curve_240 : decode b_M_curve 240 = .ok (.bipush 24, 2) := by decide +kernel
theorem d_M_curve_242 : decode b_M_curve 242 = .ok (.iload_n 1, 1) := by decide +kernel
theorem d_M_curve_243 : decode b_M_curve 243 = .ok (.i2l, 1) := by decide +kernel
theorem d_M_curve_244 : decode b_M_curve 244 = .ok (.invokevirtual 26, 3) := by decide +kernel
theorem d_M_curve_247 : decode b_M_curve 247 = .ok (.aload_n 0, 1) := by decide +kernel
theorem d_M_curve_248 : decode b_M_curve 248 = .ok (.bipush 25, 2) := by decide +kernel
theorem d_M_curve_250 : decode b_M_curve 250 = .ok (.iload_n 2, 1) := by decide +kernel
theorem d_M_curve_251 : decode b_M_curve 251 = .ok (.i2l, 1) := by decide +kernel
theorem d_M_curve_252 : decode b_M_curve 252 = .ok (.invokevirtual 26, 3) := by decide +kernel
theorem d_M_curve_255 : decode b_M_curve 255 = .ok (.aload_n 0, 1) := by decide +kernel
theorem d_M_curve_256 : decode b_M_curve 256 = .ok (.bipush 26, 2) := by decide +kernel
theorem d_M_curve_258 : decode b_M_curve 258 = .ok (.iload_n 3, 1) := by decide +kernel
theorem d_M_curve_259 : decode b_M_curve 259 = .ok (.i2l, 1) := by decide +kernel
theorem d_M_curve_260 : decode b_M_curve 260 = .ok (.invokevirtual 26, 3) := by decide +kernel
theorem d_M_curve_263 : decode b_M_curve 263 = .ok (.aload_n 0, 1) := by decide +kernel
theorem d_M_curve_264 : decode b_M_curve 264 = .ok (.bipush 27, 2) := by decide +kernel
theorem d_M_curve_266 : decode b_M_curve 266 = .ok (.iload 4, 2) := by decide +kernel
theorem d_M_curve_268 : decode b_M_curve 268 = .ok (.i2l, 1) := by decide +kernel
theorem d_M_curve_269 : decode b_M_curve 269 = .ok (.invokevirtual 26, 3) := by decide +kernel
theorem d_M_curve_272 : decode b_M_curve 272 = .ok (.aload_n 0, 1) := by decide +kernel
theorem d_M_curve_273 : decode b_M_curve 273 = .ok (.bipush 28, 2) := by decide +kernel
theorem d_M_curve_275 : decode b_M_curve 275 = .ok (.iload 5, 2) := by decide +kernel
theorem d_M_curve_277 : decode b_M_curve 277 = .ok (.i2l, 1) := by decide +kernel
theorem d_M_curve_278 : decode b_M_curve 278 = .ok (.invokevirtual 26, 3) := by decide +kernel
theorem d_M_curve_281 : decode b_M_curve 281 = .ok (.aload_n 0, 1) := by decide +kernel
theorem d_M_curve_282 : decode b_M_curve 282 = .ok (.invokevirtual 23, 3) := by decide +kernel
theorem d_M_curve_285 : decode b_M_curve 285 = .ok (.iconst 0, 1) := by decide +kernel
theorem d_M_curve_286 : decode b_M_curve 286 = .ok (.ireturn, 1) := by decide +kernel
theorem d_M_isIn_0 : decode b_M_isIn 0 = .ok (.iload_n 0, 1) := by decide +kernel
theorem d_M_isIn_1 : decode b_M_isIn 1 = .ok (.ldc 90, 2) := by decide +kernel
theorem d_M_isIn_3 : decode b_M_isIn 3 = .ok (.if_icmp .lt 13, 3) := by decide +kernel
theorem d_M_isIn_6 : decode b_M_isIn 6 = .ok (.iload_n 0, 1) := by decide +kernel
theorem d_M_isIn_7 : decode b_M_isIn 7 = .ok (.ldc 91, 2) := by decide +kernel
theorem d_M_isIn_9 : decode b_M_isIn 9 = .ok (.if_icmp .gt 7, 3) := by decide +kernel
theorem d_M_isIn_12 : decode b_M_isIn 12 = .ok (.iconst 1, 1) := by decide +kernel
theorem d_M_isIn_13 : decode b_M_isIn 13 = .ok (.goto 4, 3) := by decide +kernel
theorem d_M_isIn_16 : decode b_M_isIn 16 = .ok (.iconst 0, 1) := by decide +kernel
theorem d_M_isIn_17 : decode b_M_isIn 17 = .ok (.ireturn, 1) := by decide +kernel
theorem d_M_product_0 : decode b_M_product 0 = .ok (.aload_n 0, 1) := by decide +kernel
theorem d_M_product_1 : decode b_M_product 1 = .ok (.bipush 47, 2) := by decide +kernel
theorem d_M_product_3 : decode b_M_product 3 = .ok (.lload_n 2, 1) := by decide +kernel
theorem d_M_product_4 : decode b_M_product 4 = .ok (.invokevirtual 26, 3) := by decide +kernel
theorem d_M_product_7 : decode b_M_product 7 = .ok (.aload_n 0, 1) := by decide +kernel
theorem d_M_product_8 : decode b_M_product 8 = .ok (.bipush 48, 2) := by decide +kernel
theorem d_M_product_10 : decode b_M_product 10 = .ok (.lload 4, 2) := by decide +kernel
theorem d_M_product_12 : decode b_M_product 12 = .ok (.invokevirtual 26, 3) := by decide +kernel
theorem d_M_product_15 : decode b_M_product 15 = .ok (.aload_n 0, 1) := by decide +kernel
theorem d_M_product_16 : decode b_M_product 16 = .ok (.bipush 49, 2) := by decide +kernel
theorem d_M_product_18 : decode b_M_product 18 = .ok (.bipush 47, 2) := by decide +kernel
theorem d_M_product_20 : decode b_M_product 20 = .ok (.bipush 48, 2) := by decide +kernel
theorem d_M_product_22 : decode b_M_product 22 = .ok (.invokevirtual 92, 3) := by decide +kernel
theorem d_M_product_25 : decode b_M_product 25 = .ok (.aload_n 0, 1) := by decide +kernel
theorem d_M_product_26 : decode b_M_product 26 = .ok (.bipush 47, 2) := by decide +kernel
theorem d_M_product_28 : decode b_M_product 28 = .ok (.lload 6, 2) := by decide +kernel
theorem d_M_product_30 : decode b_M_product 30 = .ok (.invokevirtual 26, 3) := by decide +kernel
theorem d_M_product_33 : decode b_M_product 33 = .ok (.aload_n 0, 1) := by decide +kernel
theorem d_M_product_34 : decode b_M_product 34 = .ok (.bipush 48, 2) := by decide +kernel
theorem d_M_product_36 : decode b_M_product 36 = .ok (.bipush 49, 2) := by decide +kernel
theorem d_M_product_38 : decode b_M_product 38 = .ok (.bipush 47, 2) := by decide +kernel
theorem d_M_product_40 : decode b_M_product 40 = .ok (.invokevirtual 92, 3) := by decide +kernel
theorem d_M_product_43 : decode b_M_product 43 = .ok (.aload_n 0, 1) := by decide +kernel
theorem d_M_product_44 : decode b_M_product 44 = .ok (.bipush 47, 2) := by decide +kernel
theorem d_M_product_46 : decode b_M_product 46 = .ok (.lload 8, 2) := by decide +kernel
theorem d_M_product_48 : decode b_M_product 48 = .ok (.invokevirtual 26, 3) := by decide +kernel
theorem d_M_product_51 : decode b_M_product 51 = .ok (.aload_n 0, 1) := by decide +kernel
theorem d_M_product_52 : decode b_M_product 52 = .ok (.iload_n 1, 1) := by decide +kernel
theorem d_M_product_53 : decode b_M_product 53 = .ok (.bipush 48, 2) := by decide +kernel
theorem d_M_product_55 : decode b_M_product 55 = .ok (.bipush 47, 2) := by decide +kernel
theorem d_M_product_57 : decode b_M_product 57 = .ok (.invokevirtual 92, 3) := by decide +kernel
theorem d_M_product_60 : decode b_M_product 60 = .ok (.return_, 1) := by decide +kernel
theorem d_M_isSlot_0 : decode b_M_isSlot 0 = .ok (.iload_n 0, 1) := by decide +kernel
theorem d_M_isSlot_1 : decode b_M_isSlot 1 = .ok (.ifCond .lt 13, 3) := by decide +kernel
theorem d_M_isSlot_4 : decode b_M_isSlot 4 = .ok (.iload_n 0, 1) := by decide +kernel
theorem d_M_isSlot_5 : decode b_M_isSlot 5 = .ok (.bipush 8, 2) := by decide +kernel
theorem d_M_isSlot_7 : decode b_M_isSlot 7 = .ok (.if_icmp .ge 7, 3) := by decide +kernel
theorem d_M_isSlot_10 : decode b_M_isSlot 10 = .ok (.iconst 1, 1) := by decide +kernel
theorem d_M_isSlot_11 : decode b_M_isSlot 11 = .ok (.goto 4, 3) := by decide +kernel
theorem d_M_isSlot_14 : decode b_M_isSlot 14 = .ok (.iconst 0, 1) := by decide +kernel
theorem d_M_isSlot_15 : decode b_M_isSlot 15 = .ok (.ireturn, 1) := by decide +kernel
theorem d_M_move_0 : decode b_M_move 0 = .ok (.aload_n 0, 1) := by decide +kernel
theorem d_M_move_1 : decode b_M_move 1 = .ok (.getfield 19, 3) := by decide +kernel
theorem d_M_move_4 : decode b_M_move 4 = .ok (.iload_n 2, 1) := by decide +kernel
theorem d_M_move_5 : decode b_M_move 5 = .ok (.aload_n 0, 1) := by decide +kernel
theorem d_M_move_6 : decode b_M_move 6 = .ok (.getfield 19, 3) := by decide +kernel
theorem d_M_move_9 : decode b_M_move 9 = .ok (.iload_n 1, 1) := by decide +kernel
theorem d_M_move_10 : decode b_M_move 10 = .ok (.baload, 1) := by decide +kernel
theorem d_M_move_11 : decode b_M_move 11 = .ok (.bastore, 1) := by decide +kernel
theorem d_M_move_12 : decode b_M_move 12 = .ok (.iconst 0, 1) := by decide +kernel
theorem d_M_move_13 : decode b_M_move 13 = .ok (.istore_n 3, 1) := by decide +kernel
theorem d_M_move_14 : decode b_M_move 14 = .ok (.iload_n 3, 1) := by decide +kernel
theorem d_M_move_15 : decode b_M_move 15 = .ok (.iconst 3, 1) := by decide +kernel
theorem d_M_move_16 : decode b_M_move 16 = .ok (.if_icmp .ge 28, 3) := by decide +kernel
theorem d_M_move_19 : decode b_M_move 19 = .ok (.aload_n 0, 1) := by decide +kernel
theorem d_M_move_20 : decode b_M_move 20 = .ok (.getfield 19, 3) := by decide +kernel
theorem d_M_move_23 : decode b_M_move 23 = .ok (.iload_n 1, 1) := by decide +kernel
theorem d_M_move_24 : decode b_M_move 24 = .ok (.baload, 1) := by decide +kernel
theorem d_M_move_25 : decode b_M_move 25 = .ok (.ifCond .ne 19, 3) := by decide +kernel
theorem d_M_move_28 : decode b_M_move 28 = .ok (.aload_n 0, 1) := by decide +kernel
theorem d_M_move_29 : decode b_M_move 29 = .ok (.iload_n 1, 1) := by decide +kernel
theorem d_M_move_30 : decode b_M_move 30 = .ok (.iload_n 3, 1) := by decide +kernel
theorem d_M_move_31 : decode b_M_move 31 = .ok (.iadd, 1) := by decide +kernel
theorem d_M_move_32 : decode b_M_move 32 = .ok (.iload_n 2, 1) := by decide +kernel
theorem d_M_move_33 : decode b_M_move 33 = .ok (.iload_n 3, 1) := by decide +kernel
theorem d_M_move_34 : decode b_M_move 34 = .ok (.iadd, 1) := by decide +kernel
theorem d_M_move_35 : decode b_M_move 35 = .ok (.invokevirtual 40, 3) := by decide +kernel
theorem d_M_move_38 : decode b_M_move 38 = .ok (.iinc 3 1, 3) := by decide +kernel
theorem d_M_move_41 : decode b_M_move 41 = .ok (.goto (-27), 3) := by decide +kernel
theorem d_M_move_44 : decode b_M_move 44 = .ok (.return_, 1) := by decide +kernel
theorem d_M_none_0 : decode b_M_none 0 = .ok (.aload_n 0, 1) := by decide +kernel
theorem d_M_none_1 : decode b_M_none 1 = .ok (.iconst 0, 1) := by decide +kernel
theorem d_M_none_2 : decode b_M_none 2 = .ok (.putfield 30, 3) := by decide +kernel
theorem d_M_none_5 : decode b_M_none 5 = .ok (.iload_n 1, 1) := by decide +kernel
theorem d_M_none_6 : decode b_M_none 6 = .ok (.invokestatic 95, 3) := by decide +kernel
theorem d_M_none_9 : decode b_M_none 9 = .ok (.ifCond .eq 12, 3) := by decide +kernel
theorem d_M_none_12 : decode b_M_none 12 = .ok (.aload_n 0, 1) := by decide +kernel
theorem d_M_none_13 : decode b_M_none 13 = .ok (.getfield 19, 3) := by decide +kernel
theorem d_M_none_16 : decode b_M_none 16 = .ok (.iconst 3, 1) := by decide +kernel
theorem d_M_none_17 : decode b_M_none 17 = .ok (.iload_n 1, 1) := by decide +kernel
theorem d_M_none_18 : decode b_M_none 18 = .ok (.imul, 1) := by decide +kernel
theorem d_M_none_19 : decode b_M_none 19 = .ok (.iconst 1, 1) := by decide +kernel
theorem d_M_none_20 : decode b_M_none 20 = .ok (.bastore, 1) := by decide +kernel
theorem d_M_none_21 : decode b_M_none 21 = .ok (.iload_n 1, 1) := by decide +kernel
theorem d_M_none_22 : decode b_M_none 22 = .ok (.invokestatic 95, 3) := by decide +kernel
theorem d_M_none_25 : decode b_M_none 25 = .ok (.ireturn, 1) := by decide +kernel
theorem d_M_more_0 : decode b_M_more 0 = .ok (.aload_n 0, 1) := by decide +kernel
theorem d_M_more_1 : decode b_M_more 1 = .ok (.bipush 47, 2) := by decide +kernel
theorem d_M_more_3 : decode b_M_more 3 = .ok (.iload_n 2, 1) := by decide +kernel
theorem d_M_more_4 : decode b_M_more 4 = .ok (.iload_n 3, 1) := by decide +kernel
theorem d_M_more_5 : decode b_M_more 5 = .ok (.invokevirtual 92, 3) := by decide +kernel
theorem d_M_more_8 : decode b_M_more 8 = .ok (.aload_n 0, 1) := by decide +kernel
theorem d_M_more_9 : decode b_M_more 9 = .ok (.bipush 48, 2) := by decide +kernel
theorem d_M_more_11 : decode b_M_more 11 = .ok (.bipush 47, 2) := by decide +kernel
theorem d_M_more_13 : decode b_M_more 13 = .ok (.iload 4, 2) := by decide +kernel
theorem d_M_more_15 : decode b_M_more 15 = .ok (.invokevirtual 92, 3) := by decide +kernel
theorem d_M_more_18 : decode b_M_more 18 = .ok (.aload_n 0, 1) := by decide +kernel
theorem d_M_more_19 : decode b_M_more 19 = .ok (.iload_n 1, 1) := by decide +kernel
theorem d_M_more_20 : decode b_M_more 20 = .ok (.iload_n 1, 1) := by decide +kernel
theorem d_M_more_21 : decode b_M_more 21 = .ok (.bipush 48, 2) := by decide +kernel
theorem d_M_more_23 : decode b_M_more 23 = .ok (.iconst 1, 1) := by decide +kernel
theorem d_M_more_24 : decode b_M_more 24 = .ok (.invokevirtual 83, 3) := by decide +kernel
theorem d_M_more_27 : decode b_M_more 27 = .ok (.return_, 1) := by decide +kernel
theorem d_M_point_0 : decode b_M_point 0 = .ok (.aload_n 0, 1) := by decide +kernel
theorem d_M_point_1 : decode b_M_point 1 = .ok (.iconst 0, 1) := by decide +kernel
theorem d_M_point_2 : decode b_M_point 2 = .ok (.putfield 30, 3) := by decide +kernel
theorem d_M_point_5 : decode b_M_point 5 = .ok (.iload_n 1, 1) := by decide +kernel
theorem d_M_point_6 : decode b_M_point 6 = .ok (.invokestatic 95, 3) := by decide +kernel
theorem d_M_point_9 : decode b_M_point 9 = .ok (.ifCond .eq 17, 3) := by decide +kernel
theorem d_M_point_12 : decode b_M_point 12 = .ok (.lload 4, 2) := by decide +kernel
theorem d_M_point_14 : decode b_M_point 14 = .ok (.lconst 0, 1) := by decide +kernel
theorem d_M_point_15 : decode b_M_point 15 = .ok (.lcmp, 1) := by decide +kernel
theorem d_M_point_16 : decode b_M_point 16 = .ok (.ifCond .eq 10, 3) := by decide +kernel
theorem d_M_point_19 : decode b_M_point 19 = .ok (.lload 8, 2) := by decide +kernel
theorem d_M_point_21 : decode b_M_point 21 = .ok (.lconst 0, 1) := by decide +kernel
theorem d_M_point_22 : decode b_M_point 22 = .ok (.lcmp, 1) := by decide +kernel
theorem d_M_point_23 : decode b_M_point 23 = .ok (.ifCond .ne 5, 3) := by decide +kernel
theorem d_M_point_26 : decode b_M_point 26 = .ok (.iconst (-1), 1) := by decide +kernel
theorem d_M_point_27 : decode b_M_point 27 = .ok (.ireturn, 1) := by decide +kernel
theorem d_M_point_28 : decode b_M_point 28 = .ok (.aload_n 0, 1) := by decide +kernel
theorem d_M_point_29 : decode b_M_point 29 = .ok (.bipush 30, 2) := by decide +kernel
theorem d_M_point_31 : decode b_M_point 31 = .ok (.bipush 33, 2) := by decide +kernel
theorem d_M_point_33 : decode b_M_point 33 = .ok (.lload_n 2, 1) := by decide +kernel
theorem d_M_point_34 : decode b_M_point 34 = .ok (.lload 4, 2) := by decide +kernel
theorem d_M_point_36 : decode b_M_point 36 = .ok (.invokevirtual 98, 3) := by decide +kernel
theorem d_M_point_39 : decode b_M_point 39 = .ok (.aload_n 0, 1) := by decide +kernel
theorem d_M_point_40 : decode b_M_point 40 = .ok (.bipush 31, 2) := by decide +kernel
theorem d_M_point_42 : decode b_M_point 42 = .ok (.bipush 34, 2) := by decide +kernel
theorem d_M_point_44 : decode b_M_point 44 = .ok (.lload 6, 2) := by decide +kernel
theorem d_M_point_46 : decode b_M_point 46 = .ok (.lload 8, 2) := by decide +kernel
theorem d_M_point_48 : decode b_M_point 48 = .ok (.invokevirtual 98, 3) := by decide +kernel
theorem d_M_point_51 : decode b_M_point 51 = .ok (.aload_n 0, 1) := by decide +kernel
theorem d_M_point_52 : decode b_M_point 52 = .ok (.bipush 42, 2) := by decide +kernel
theorem d_M_point_54 : decode b_M_point 54 = .ok (.bipush 33, 2) := by decide +kernel
theorem d_M_point_56 : decode b_M_point 56 = .ok (.bipush 33, 2) := by decide +kernel
theorem d_M_point_58 : decode b_M_point 58 = .ok (.invokevirtual 92, 3) := by decide +kernel
theorem d_M_point_61 : decode b_M_point 61 = .ok (.aload_n 0, 1) := by decide +kernel
theorem d_M_point_62 : decode b_M_point 62 = .ok (.bipush 43, 2) := by decide +kernel
