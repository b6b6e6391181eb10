theorem d_M_divide_37 : decode b_M_divide 37 = .ok (.iload_n 3, 1) := by decide +kernel
theorem d_M_divide_38 : decode b_M_divide 38 = .ok (.imul, 1) := by decide +kernel
theorem d_M_divide_39 : decode b_M_divide 39 = .ok (.aload_n 0, 1) := by decide +kernel
theorem d_M_divide_40 : decode b_M_divide 40 = .ok (.getfield 13, 3) := by decide +kernel
theorem d_M_divide_43 : decode b_M_divide 43 = .ok (.iload_n 3, 1) := by decide +kernel
theorem d_M_divide_44 : decode b_M_divide 44 = .ok (.iaload, 1) := by decide +kernel
theorem d_M_divide_45 : decode b_M_divide 45 = .ok (.iadd, 1) := by decide +kernel
theorem d_M_divide_46 : decode b_M_divide 46 = .ok (.iconst 1, 1) := by decide +kernel
theorem d_M_divide_47 : decode b_M_divide 47 = .ok (.isub, 1) := by decide +kernel
theorem d_M_divide_48 : decode b_M_divide 48 = .ok (.iaload, 1) := by decide +kernel
theorem d_M_divide_49 : decode b_M_divide 49 = .ok (.iconst 1, 1) := by decide +kernel
theorem d_M_divide_50 : decode b_M_divide 50 = .ok (.iadd, 1) := by decide +kernel
theorem d_M_divide_51 : decode b_M_divide 51 = .ok (.idiv, 1) := by decide +kernel
theorem d_M_divide_52 : decode b_M_divide 52 = .ok (.istore 4, 2) := by decide +kernel
theorem d_M_divide_54 : decode b_M_divide 54 = .ok (.aload_n 0, 1) := by decide +kernel
theorem d_M_divide_55 : decode b_M_divide 55 = .ok (.iload_n 2, 1) := by decide +kernel
theorem d_M_divide_56 : decode b_M_divide 56 = .ok (.iload 4, 2) := by decide +kernel
theorem d_M_divide_58 : decode b_M_divide 58 = .ok (.i2l, 1) := by decide +kernel
theorem d_M_divide_59 : decode b_M_divide 59 = .ok (.invokevirtual 56, 3) := by decide +kernel
theorem d_M_divide_62 : decode b_M_divide 62 = .ok (.aload_n 0, 1) := by decide +kernel
theorem d_M_divide_63 : decode b_M_divide 63 = .ok (.iload_n 3, 1) := by decide +kernel
theorem d_M_divide_64 : decode b_M_divide 64 = .ok (.iload 4, 2) := by decide +kernel
theorem d_M_divide_66 : decode b_M_divide 66 = .ok (.i2l, 1) := by decide +kernel
theorem d_M_divide_67 : decode b_M_divide 67 = .ok (.invokevirtual 56, 3) := by decide +kernel
theorem d_M_divide_70 : decode b_M_divide 70 = .ok (.aload_n 0, 1) := by decide +kernel
theorem d_M_divide_71 : decode b_M_divide 71 = .ok (.getfield 13, 3) := by decide +kernel
theorem d_M_divide_74 : decode b_M_divide 74 = .ok (.iload_n 3, 1) := by decide +kernel
theorem d_M_divide_75 : decode b_M_divide 75 = .ok (.iaload, 1) := by decide +kernel
theorem d_M_divide_76 : decode b_M_divide 76 = .ok (.istore 5, 2) := by decide +kernel
theorem d_M_divide_78 : decode b_M_divide 78 = .ok (.aload_n 0, 1) := by decide +kernel
theorem d_M_divide_79 : decode b_M_divide 79 = .ok (.getfield 13, 3) := by decide +kernel
theorem d_M_divide_82 : decode b_M_divide 82 = .ok (.iload_n 2, 1) := by decide +kernel
theorem d_M_divide_83 : decode b_M_divide 83 = .ok (.iaload, 1) := by decide +kernel
theorem d_M_divide_84 : decode b_M_divide 84 = .ok (.istore 6, 2) := by decide +kernel
theorem d_M_divide_86 : decode b_M_divide 86 = .ok (.aload_n 0, 1) := by decide +kernel
theorem d_M_divide_87 : decode b_M_divide 87 = .ok (.getfield 9, 3) := by decide +kernel
theorem d_M_divide_90 : decode b_M_divide 90 = .ok (.sipush 460, 3) := by decide +kernel
theorem d_M_divide_93 : decode b_M_divide 93 = .ok (.iload_n 2, 1) := by decide +kernel
theorem d_M_divide_94 : decode b_M_divide 94 = .ok (.imul, 1) := by decide +kernel
theorem d_M_divide_95 : decode b_M_divide 95 = .ok (.iload 6, 2) := by decide +kernel
theorem d_M_divide_97 : decode b_M_divide 97 = .ok (.iadd, 1) := by decide +kernel
theorem d_M_divide_98 : decode b_M_divide 98 = .ok (.iconst 0, 1) := by decide +kernel
theorem d_M_divide_99 : decode b_M_divide 99 = .ok (.iastore, 1) := by decide +kernel
theorem d_M_divide_100 : decode b_M_divide 100 = .ok (.aload_n 0, 1) := by decide +kernel
theorem d_M_divide_101 : decode b_M_divide 101 = .ok (.getfield 16, 3) := by decide +kernel
theorem d_M_divide_104 : decode b_M_divide 104 = .ok (.iload_n 2, 1) := by decide +kernel
theorem d_M_divide_105 : decode b_M_divide 105 = .ok (.iaload, 1) := by decide +kernel
theorem d_M_divide_106 : decode b_M_divide 106 = .ok (.istore 7, 2) := by decide +kernel
theorem d_M_divide_108 : decode b_M_divide 108 = .ok (.iload 6, 2) := by decide +kernel
theorem d_M_divide_110 : decode b_M_divide 110 = .ok (.iload 5, 2) := by decide +kernel
theorem d_M_divide_112 : decode b_M_divide 112 = .ok (.isub, 1) := by decide +kernel
theorem d_M_divide_113 : decode b_M_divide 113 = .ok (.istore 8, 2) := by decide +kernel
theorem d_M_divide_115 : decode b_M_divide 115 = .ok (.iload 8, 2) := by decide +kernel
theorem d_M_divide_117 : decode b_M_divide 117 = .ok (.ifCond .lt 40, 3) := by decide +kernel
theorem d_M_divide_120 : decode b_M_divide 120 = .ok (.aload_n 0, 1) := by decide +kernel
theorem d_M_divide_121 : decode b_M_divide 121 = .ok (.iload_n 2, 1) := by decide +kernel
theorem d_M_divide_122 : decode b_M_divide 122 = .ok (.iload_n 3, 1) := by decide +kernel
theorem d_M_divide_123 : decode b_M_divide 123 = .ok (.iload 8, 2) := by decide +kernel
theorem d_M_divide_125 : decode b_M_divide 125 = .ok (.iload 5, 2) := by decide +kernel
theorem d_M_divide_127 : decode b_M_divide 127 = .ok (.invokevirtual 59, 3) := by decide +kernel
theorem d_M_divide_130 : decode b_M_divide 130 = .ok (.istore 9, 2) := by decide +kernel
theorem d_M_divide_132 : decode b_M_divide 132 = .ok (.iload_n 1, 1) := by decide +kernel
theorem d_M_divide_133 : decode b_M_divide 133 = .ok (.ifCond .lt 18, 3) := by decide +kernel
theorem d_M_divide_136 : decode b_M_divide 136 = .ok (.aload_n 0, 1) := by decide +kernel
theorem d_M_divide_137 : decode b_M_divide 137 = .ok (.getfield 9, 3) := by decide +kernel
theorem d_M_divide_140 : decode b_M_divide 140 = .ok (.sipush 460, 3) := by decide +kernel
theorem d_M_divide_143 : decode b_M_divide 143 = .ok (.iload_n 1, 1) := by decide +kernel
theorem d_M_divide_144 : decode b_M_divide 144 = .ok (.imul, 1) := by decide +kernel
theorem d_M_divide_145 : decode b_M_divide 145 = .ok (.iload 8, 2) := by decide +kernel
theorem d_M_divide_147 : decode b_M_divide 147 = .ok (.iadd, 1) := by decide +kernel
theorem d_M_divide_148 : decode b_M_divide 148 = .ok (.iload 9, 2) := by decide +kernel
theorem d_M_divide_150 : decode b_M_divide 150 = .ok (.iastore, 1) := by decide +kernel
theorem d_M_divide_151 : decode b_M_divide 151 = .ok (.iinc 8 (-1), 3) := by decide +kernel
theorem d_M_divide_154 : decode b_M_divide 154 = .ok (.goto (-39), 3) := by decide +kernel
theorem d_M_divide_157 : decode b_M_divide 157 = .ok (.iload_n 1, 1) := by decide +kernel
theorem d_M_divide_158 : decode b_M_divide 158 = .ok (.ifCond .lt 22, 3) := by decide +kernel
theorem d_M_divide_161 : decode b_M_divide 161 = .ok (.aload_n 0, 1) := by decide +kernel
theorem d_M_divide_162 : decode b_M_divide 162 = .ok (.getfield 16, 3) := by decide +kernel
theorem d_M_divide_165 : decode b_M_divide 165 = .ok (.iload_n 1, 1) := by decide +kernel
theorem d_M_divide_166 : decode b_M_divide 166 = .ok (.iconst 1, 1) := by decide +kernel
theorem d_M_divide_167 : decode b_M_divide 167 = .ok (.iastore, 1) := by decide +kernel
theorem d_M_divide_168 : decode b_M_divide 168 = .ok (.aload_n 0, 1) := by decide +kernel
theorem d_M_divide_169 : decode b_M_divide 169 = .ok (.iload_n 1, 1) := by decide +kernel
theorem d_M_divide_170 : decode b_M_divide 170 = .ok (.iload 6, 2) := by decide +kernel
theorem d_M_divide_172 : decode b_M_divide 172 = .ok (.iload 5, 2) := by decide +kernel
theorem d_M_divide_174 : decode b_M_divide 174 = .ok (.isub, 1) := by decide +kernel
theorem d_M_divide_175 : decode b_M_divide 175 = .ok (.iconst 1, 1) := by decide +kernel
theorem d_M_divide_176 : decode b_M_divide 176 = .ok (.iadd, 1) := by decide +kernel
theorem d_M_divide_177 : decode b_M_divide 177 = .ok (.invokevirtual 53, 3) := by decide +kernel
theorem d_M_divide_180 : decode b_M_divide 180 = .ok (.aload_n 0, 1) := by decide +kernel
theorem d_M_divide_181 : decode b_M_divide 181 = .ok (.getfield 16, 3) := by decide +kernel
theorem d_M_divide_184 : decode b_M_divide 184 = .ok (.iload_n 2, 1) := by decide +kernel
theorem d_M_divide_185 : decode b_M_divide 185 = .ok (.iload 7, 2) := by decide +kernel
theorem d_M_divide_187 : decode b_M_divide 187 = .ok (.iastore, 1) := by decide +kernel
theorem d_M_divide_188 : decode b_M_divide 188 = .ok (.aload_n 0, 1) := by decide +kernel
theorem d_M_divide_189 : decode b_M_divide 189 = .ok (.iload_n 2, 1) := by decide +kernel
theorem d_M_divide_190 : decode b_M_divide 190 = .ok (.iload 5, 2) := by decide +kernel
theorem d_M_divide_192 : decode b_M_divide 192 = .ok (.invokevirtual 53, 3) := by decide +kernel
theorem d_M_divide_195 : decode b_M_divide 195 = .ok (.aload_n 0, 1) := by decide +kernel
theorem d_M_divide_196 : decode b_M_divide 196 = .ok (.iload_n 2, 1) := by decide +kernel
theorem d_M_divide_197 : decode b_M_divide 197 = .ok (.iload 4, 2) := by decide +kernel
theorem d_M_divide_199 : decode b_M_divide 199 = .ok (.invokevirtual 63, 3) := by decide +kernel
theorem d_M_divide_202 : decode b_M_divide 202 = .ok (.aload_n 0, 1) := by decide +kernel
theorem d_M_divide_203 : decode b_M_divide 203 = .ok (.iload_n 3, 1) := by decide +kernel
theorem d_M_divide_204 : decode b_M_divide 204 = .ok (.iload 4, 2) := by decide +kernel
theorem d_M_divide_206 : decode b_M_divide 206 = .ok (.invokevirtual 63, 3) := by decide +kernel
theorem d_M_divide_209 : decode b_M_divide 209 = .ok (.return_, 1) := by decide +kernel
theorem d_M_place_0 : decode b_M_place 0 = .ok (.sipush 460, 3) := by decide +kernel
theorem d_M_place_3 : decode b_M_place 3 = .ok (.iload_n 1, 1) := by decide +kernel
theorem d_M_place_4 : decode b_M_place 4 = .ok (.imul, 1) := by decide +kernel
theorem d_M_place_5 : decode b_M_place 5 = .ok (.iload_n 3, 1) := by decide +kernel
theorem d_M_place_6 : decode b_M_place 6 = .ok (.iadd, 1) := by decide +kernel
theorem d_M_place_7 : decode b_M_place 7 = .ok (.istore 5, 2) := by decide +kernel
theorem d_M_place_9 : decode b_M_place 9 = .ok (.sipush 460, 3) := by decide +kernel
theorem d_M_place_12 : decode b_M_place 12 = .ok (.iload_n 2, 1) := by decide +kernel
theorem d_M_place_13 : decode b_M_place 13 = .ok (.imul, 1) := by decide +kernel
theorem d_M_place_14 : decode b_M_place 14 = .ok (.istore 6, 2) := by decide +kernel
theorem d_M_place_16 : decode b_M_place 16 = .ok (.aload_n 0, 1) := by decide +kernel
theorem d_M_place_17 : decode b_M_place 17 = .ok (.getfield 9, 3) := by decide +kernel
theorem d_M_place_20 : decode b_M_place 20 = .ok (.iload 5, 2) := by decide +kernel
theorem d_M_place_22 : decode b_M_place 22 = .ok (.iload 4, 2) := by decide +kernel
theorem d_M_place_24 : decode b_M_place 24 = .ok (.iadd, 1) := by decide +kernel
theorem d_M_place_25 : decode b_M_place 25 = .ok (.iaload, 1) := by decide +kernel
theorem d_M_place_26 : decode b_M_place 26 = .ok (.i2l, 1) := by decide +kernel
theorem d_M_place_27 : decode b_M_place 27 = .ok (.ldc2_w 34, 3) := by decide +kernel
theorem d_M_place_30 : decode b_M_place 30 = .ok (.lmul, 1) := by decide +kernel
theorem d_M_place_31 : decode b_M_place 31 = .ok (.aload_n 0, 1) := by decide +kernel
theorem d_M_place_32 : decode b_M_place 32 = .ok (.getfield 9, 3) := by decide +kernel
theorem d_M_place_35 : decode b_M_place 35 = .ok (.iload 5, 2) := by decide +kernel
theorem d_M_place_37 : decode b_M_place 37 = .ok (.iload 4, 2) := by decide +kernel
theorem d_M_place_39 : decode b_M_place 39 = .ok (.iadd, 1) := by decide +kernel
theorem d_M_place_40 : decode b_M_place 40 = .ok (.iconst 1, 1) := by decide +kernel
theorem d_M_place_41 : decode b_M_place 41 = .ok (.isub, 1) := by decide +kernel
theorem d_M_place_42 : decode b_M_place 42 = .ok (.iaload, 1) := by decide +kernel
theorem d_M_place_43 : decode b_M_place 43 = .ok (.i2l, 1) := by decide +kernel
theorem d_M_place_44 : decode b_M_place 44 = .ok (.ladd, 1) := by decide +kernel
theorem d_M_place_45 : decode b_M_place 45 = .ok (.lstore 7, 2) := by decide +kernel
theorem d_M_place_47 : decode b_M_place 47 = .ok (.aload_n 0, 1) := by decide +kernel
theorem d_M_place_48 : decode b_M_place 48 = .ok (.getfield 9, 3) := by decide +kernel
theorem d_M_place_51 : decode b_M_place 51 = .ok (.iload 6, 2) := by decide +kernel
theorem d_M_place_53 : decode b_M_place 53 = .ok (.iload 4, 2) := by decide +kernel
theorem d_M_place_55 : decode b_M_place 55 = .ok (.iadd, 1) := by decide +kernel
theorem d_M_place_56 : decode b_M_place 56 = .ok (.iconst 1, 1) := by decide +kernel
theorem d_M_place_57 : decode b_M_place 57 = .ok (.isub, 1) := by decide +kernel
theorem d_M_place_58 : decode b_M_place 58 = .ok (.iaload, 1) := by decide +kernel
theorem d_M_place_59 : decode b_M_place 59 = .ok (.i2l, 1) := by decide +kernel
theorem d_M_place_60 : decode b_M_place 60 = .ok (.lstore 9, 2) := by decide +kernel
theorem d_M_place_62 : decode b_M_place 62 = .ok (.lload 7, 2) := by decide +kernel
theorem d_M_place_64 : decode b_M_place 64 = .ok (.lload 9, 2) := by decide +kernel
theorem d_M_place_66 : decode b_M_place 66 = .ok (.ldiv, 1) := by decide +kernel
theorem d_M_place_67 : decode b_M_place 67 = .ok (.lstore 11, 2) := by decide +kernel
theorem d_M_place_69 : decode b_M_place 69 = .ok (.lload 7, 2) := by decide +kernel
theorem d_M_place_71 : decode b_M_place 71 = .ok (.lload 9, 2) := by decide +kernel
theorem d_M_place_73 : decode b_M_place 73 = .ok (.lrem, 1) := by decide +kernel
theorem d_M_place_74 : decode b_M_place 74 = .ok (.lstore 13, 2) := by decide +kernel
theorem d_M_place_76 : decode b_M_place 76 = .ok (.iload 4, 2) := by decide +kernel
theorem d_M_place_78 : decode b_M_place 78 = .ok (.iconst 1, 1) := by decide +kernel
theorem d_M_place_79 : decode b_M_place 79 = .ok (.if_icmp .le 19, 3) := by decide +kernel
theorem d_M_place_82 : decode b_M_place 82 = .ok (.aload_n 0, 1) := by decide +kernel
theorem d_M_place_83 : decode b_M_place 83 = .ok (.getfield 9, 3) := by decide +kernel
theorem d_M_place_86 : decode b_M_place 86 = .ok (.iload 6, 2) := by decide +kernel
theorem d_M_place_88 : decode b_M_place 88 = .ok (.iload 4, 2) := by decide +kernel
theorem d_M_place_90 : decode b_M_place 90 = .ok (.iadd, 1) := by decide +kernel
theorem d_M_place_91 : decode b_M_place 91 = .ok (.iconst 2, 1) := by decide +kernel
theorem d_M_place_92 : decode b_M_place 92 = .ok (.isub, 1) := by decide +kernel
theorem d_M_place_93 : decode b_M_place 93 = .ok (.iaload, 1) := by decide +kernel
theorem d_M_place_94 : decode b_M_place 94 = .ok (.i2l, 1) := by decide +kernel
theorem d_M_place_95 : decode b_M_place 95 = .ok (.goto 4, 3) := by decide +kernel
theorem d_M_place_98 : decode b_M_place 98 = .ok (.lconst 0, 1) := by decide +kernel
theorem d_M_place_99 : decode b_M_place 99 = .ok (.lstore 15, 2) := by decide +kernel
theorem d_M_place_101 : decode b_M_place 101 = .ok (.iload 4, 2) := by decide +kernel
theorem d_M_place_103 : decode b_M_place 103 = .ok (.iconst 1, 1) := by decide +kernel
theorem d_M_place_104 : decode b_M_place 104 = .ok (.if_icmp .le 19, 3) := by decide +kernel
theorem d_M_place_107 : decode b_M_place 107 = .ok (.aload_n 0, 1) := by decide +kernel
theorem d_M_place_108 : decode b_M_place 108 = .ok (.getfield 9, 3) := by decide +kernel
theorem d_M_place_111 : decode b_M_place 111 = .ok (.iload 5, 2) := by decide +kernel
theorem d_M_place_113 : decode b_M_place 113 = .ok (.iload 4, 2) := by decide +kernel
theorem d_M_place_115 : decode b_M_place 115 = .ok (.iadd, 1) := by decide +kernel
theorem d_M_place_116 : decode b_M_place 116 = .ok (.iconst 2, 1) := by decide +kernel
theorem d_M_place_117 : decode b_M_place 117 = .ok (.isub, 1) := by decide +kernel
theorem d_M_place_118 : decode b_M_place 118 = .ok (.iaload, 1) := by decide +kernel
theorem d_M_place_119 : decode b_M_place 119 = .ok (.i2l, 1) := by decide +kernel
theorem d_M_place_120 : decode b_M_place 120 = .ok (.goto 4, 3) := by decide +kernel
theorem d_M_place_123 : decode b_M_place 123 = .ok (.lconst 0, 1) := by decide +kernel
theorem d_M_place_124 : decode b_M_place 124 = .ok (.lstore 17, 2) := by decide +kernel
theorem d_M_place_126 : decode b_M_place 126 = .ok (.lload 11, 2) := by decide +kernel
theorem d_M_place_128 : decode b_M_place 128 = .ok (.ldc2_w 34, 3) := by decide +kernel
theorem d_M_place_131 : decode b_M_place 131 = .ok (.lcmp, 1) := by decide +kernel
theorem d_M_place_132 : decode b_M_place 132 = .ok (.ifCond .ge 30, 3) := by decide +kernel
theorem d_M_place_135 : decode b_M_place 135 = .ok (.lload 13, 2) := by decide +kernel
theorem d_M_place_137 : decode b_M_place 137 = .ok (.ldc2_w 34, 3) := by decide +kernel
theorem d_M_place_140 : decode b_M_place 140 = .ok (.lcmp, 1) := by decide +kernel
theorem d_M_place_141 : decode b_M_place 141 = .ok (.ifCond .ge 37, 3) := by decide +kernel
theorem d_M_place_144 : decode b_M_place 144 = .ok (.lload 11, 2) := by decide +kernel
theorem d_M_place_146 : decode b_M_place 146 = .ok (.lload 15, 2) := by decide +kernel
theorem d_M_place_148 : decode b_M_place 148 = .ok (.lmul, 1) := by decide +kernel
theorem d_M_place_149 : decode b_M_place 149 = .ok (.lload 13, 2) := by decide +kernel
theorem d_M_place_151 : decode b_M_place 151 = .ok (.ldc2_w 34, 3) := by decide +kernel
theorem d_M_place_154 : decode b_M_place 154 = .ok (.lmul, 1) := by decide +kernel
theorem d_M_place_155 : decode b_M_place 155 = .ok (.lload 17, 2) := by decide +kernel
theorem d_M_place_157 : decode b_M_place 157 = .ok (.ladd, 1) := by decide +kernel
theorem d_M_place_158 : decode b_M_place 158 = .ok (.lcmp, 1) := by decide +kernel
theorem d_M_place_159 : decode b_M_place 159 = .ok (.ifCond .le 19, 3) := by decide +kernel
theorem d_M_place_162 : decode b_M_place 162 = .ok (.lload 11, 2) := by decide +kernel
theorem d_M_place_164 : decode b_M_place 164 = .ok (.lconst 1, 1) := by decide +kernel
theorem d_M_place_165 : decode b_M_place 165 = .ok (.lsub, 1) := by decide +kernel
theorem d_M_place_166 : decode b_M_place 166 = .ok (.lstore 11, 2) := by decide +kernel
theorem d_M_place_168 : decode b_M_place 168 = .ok (.lload 13, 2) := by decide +kernel
theorem d_M_place_170 : decode b_M_place 170 = .ok (.lload 9, 2) := by decide +kernel
theorem d_M_place_172 : decode b_M_place 172 = .ok (.ladd, 1) := by decide +kernel
theorem d_M_place_173 : decode b_M_place 173 = .ok (.lstore 13, 2) := by decide +kernel
theorem d_M_place_175 : decode b_M_place 175 = .ok (.goto (-49), 3) := by decide +kernel
theorem d_M_place_178 : decode b_M_place 178 = .ok (.lconst 0, 1) := by decide +kernel
theorem d_M_place_179 : decode b_M_place 179 = .ok (.lstore 19, 2) := by decide +kernel
theorem d_M_place_181 : decode b_M_place 181 = .ok (.iconst 0, 1) := by decide +kernel
theorem d_M_place_182 : decode b_M_place 182 = .ok (.istore 21, 2) := by decide +kernel
theorem d_M_place_184 : decode b_M_place 184 = .ok (.iload 21, 2) := by decide +kernel
theorem d_M_place_186 : decode b_M_place 186 = .ok (.iload 4, 2) := by decide +kernel
theorem d_M_place_188 : decode b_M_place 188 = .ok (.if_icmp .ge 92, 3) := by decide +kernel
theorem d_M_place_191 : decode b_M_place 191 = .ok (.aload_n 0, 1) := by decide +kernel
theorem d_M_place_192 : decode b_M_place 192 = .ok (.getfield 9, 3) := by decide +kernel
theorem d_M_place_195 : decode b_M_place 195 = .ok (.iload 5, 2) := by decide +kernel
theorem d_M_place_197 : decode b_M_place 197 = .ok (.iload 21, 2) := by decide +kernel
theorem d_M_place_199 : decode b_M_place 199 = .ok (.iadd, 1) := by decide +kernel
theorem d_M_place_200 : decode b_M_place 200 = .ok (.iaload, 1) := by decide +kernel
theorem d_M_place_201 : decode b_M_place 201 = .ok (.i2l, 1) := by decide +kernel
theorem d_M_place_202 : decode b_M_place 202 = .ok (.lload 11, 2) := by decide +kernel
theorem d_M_place_204 : decode b_M_place 204 = .ok (.aload_n 0, 1) := by decide +kernel
theorem d_M_place_205 : decode b_M_place 205 = .ok (.getfield 9, 3) := by decide +kernel
theorem d_M_place_208 : decode b_M_place 208 = .ok (.iload 6, 2) := by decide +kernel
theorem d_M_place_210 : decode b_M_place 210 = .ok (.iload 21, 2) := by decide +kernel
theorem d_M_place_212 : decode b_M_place 212 = .ok (.iadd, 1) := by decide +kernel
theorem d_M_place_213 : decode b_M_place 213 = .ok (.iaload, 1) := by decide +kernel
theorem d_M_place_214 : decode b_M_place 214 = .ok (.i2l, 1) := by decide +kernel
theorem d_M_place_215 : decode b_M_place 215 = .ok (.lmul, 1) := by decide +kernel
theorem d_M_place_216 : decode b_M_place 216 = .ok (.lsub, 1) := by decide +kernel
theorem d_M_place_217 : decode b_M_place 217 = .ok (.lload 19, 2) := by decide +kernel
theorem d_M_place_219 : decode b_M_place 219 = .ok (.ladd, 1) := by decide +kernel
theorem d_M_place_220 : decode b_M_place 220 = .ok (.lstore 22, 2) := by decide +kernel
theorem d_M_place_222 : decode b_M_place 222 = .ok (.lload 22, 2) := by decide +kernel
theorem d_M_place_224 : decode b_M_place 224 = .ok (.ldc2_w 34, 3) := by decide +kernel
theorem d_M_place_227 : decode b_M_place 227 = .ok (.lrem, 1) := by decide +kernel
theorem d_M_place_228 : decode b_M_place 228 = .ok (.lstore 24, 2) := by decide +kernel
theorem d_M_place_230 : decode b_M_place 230 = .ok (.lload 24, 2) := by decide +kernel
theorem d_M_place_232 : decode b_M_place 232 = .ok (.lconst 0, 1) := by decide +kernel
theorem d_M_place_233 : decode b_M_place 233 = .ok (.lcmp, 1) := by decide +kernel
theorem d_M_place_234 : decode b_M_place 234 = .ok (.ifCond .ge 12, 3) := by decide +kernel
theorem d_M_place_237 : decode b_M_place 237 = .ok (.lload 24, 2) := by decide +kernel
theorem d_M_place_239 : decode b_M_place 239 = .ok (.ldc2_w 34, 3) := by decide +kernel
theorem d_M_place_242 : decode b_M_place 242 = .ok (.ladd, 1) := by decide +kernel
theorem d_M_place_243 : decode b_M_place 243 = .ok (.goto 5, 3) := by decide +kernel
theorem d_M_place_246 : decode b_M_place 246 = .ok (.lload 24, 2) := by decide +kernel
theorem d_M_place_248 : decode b_M_place 248 = .ok (.lstore 24, 2) := by decide +kernel
theorem d_M_place_250 : decode b_M_place 250 = .ok (.aload_n 0, 1) := by decide +kernel
theorem d_M_place_251 : decode b_M_place 251 = .ok (.getfield 9, 3) := by decide +kernel
theorem d_M_place_254 : decode b_M_place 254 = .ok (.iload 5, 2) := by decide +kernel
theorem d_M_place_256 : decode b_M_place 256 = .ok (.iload 21, 2) := by decide +kernel
theorem d_M_place_258 : decode b_M_place 258 = .ok (.iadd, 1) := by decide +kernel
theorem d_M_place_259 : decode b_M_place 259 = .ok (.lload 24, 2) := by decide +kernel
theorem d_M_place_261 : decode b_M_place 261 = .ok (.l2i, 1) := by decide +kernel
theorem d_M_place_262 : decode b_M_place 262 = .ok (.iastore, 1) := by decide +kernel
theorem d_M_place_263 : decode b_M_place 263 = .ok (.lload 22, 2) := by decide +kernel
theorem d_M_place_265 : decode b_M_place 265 = .ok (.lload 24, 2) := by decide +kernel
theorem d_M_place_267 : decode b_M_place 267 = .ok (.lsub, 1) := by decide +kernel
theorem d_M_place_268 : decode b_M_place 268 = .ok (.ldc2_w 34, 3) := by decide +kernel
theorem d_M_place_271 : decode b_M_place 271 = .ok (.ldiv, 1) := by decide +kernel
theorem d_M_place_272 : decode b_M_place 272 = .ok (.lstore 19, 2) := by decide +kernel
theorem d_M_place_274 : decode b_M_place 274 = .ok (.iinc 21 1, 3) := by decide +kernel
theorem d_M_place_277 : decode b_M_place 277 = .ok (.goto (-93), 3) := by decide +kernel
theorem d_M_place_280 : decode b_M_place 280 = .ok (.aload_n 0, 1) := by decide +kernel
theorem d_M_place_281 : decode b_M_place 281 = .ok (.getfield 9, 3) := by decide +kernel
theorem d_M_place_284 : decode b_M_place 284 = .ok (.iload 5, 2) := by decide +kernel
theorem d_M_place_286 : decode b_M_place 286 = .ok (.iload 4, 2) := by decide +kernel
theorem d_M_place_288 : decode b_M_place 288 = .ok (.iadd, 1) := by decide +kernel
theorem d_M_place_289 : decode b_M_place 289 = .ok (.iaload, 1) := by decide +kernel
theorem d_M_place_290 : decode b_M_place 290 = .ok (.i2l, 1) := by decide +kernel
theorem d_M_place_291 : decode b_M_place 291 = .ok (.lload 19, 2) := by decide +kernel
theorem d_M_place_293 : decode b_M_place 293 = .ok (.ladd, 1) := by decide +kernel
theorem d_M_place_294 : decode b_M_place 294 = .ok (.lstore 21, 2) := by decide +kernel
theorem d_M_place_296 : decode b_M_place 296 = .ok (.lload 21, 2) := by decide +kernel
theorem d_M_place_298 : decode b_M_place 298 = .ok (.lconst 0, 1) := by decide +kernel
theorem d_M_place_299 : decode b_M_place 299 = .ok (.lcmp, 1) := by decide +kernel
theorem d_M_place_300 : decode b_M_place 300 = .ok (.ifCond .ge 102, 3) := by decide +kernel
theorem d_M_place_303 : decode b_M_place 303 = .ok (.lload 11, 2) := by decide +kernel
theorem d_M_place_305 : decode b_M_place 305 = .ok (.lconst 1, 1) := by decide +kernel
theorem d_M_place_306 : decode b_M_place 306 = .ok (.lsub, 1) := by decide +kernel
theorem d_M_place_307 : decode b_M_place 307 = .ok (.lstore 11, 2) := by decide +kernel
theorem d_M_place_309 : decode b_M_place 309 = .ok (.iconst 0, 1) := by decide +kernel
theorem d_M_place_310 : decode b_M_place 310 = .ok (.istore 23, 2) := by decide +kernel
theorem d_M_place_312 : decode b_M_place 312 = .ok (.iconst 0, 1) := by decide +kernel
theorem d_M_place_313 : decode b_M_place 313 = .ok (.istore 24, 2) := by decide +kernel
theorem d_M_place_315 : decode b_M_place 315 = .ok (.iload 24, 2) := by decide +kernel
theorem d_M_place_317 : decode b_M_place 317 = .ok (.iload 4, 2) := by decide +kernel
theorem d_M_place_319 : decode b_M_place 319 = .ok (.if_icmp .ge 75, 3) := by decide +kernel
theorem d_M_place_322 : decode b_M_place 322 = .ok (.aload_n 0, 1) := by decide +kernel
theorem d_M_place_323 : decode b_M_place 323 = .ok (.getfield 9, 3) := by decide +kernel
theorem d_M_place_326 : decode b_M_place 326 = .ok (.iload 5, 2) := by decide +kernel
theorem d_M_place_328 : decode b_M_place 328 = .ok (.iload 24, 2) := by decide +kernel
theorem d_M_place_330 : decode b_M_place 330 = .ok (.iadd, 1) := by decide +kernel
theorem d_M_place_331 : decode b_M_place 331 = .ok (.iaload, 1) := by decide +kernel
theorem d_M_place_332 : decode b_M_place 332 = .ok (.aload_n 0, 1) := by decide +kernel
theorem d_M_place_333 : decode b_M_place 333 = .ok (.getfield 9, 3) := by decide +kernel
theorem d_M_place_336 : decode b_M_place 336 = .ok (.iload 6, 2) := by decide +kernel
theorem d_M_place_338 : decode b_M_place 338 = .ok (.iload 24, 2) := by decide +kernel
theorem d_M_place_340 : decode b_M_place 340 = .ok (.iadd, 1) := by decide +kernel
theorem d_M_place_341 : decode b_M_place 341 = .ok (.iaload, 1) := by decide +kernel
theorem d_M_place_342 : decode b_M_place 342 = .ok (.iadd, 1) := by decide +kernel
theorem d_M_place_343 : decode b_M_place 343 = .ok (.iload 23, 2) := by decide +kernel
theorem d_M_place_345 : decode b_M_place 345 = .ok (.iadd, 1) := by decide +kernel
theorem d_M_place_346 : decode b_M_place 346 = .ok (.istore 25, 2) := by decide +kernel
theorem d_M_place_348 : decode b_M_place 348 = .ok (.iload 25, 2) := by decide +kernel
theorem d_M_place_350 : decode b_M_place 350 = .ok (.ldc 52, 2) := by decide +kernel
theorem d_M_place_352 : decode b_M_place 352 = .ok (.if_icmp .lt 7, 3) := by decide +kernel
theorem d_M_place_355 : decode b_M_place 355 = .ok (.iconst 1, 1) := by decide +kernel
theorem d_M_place_356 : decode b_M_place 356 = .ok (.goto 4, 3) := by decide +kernel
theorem d_M_place_359 : decode b_M_place 359 = .ok (.iconst 0, 1) := by decide +kernel
theorem d_M_place_360 : decode b_M_place 360 = .ok (.istore 23, 2) := by decide +kernel
theorem d_M_place_362 : decode b_M_place 362 = .ok (.aload_n 0, 1) := by decide +kernel
theorem d_M_place_363 : decode b_M_place 363 = .ok (.getfield 9, 3) := by decide +kernel
theorem d_M_place_366 : decode b_M_place 366 = .ok (.iload 5, 2) := by decide +kernel
theorem d_M_place_368 : decode b_M_place 368 = .ok (.iload 24, 2) := by decide +kernel
theorem d_M_place_370 : decode b_M_place 370 = .ok (.iadd, 1) := by decide +kernel
theorem d_M_place_371 : decode b_M_place 371 = .ok (.iload 23, 2) := by decide +kernel
theorem d_M_place_373 : decode b_M_place 373 = .ok (.iconst 1, 1) := by decide +kernel
theorem d_M_place_374 : decode b_M_place 374 = .ok (.if_icmp .ne 11, 3) := by decide +kernel
theorem d_M_place_377 : decode b_M_place 377 = .ok (.iload 25, 2) := by decide +kernel
theorem d_M_place_379 : decode b_M_place 379 = .ok (.ldc 52, 2) := by decide +kernel
theorem d_M_place_381 : decode b_M_place 381 = .ok (.isub, 1) := by decide +kernel
theorem d_M_place_382 : decode b_M_place 382 = .ok (.goto 5, 3) := by decide +kernel
theorem d_M_place_385 : decode b_M_place 385 = .ok (.iload 25, 2) := by decide +kernel
theorem d_M_place_387 : decode b_M_place 387 = .ok (.iastore, 1) := by decide +kernel
theorem d_M_place_388 : decode b_M_place 388 = .ok (.iinc 24 1, 3) := by decide +kernel
theorem d_M_place_391 : decode b_M_place 391 = .ok (.goto (-76), 3) := by decide +kernel
theorem d_M_place_394 : decode b_M_place 394 = .ok (.lload 21, 2) := by decide +kernel
theorem d_M_place_396 : decode b_M_place 396 = .ok (.iload 23, 2) := by decide +kernel
theorem d_M_place_398 : decode b_M_place 398 = .ok (.i2l, 1) := by decide +kernel
theorem d_M_place_399 : decode b_M_place 399 = .ok (.ladd, 1) := by decide +kernel
theorem d_M_place_400 : decode b_M_place 400 = .ok (.lstore 21, 2) := by decide +kernel
theorem d_M_place_402 : decode b_M_place 402 = .ok (.aload_n 0, 1) := by decide +kernel
theorem d_M_place_403 : decode b_M_place 403 = .ok (.getfield 9, 3) := by decide +kernel
theorem d_M_place_406 : decode b_M_place 406 = .ok (.iload 5, 2) := by decide +kernel
theorem d_M_place_408 : decode b_M_place 408 = .ok (.iload 4, 2) := by decide +kernel
theorem d_M_place_410 : decode b_M_place 410 = .ok (.iadd, 1) := by decide +kernel
theorem d_M_place_411 : decode b_M_place 411 = .ok (.lload 21, 2) := by decide +kernel
theorem d_M_place_413 : decode b_M_place 413 = .ok (.l2i, 1) := by decide +kernel
theorem d_M_place_414 : decode b_M_place 414 = .ok (.iastore, 1) := by decide +kernel
theorem d_M_place_415 : decode b_M_place 415 = .ok (.lload 11, 2) := by decide +kernel
theorem d_M_place_417 : decode b_M_place 417 = .ok (.l2i, 1) := by decide +kernel
theorem d_M_place_418 : decode b_M_place 418 = .ok (.ireturn, 1) := by decide +kernel
theorem d_M_common_0 : decode b_M_common 0 = .ok (.aload_n 0, 1) := by decide +kernel
theorem d_M_common_1 : decode b_M_common 1 = .ok (.iload_n 1, 1) := by decide +kernel
theorem d_M_common_2 : decode b_M_common 2 = .ok (.bipush 51, 2) := by decide +kernel
theorem d_M_common_4 : decode b_M_common 4 = .ok (.invokevirtual 40, 3) := by decide +kernel
theorem d_M_common_7 : decode b_M_common 7 = .ok (.aload_n 0, 1) := by decide +kernel
theorem d_M_common_8 : decode b_M_common 8 = .ok (.iload_n 2, 1) := by decide +kernel
theorem d_M_common_9 : decode b_M_common 9 = .ok (.bipush 52, 2) := by decide +kernel
theorem d_M_common_11 : decode b_M_common 11 = .ok (.invokevirtual 40, 3) := by decide +kernel
theorem d_M_common_14 : decode b_M_common 14 = .ok (.iconst 0, 1) := by decide +kernel
theorem d_M_common_15 : decode b_M_common 15 = .ok (.istore_n 3, 1) := by decide +kernel
theorem d_M_common_16 : decode b_M_common 16 = .ok (.aload_n 0, 1) := by decide +kernel
theorem d_M_common_17 : decode b_M_common 17 = .ok (.getfield 16, 3) := by decide +kernel
theorem d_M_common_20 : decode b_M_common 20 = .ok (.iload_n 3, 1) := by decide +kernel
theorem d_M_common_21 : decode b_M_common 21 = .ok (.ifCond .eq 8, 3) := by decide +kernel
theorem d_M_common_24 : decode b_M_common 24 = .ok (.bipush 51, 2) := by decide +kernel
theorem d_M_common_26 : decode b_M_common 26 = .ok (.goto 5, 3) := by decide +kernel
theorem d_M_common_29 : decode b_M_common 29 = .ok (.bipush 52, 2) := by decide +kernel
theorem d_M_common_31 : decode b_M_common 31 = .ok (.iaload, 1) := by decide +kernel
theorem d_M_common_32 : decode b_M_common 32 = .ok (.ifCond .eq 43, 3) := by decide +kernel
theorem d_M_common_35 : decode b_M_common 35 = .ok (.aload_n 0, 1) := by decide +kernel
theorem d_M_common_36 : decode b_M_common 36 = .ok (.iconst (-1), 1) := by decide +kernel
theorem d_M_common_37 : decode b_M_common 37 = .ok (.iload_n 3, 1) := by decide +kernel
theorem d_M_common_38 : decode b_M_common 38 = .ok (.ifCond .eq 8, 3) := by decide +kernel
theorem d_M_common_41 : decode b_M_common 41 = .ok (.bipush 52, 2) := by decide +kernel
theorem d_M_common_43 : decode b_M_common 43 = .ok (.goto 5, 3) := by decide +kernel
theorem d_M_common_46 : decode b_M_common 46 = .ok (.bipush 51, 2) := by decide +kernel
theorem d_M_common_48 : decode b_M_common 48 = .ok (.iload_n 3, 1) := by decide +kernel
theorem d_M_common_49 : decode b_M_common 49 = .ok (.ifCond .eq 8, 3) := by decide +kernel
theorem d_M_common_52 : decode b_M_common 52 = .ok (.bipush 51, 2) := by decide +kernel
theorem d_M_common_54 : decode b_M_common 54 = .ok (.goto 5, 3) := by decide +kernel
theorem d_M_common_57 : decode b_M_common 57 = .ok (.bipush 52, 2) := by decide +kernel
theorem d_M_common_59 : decode b_M_common 59 = .ok (.invokevirtual 66, 3) := by decide +kernel
theorem d_M_common_62 : decode b_M_common 62 = .ok (.iload_n 3, 1) := by decide +kernel
theorem d_M_common_63 : decode b_M_common 63 = .ok (.ifCond .ne 7, 3) := by decide +kernel
theorem d_M_common_66 : decode b_M_common 66 = .ok (.iconst 1, 1) := by decide +kernel
theorem d_M_common_67 : decode b_M_common 67 = .ok (.goto 4, 3) := by decide +kernel
theorem d_M_common_70 : decode b_M_common 70 = .ok (.iconst 0, 1) := by decide +kernel
theorem d_M_common_71 : decode b_M_common 71 = .ok (.istore_n 3, 1) := by decide +kernel
theorem d_M_common_72 : decode b_M_common 72 = .ok (.goto (-56), 3) := by decide +kernel
theorem d_M_common_75 : decode b_M_common 75 = .ok (.iload_n 3, 1) := by decide +kernel
theorem d_M_common_76 : decode b_M_common 76 = .ok (.ifCond .eq 11, 3) := by decide +kernel
theorem d_M_common_79 : decode b_M_common 79 = .ok (.aload_n 0, 1) := by decide +kernel
theorem d_M_common_80 : decode b_M_common 80 = .ok (.bipush 52, 2) := by decide +kernel
theorem d_M_common_82 : decode b_M_common 82 = .ok (.bipush 51, 2) := by decide +kernel
theorem d_M_common_84 : decode b_M_common 84 = .ok (.invokevirtual 40, 3) := by decide +kernel
theorem d_M_common_87 : decode b_M_common 87 = .ok (.aload_n 0, 1) := by decide +kernel
theorem d_M_common_88 : decode b_M_common 88 = .ok (.getfield 16, 3) := by decide +kernel
theorem d_M_common_91 : decode b_M_common 91 = .ok (.bipush 51, 2) := by decide +kernel
theorem d_M_common_93 : decode b_M_common 93 = .ok (.iconst 1, 1) := by decide +kernel
theorem d_M_common_94 : decode b_M_common 94 = .ok (.iastore, 1) := by decide +kernel
theorem d_M_common_95 : decode b_M_common 95 = .ok (.return_, 1) := by decide +kernel
