theorem d_M_addSizes_107 : decode b_M_addSizes 107 = .ok (.iaload, 1) := by decide +kernel
theorem d_M_addSizes_108 : decode b_M_addSizes 108 = .ok (.goto 4, 3) := by decide +kernel
theorem d_M_addSizes_111 : decode b_M_addSizes 111 = .ok (.iconst 0, 1) := by decide +kernel
theorem d_M_addSizes_112 : decode b_M_addSizes 112 = .ok (.iadd, 1) := by decide +kernel
theorem d_M_addSizes_113 : decode b_M_addSizes 113 = .ok (.istore 9, 2) := by decide +kernel
theorem d_M_addSizes_115 : decode b_M_addSizes 115 = .ok (.iload 9, 2) := by decide +kernel
theorem d_M_addSizes_117 : decode b_M_addSizes 117 = .ok (.ldc 52, 2) := by decide +kernel
theorem d_M_addSizes_119 : decode b_M_addSizes 119 = .ok (.if_icmp .lt 7, 3) := by decide +kernel
theorem d_M_addSizes_122 : decode b_M_addSizes 122 = .ok (.iconst 1, 1) := by decide +kernel
theorem d_M_addSizes_123 : decode b_M_addSizes 123 = .ok (.goto 4, 3) := by decide +kernel
theorem d_M_addSizes_126 : decode b_M_addSizes 126 = .ok (.iconst 0, 1) := by decide +kernel
theorem d_M_addSizes_127 : decode b_M_addSizes 127 = .ok (.istore 7, 2) := by decide +kernel
theorem d_M_addSizes_129 : decode b_M_addSizes 129 = .ok (.aload_n 0, 1) := by decide +kernel
theorem d_M_addSizes_130 : decode b_M_addSizes 130 = .ok (.getfield 9, 3) := by decide +kernel
theorem d_M_addSizes_133 : decode b_M_addSizes 133 = .ok (.sipush 460, 3) := by decide +kernel
theorem d_M_addSizes_136 : decode b_M_addSizes 136 = .ok (.iload_n 1, 1) := by decide +kernel
theorem d_M_addSizes_137 : decode b_M_addSizes 137 = .ok (.imul, 1) := by decide +kernel
theorem d_M_addSizes_138 : decode b_M_addSizes 138 = .ok (.iload 8, 2) := by decide +kernel
theorem d_M_addSizes_140 : decode b_M_addSizes 140 = .ok (.iadd, 1) := by decide +kernel
theorem d_M_addSizes_141 : decode b_M_addSizes 141 = .ok (.iload 7, 2) := by decide +kernel
theorem d_M_addSizes_143 : decode b_M_addSizes 143 = .ok (.iconst 1, 1) := by decide +kernel
theorem d_M_addSizes_144 : decode b_M_addSizes 144 = .ok (.if_icmp .ne 11, 3) := by decide +kernel
theorem d_M_addSizes_147 : decode b_M_addSizes 147 = .ok (.iload 9, 2) := by decide +kernel
theorem d_M_addSizes_149 : decode b_M_addSizes 149 = .ok (.ldc 52, 2) := by decide +kernel
theorem d_M_addSizes_151 : decode b_M_addSizes 151 = .ok (.isub, 1) := by decide +kernel
theorem d_M_addSizes_152 : decode b_M_addSizes 152 = .ok (.goto 5, 3) := by decide +kernel
theorem d_M_addSizes_155 : decode b_M_addSizes 155 = .ok (.iload 9, 2) := by decide +kernel
theorem d_M_addSizes_157 : decode b_M_addSizes 157 = .ok (.iastore, 1) := by decide +kernel
theorem d_M_addSizes_158 : decode b_M_addSizes 158 = .ok (.iinc 8 1, 3) := by decide +kernel
theorem d_M_addSizes_161 : decode b_M_addSizes 161 = .ok (.goto (-107), 3) := by decide +kernel
theorem d_M_addSizes_164 : decode b_M_addSizes 164 = .ok (.aload_n 0, 1) := by decide +kernel
theorem d_M_addSizes_165 : decode b_M_addSizes 165 = .ok (.getfield 9, 3) := by decide +kernel
theorem d_M_addSizes_168 : decode b_M_addSizes 168 = .ok (.sipush 460, 3) := by decide +kernel
theorem d_M_addSizes_171 : decode b_M_addSizes 171 = .ok (.iload_n 1, 1) := by decide +kernel
theorem d_M_addSizes_172 : decode b_M_addSizes 172 = .ok (.imul, 1) := by decide +kernel
theorem d_M_addSizes_173 : decode b_M_addSizes 173 = .ok (.iload 4, 2) := by decide +kernel
theorem d_M_addSizes_175 : decode b_M_addSizes 175 = .ok (.iadd, 1) := by decide +kernel
theorem d_M_addSizes_176 : decode b_M_addSizes 176 = .ok (.iload 7, 2) := by decide +kernel
theorem d_M_addSizes_178 : decode b_M_addSizes 178 = .ok (.iastore, 1) := by decide +kernel
theorem d_M_addSizes_179 : decode b_M_addSizes 179 = .ok (.aload_n 0, 1) := by decide +kernel
theorem d_M_addSizes_180 : decode b_M_addSizes 180 = .ok (.getfield 13, 3) := by decide +kernel
theorem d_M_addSizes_183 : decode b_M_addSizes 183 = .ok (.iload_n 1, 1) := by decide +kernel
theorem d_M_addSizes_184 : decode b_M_addSizes 184 = .ok (.iload 4, 2) := by decide +kernel
theorem d_M_addSizes_186 : decode b_M_addSizes 186 = .ok (.iload 7, 2) := by decide +kernel
theorem d_M_addSizes_188 : decode b_M_addSizes 188 = .ok (.iadd, 1) := by decide +kernel
theorem d_M_addSizes_189 : decode b_M_addSizes 189 = .ok (.iastore, 1) := by decide +kernel
theorem d_M_addSizes_190 : decode b_M_addSizes 190 = .ok (.return_, 1) := by decide +kernel
theorem d_M_takeSizes_0 : decode b_M_takeSizes 0 = .ok (.aload_n 0, 1) := by decide +kernel
theorem d_M_takeSizes_1 : decode b_M_takeSizes 1 = .ok (.getfield 13, 3) := by decide +kernel
theorem d_M_takeSizes_4 : decode b_M_takeSizes 4 = .ok (.iload_n 2, 1) := by decide +kernel
theorem d_M_takeSizes_5 : decode b_M_takeSizes 5 = .ok (.iaload, 1) := by decide +kernel
theorem d_M_takeSizes_6 : decode b_M_takeSizes 6 = .ok (.istore 5, 2) := by decide +kernel
theorem d_M_takeSizes_8 : decode b_M_takeSizes 8 = .ok (.aload_n 0, 1) := by decide +kernel
theorem d_M_takeSizes_9 : decode b_M_takeSizes 9 = .ok (.getfield 13, 3) := by decide +kernel
theorem d_M_takeSizes_12 : decode b_M_takeSizes 12 = .ok (.iload_n 3, 1) := by decide +kernel
theorem d_M_takeSizes_13 : decode b_M_takeSizes 13 = .ok (.iaload, 1) := by decide +kernel
theorem d_M_takeSizes_14 : decode b_M_takeSizes 14 = .ok (.istore 6, 2) := by decide +kernel
theorem d_M_takeSizes_16 : decode b_M_takeSizes 16 = .ok (.iconst 0, 1) := by decide +kernel
theorem d_M_takeSizes_17 : decode b_M_takeSizes 17 = .ok (.istore 7, 2) := by decide +kernel
theorem d_M_takeSizes_19 : decode b_M_takeSizes 19 = .ok (.iconst 0, 1) := by decide +kernel
theorem d_M_takeSizes_20 : decode b_M_takeSizes 20 = .ok (.istore 8, 2) := by decide +kernel
theorem d_M_takeSizes_22 : decode b_M_takeSizes 22 = .ok (.iload 8, 2) := by decide +kernel
theorem d_M_takeSizes_24 : decode b_M_takeSizes 24 = .ok (.iload 5, 2) := by decide +kernel
theorem d_M_takeSizes_26 : decode b_M_takeSizes 26 = .ok (.if_icmp .ge 92, 3) := by decide +kernel
theorem d_M_takeSizes_29 : decode b_M_takeSizes 29 = .ok (.aload_n 0, 1) := by decide +kernel
theorem d_M_takeSizes_30 : decode b_M_takeSizes 30 = .ok (.getfield 9, 3) := by decide +kernel
theorem d_M_takeSizes_33 : decode b_M_takeSizes 33 = .ok (.sipush 460, 3) := by decide +kernel
theorem d_M_takeSizes_36 : decode b_M_takeSizes 36 = .ok (.iload_n 2, 1) := by decide +kernel
theorem d_M_takeSizes_37 : decode b_M_takeSizes 37 = .ok (.imul, 1) := by decide +kernel
theorem d_M_takeSizes_38 : decode b_M_takeSizes 38 = .ok (.iload 8, 2) := by decide +kernel
theorem d_M_takeSizes_40 : decode b_M_takeSizes 40 = .ok (.iadd, 1) := by decide +kernel
theorem d_M_takeSizes_41 : decode b_M_takeSizes 41 = .ok (.iaload, 1) := by decide +kernel
theorem d_M_takeSizes_42 : decode b_M_takeSizes 42 = .ok (.iload 7, 2) := by decide +kernel
theorem d_M_takeSizes_44 : decode b_M_takeSizes 44 = .ok (.isub, 1) := by decide +kernel
theorem d_M_takeSizes_45 : decode b_M_takeSizes 45 = .ok (.iload 8, 2) := by decide +kernel
theorem d_M_takeSizes_47 : decode b_M_takeSizes 47 = .ok (.iload 6, 2) := by decide +kernel
theorem d_M_takeSizes_49 : decode b_M_takeSizes 49 = .ok (.if_icmp .ge 19, 3) := by decide +kernel
theorem d_M_takeSizes_52 : decode b_M_takeSizes 52 = .ok (.aload_n 0, 1) := by decide +kernel
theorem d_M_takeSizes_53 : decode b_M_takeSizes 53 = .ok (.getfield 9, 3) := by decide +kernel
theorem d_M_takeSizes_56 : decode b_M_takeSizes 56 = .ok (.sipush 460, 3) := by decide +kernel
theorem d_M_takeSizes_59 : decode b_M_takeSizes 59 = .ok (.iload_n 3, 1) := by decide +kernel
theorem d_M_takeSizes_60 : decode b_M_takeSizes 60 = .ok (.imul, 1) := by decide +kernel
theorem d_M_takeSizes_61 : decode b_M_takeSizes 61 = .ok (.iload 8, 2) := by decide +kernel
theorem d_M_takeSizes_63 : decode b_M_takeSizes 63 = .ok (.iadd, 1) := by decide +kernel
theorem d_M_takeSizes_64 : decode b_M_takeSizes 64 = .ok (.iaload, 1) := by decide +kernel
theorem d_M_takeSizes_65 : decode b_M_takeSizes 65 = .ok (.goto 4, 3) := by decide +kernel
theorem d_M_takeSizes_68 : decode b_M_takeSizes 68 = .ok (.iconst 0, 1) := by decide +kernel
theorem d_M_takeSizes_69 : decode b_M_takeSizes 69 = .ok (.isub, 1) := by decide +kernel
theorem d_M_takeSizes_70 : decode b_M_takeSizes 70 = .ok (.istore 9, 2) := by decide +kernel
theorem d_M_takeSizes_72 : decode b_M_takeSizes 72 = .ok (.iload 9, 2) := by decide +kernel
theorem d_M_takeSizes_74 : decode b_M_takeSizes 74 = .ok (.ifCond .ge 7, 3) := by decide +kernel
theorem d_M_takeSizes_77 : decode b_M_takeSizes 77 = .ok (.iconst 1, 1) := by decide +kernel
theorem d_M_takeSizes_78 : decode b_M_takeSizes 78 = .ok (.goto 4, 3) := by decide +kernel
theorem d_M_takeSizes_81 : decode b_M_takeSizes 81 = .ok (.iconst 0, 1) := by decide +kernel
theorem d_M_takeSizes_82 : decode b_M_takeSizes 82 = .ok (.istore 7, 2) := by decide +kernel
theorem d_M_takeSizes_84 : decode b_M_takeSizes 84 = .ok (.aload_n 0, 1) := by decide +kernel
theorem d_M_takeSizes_85 : decode b_M_takeSizes 85 = .ok (.getfield 9, 3) := by decide +kernel
theorem d_M_takeSizes_88 : decode b_M_takeSizes 88 = .ok (.sipush 460, 3) := by decide +kernel
theorem d_M_takeSizes_91 : decode b_M_takeSizes 91 = .ok (.iload_n 1, 1) := by decide +kernel
theorem d_M_takeSizes_92 : decode b_M_takeSizes 92 = .ok (.imul, 1) := by decide +kernel
theorem d_M_takeSizes_93 : decode b_M_takeSizes 93 = .ok (.iload 8, 2) := by decide +kernel
theorem d_M_takeSizes_95 : decode b_M_takeSizes 95 = .ok (.iadd, 1) := by decide +kernel
theorem d_M_takeSizes_96 : decode b_M_takeSizes 96 = .ok (.iload 9, 2) := by decide +kernel
theorem d_M_takeSizes_98 : decode b_M_takeSizes 98 = .ok (.ifCond .ge 11, 3) := by decide +kernel
theorem d_M_takeSizes_101 : decode b_M_takeSizes 101 = .ok (.iload 9, 2) := by decide +kernel
theorem d_M_takeSizes_103 : decode b_M_takeSizes 103 = .ok (.ldc 52, 2) := by decide +kernel
theorem d_M_takeSizes_105 : decode b_M_takeSizes 105 = .ok (.iadd, 1) := by decide +kernel
theorem d_M_takeSizes_106 : decode b_M_takeSizes 106 = .ok (.goto 5, 3) := by decide +kernel
theorem d_M_takeSizes_109 : decode b_M_takeSizes 109 = .ok (.iload 9, 2) := by decide +kernel
theorem d_M_takeSizes_111 : decode b_M_takeSizes 111 = .ok (.iastore, 1) := by decide +kernel
theorem d_M_takeSizes_112 : decode b_M_takeSizes 112 = .ok (.iinc 8 1, 3) := by decide +kernel
theorem d_M_takeSizes_115 : decode b_M_takeSizes 115 = .ok (.goto (-93), 3) := by decide +kernel
theorem d_M_takeSizes_118 : decode b_M_takeSizes 118 = .ok (.aload_n 0, 1) := by decide +kernel
theorem d_M_takeSizes_119 : decode b_M_takeSizes 119 = .ok (.getfield 16, 3) := by decide +kernel
theorem d_M_takeSizes_122 : decode b_M_takeSizes 122 = .ok (.iload_n 1, 1) := by decide +kernel
theorem d_M_takeSizes_123 : decode b_M_takeSizes 123 = .ok (.iload 4, 2) := by decide +kernel
theorem d_M_takeSizes_125 : decode b_M_takeSizes 125 = .ok (.iastore, 1) := by decide +kernel
theorem d_M_takeSizes_126 : decode b_M_takeSizes 126 = .ok (.aload_n 0, 1) := by decide +kernel
theorem d_M_takeSizes_127 : decode b_M_takeSizes 127 = .ok (.iload_n 1, 1) := by decide +kernel
theorem d_M_takeSizes_128 : decode b_M_takeSizes 128 = .ok (.iload 5, 2) := by decide +kernel
theorem d_M_takeSizes_130 : decode b_M_takeSizes 130 = .ok (.invokevirtual 53, 3) := by decide +kernel
theorem d_M_takeSizes_133 : decode b_M_takeSizes 133 = .ok (.return_, 1) := by decide +kernel
theorem d_M_multiply_0 : decode b_M_multiply 0 = .ok (.aload_n 0, 1) := by decide +kernel
theorem d_M_multiply_1 : decode b_M_multiply 1 = .ok (.getfield 13, 3) := by decide +kernel
theorem d_M_multiply_4 : decode b_M_multiply 4 = .ok (.iload_n 2, 1) := by decide +kernel
theorem d_M_multiply_5 : decode b_M_multiply 5 = .ok (.iaload, 1) := by decide +kernel
theorem d_M_multiply_6 : decode b_M_multiply 6 = .ok (.aload_n 0, 1) := by decide +kernel
theorem d_M_multiply_7 : decode b_M_multiply 7 = .ok (.getfield 13, 3) := by decide +kernel
theorem d_M_multiply_10 : decode b_M_multiply 10 = .ok (.iload_n 3, 1) := by decide +kernel
theorem d_M_multiply_11 : decode b_M_multiply 11 = .ok (.iaload, 1) := by decide +kernel
theorem d_M_multiply_12 : decode b_M_multiply 12 = .ok (.iadd, 1) := by decide +kernel
theorem d_M_multiply_13 : decode b_M_multiply 13 = .ok (.istore 4, 2) := by decide +kernel
theorem d_M_multiply_15 : decode b_M_multiply 15 = .ok (.iconst 0, 1) := by decide +kernel
theorem d_M_multiply_16 : decode b_M_multiply 16 = .ok (.istore 5, 2) := by decide +kernel
theorem d_M_multiply_18 : decode b_M_multiply 18 = .ok (.iload 5, 2) := by decide +kernel
theorem d_M_multiply_20 : decode b_M_multiply 20 = .ok (.iload 4, 2) := by decide +kernel
theorem d_M_multiply_22 : decode b_M_multiply 22 = .ok (.if_icmp .ge 23, 3) := by decide +kernel
theorem d_M_multiply_25 : decode b_M_multiply 25 = .ok (.aload_n 0, 1) := by decide +kernel
theorem d_M_multiply_26 : decode b_M_multiply 26 = .ok (.getfield 9, 3) := by decide +kernel
theorem d_M_multiply_29 : decode b_M_multiply 29 = .ok (.sipush 460, 3) := by decide +kernel
theorem d_M_multiply_32 : decode b_M_multiply 32 = .ok (.iload_n 1, 1) := by decide +kernel
theorem d_M_multiply_33 : decode b_M_multiply 33 = .ok (.imul, 1) := by decide +kernel
theorem d_M_multiply_34 : decode b_M_multiply 34 = .ok (.iload 5, 2) := by decide +kernel
theorem d_M_multiply_36 : decode b_M_multiply 36 = .ok (.iadd, 1) := by decide +kernel
theorem d_M_multiply_37 : decode b_M_multiply 37 = .ok (.iconst 0, 1) := by decide +kernel
theorem d_M_multiply_38 : decode b_M_multiply 38 = .ok (.iastore, 1) := by decide +kernel
theorem d_M_multiply_39 : decode b_M_multiply 39 = .ok (.iinc 5 1, 3) := by decide +kernel
theorem d_M_multiply_42 : decode b_M_multiply 42 = .ok (.goto (-24), 3) := by decide +kernel
theorem d_M_multiply_45 : decode b_M_multiply 45 = .ok (.iconst 0, 1) := by decide +kernel
theorem d_M_multiply_46 : decode b_M_multiply 46 = .ok (.istore 5, 2) := by decide +kernel
theorem d_M_multiply_48 : decode b_M_multiply 48 = .ok (.iload 5, 2) := by decide +kernel
theorem d_M_multiply_50 : decode b_M_multiply 50 = .ok (.aload_n 0, 1) := by decide +kernel
theorem d_M_multiply_51 : decode b_M_multiply 51 = .ok (.getfield 13, 3) := by decide +kernel
theorem d_M_multiply_54 : decode b_M_multiply 54 = .ok (.iload_n 2, 1) := by decide +kernel
theorem d_M_multiply_55 : decode b_M_multiply 55 = .ok (.iaload, 1) := by decide +kernel
theorem d_M_multiply_56 : decode b_M_multiply 56 = .ok (.if_icmp .ge 142, 3) := by decide +kernel
theorem d_M_multiply_59 : decode b_M_multiply 59 = .ok (.lconst 0, 1) := by decide +kernel
theorem d_M_multiply_60 : decode b_M_multiply 60 = .ok (.lstore 6, 2) := by decide +kernel
theorem d_M_multiply_62 : decode b_M_multiply 62 = .ok (.aload_n 0, 1) := by decide +kernel
theorem d_M_multiply_63 : decode b_M_multiply 63 = .ok (.getfield 9, 3) := by decide +kernel
theorem d_M_multiply_66 : decode b_M_multiply 66 = .ok (.sipush 460, 3) := by decide +kernel
theorem d_M_multiply_69 : decode b_M_multiply 69 = .ok (.iload_n 2, 1) := by decide +kernel
theorem d_M_multiply_70 : decode b_M_multiply 70 = .ok (.imul, 1) := by decide +kernel
theorem d_M_multiply_71 : decode b_M_multiply 71 = .ok (.iload 5, 2) := by decide +kernel
theorem d_M_multiply_73 : decode b_M_multiply 73 = .ok (.iadd, 1) := by decide +kernel
theorem d_M_multiply_74 : decode b_M_multiply 74 = .ok (.iaload, 1) := by decide +kernel
theorem d_M_multiply_75 : decode b_M_multiply 75 = .ok (.i2l, 1) := by decide +kernel
theorem d_M_multiply_76 : decode b_M_multiply 76 = .ok (.lstore 8, 2) := by decide +kernel
theorem d_M_multiply_78 : decode b_M_multiply 78 = .ok (.iconst 0, 1) := by decide +kernel
theorem d_M_multiply_79 : decode b_M_multiply 79 = .ok (.istore 10, 2) := by decide +kernel
theorem d_M_multiply_81 : decode b_M_multiply 81 = .ok (.iload 10, 2) := by decide +kernel
theorem d_M_multiply_83 : decode b_M_multiply 83 = .ok (.aload_n 0, 1) := by decide +kernel
theorem d_M_multiply_84 : decode b_M_multiply 84 = .ok (.getfield 13, 3) := by decide +kernel
theorem d_M_multiply_87 : decode b_M_multiply 87 = .ok (.iload_n 3, 1) := by decide +kernel
theorem d_M_multiply_88 : decode b_M_multiply 88 = .ok (.iaload, 1) := by decide +kernel
theorem d_M_multiply_89 : decode b_M_multiply 89 = .ok (.if_icmp .ge 80, 3) := by decide +kernel
theorem d_M_multiply_92 : decode b_M_multiply 92 = .ok (.aload_n 0, 1) := by decide +kernel
theorem d_M_multiply_93 : decode b_M_multiply 93 = .ok (.getfield 9, 3) := by decide +kernel
theorem d_M_multiply_96 : decode b_M_multiply 96 = .ok (.sipush 460, 3) := by decide +kernel
theorem d_M_multiply_99 : decode b_M_multiply 99 = .ok (.iload_n 1, 1) := by decide +kernel
theorem d_M_multiply_100 : decode b_M_multiply 100 = .ok (.imul, 1) := by decide +kernel
theorem d_M_multiply_101 : decode b_M_multiply 101 = .ok (.iload 5, 2) := by decide +kernel
theorem d_M_multiply_103 : decode b_M_multiply 103 = .ok (.iadd, 1) := by decide +kernel
theorem d_M_multiply_104 : decode b_M_multiply 104 = .ok (.iload 10, 2) := by decide +kernel
theorem d_M_multiply_106 : decode b_M_multiply 106 = .ok (.iadd, 1) := by decide +kernel
theorem d_M_multiply_107 : decode b_M_multiply 107 = .ok (.iaload, 1) := by decide +kernel
theorem d_M_multiply_108 : decode b_M_multiply 108 = .ok (.i2l, 1) := by decide +kernel
theorem d_M_multiply_109 : decode b_M_multiply 109 = .ok (.lload 8, 2) := by decide +kernel
theorem d_M_multiply_111 : decode b_M_multiply 111 = .ok (.aload_n 0, 1) := by decide +kernel
theorem d_M_multiply_112 : decode b_M_multiply 112 = .ok (.getfield 9, 3) := by decide +kernel
theorem d_M_multiply_115 : decode b_M_multiply 115 = .ok (.sipush 460, 3) := by decide +kernel
theorem d_M_multiply_118 : decode b_M_multiply 118 = .ok (.iload_n 3, 1) := by decide +kernel
theorem d_M_multiply_119 : decode b_M_multiply 119 = .ok (.imul, 1) := by decide +kernel
theorem d_M_multiply_120 : decode b_M_multiply 120 = .ok (.iload 10, 2) := by decide +kernel
theorem d_M_multiply_122 : decode b_M_multiply 122 = .ok (.iadd, 1) := by decide +kernel
theorem d_M_multiply_123 : decode b_M_multiply 123 = .ok (.iaload, 1) := by decide +kernel
theorem d_M_multiply_124 : decode b_M_multiply 124 = .ok (.i2l, 1) := by decide +kernel
theorem d_M_multiply_125 : decode b_M_multiply 125 = .ok (.lmul, 1) := by decide +kernel
theorem d_M_multiply_126 : decode b_M_multiply 126 = .ok (.ladd, 1) := by decide +kernel
theorem d_M_multiply_127 : decode b_M_multiply 127 = .ok (.lload 6, 2) := by decide +kernel
theorem d_M_multiply_129 : decode b_M_multiply 129 = .ok (.ladd, 1) := by decide +kernel
theorem d_M_multiply_130 : decode b_M_multiply 130 = .ok (.lstore 11, 2) := by decide +kernel
theorem d_M_multiply_132 : decode b_M_multiply 132 = .ok (.aload_n 0, 1) := by decide +kernel
theorem d_M_multiply_133 : decode b_M_multiply 133 = .ok (.getfield 9, 3) := by decide +kernel
theorem d_M_multiply_136 : decode b_M_multiply 136 = .ok (.sipush 460, 3) := by decide +kernel
theorem d_M_multiply_139 : decode b_M_multiply 139 = .ok (.iload_n 1, 1) := by decide +kernel
theorem d_M_multiply_140 : decode b_M_multiply 140 = .ok (.imul, 1) := by decide +kernel
theorem d_M_multiply_141 : decode b_M_multiply 141 = .ok (.iload 5, 2) := by decide +kernel
theorem d_M_multiply_143 : decode b_M_multiply 143 = .ok (.iadd, 1) := by decide +kernel
theorem d_M_multiply_144 : decode b_M_multiply 144 = .ok (.iload 10, 2) := by decide +kernel
theorem d_M_multiply_146 : decode b_M_multiply 146 = .ok (.iadd, 1) := by decide +kernel
theorem d_M_multiply_147 : decode b_M_multiply 147 = .ok (.lload 11, 2) := by decide +kernel
theorem d_M_multiply_149 : decode b_M_multiply 149 = .ok (.ldc2_w 34, 3) := by decide +kernel
theorem d_M_multiply_152 : decode b_M_multiply 152 = .ok (.lrem, 1) := by decide +kernel
theorem d_M_multiply_153 : decode b_M_multiply 153 = .ok (.l2i, 1) := by decide +kernel
theorem d_M_multiply_154 : decode b_M_multiply 154 = .ok (.iastore, 1) := by decide +kernel
theorem d_M_multiply_155 : decode b_M_multiply 155 = .ok (.lload 11, 2) := by decide +kernel
theorem d_M_multiply_157 : decode b_M_multiply 157 = .ok (.ldc2_w 34, 3) := by decide +kernel
theorem d_M_multiply_160 : decode b_M_multiply 160 = .ok (.ldiv, 1) := by decide +kernel
theorem d_M_multiply_161 : decode b_M_multiply 161 = .ok (.lstore 6, 2) := by decide +kernel
theorem d_M_multiply_163 : decode b_M_multiply 163 = .ok (.iinc 10 1, 3) := by decide +kernel
theorem d_M_multiply_166 : decode b_M_multiply 166 = .ok (.goto (-85), 3) := by decide +kernel
theorem d_M_multiply_169 : decode b_M_multiply 169 = .ok (.aload_n 0, 1) := by decide +kernel
theorem d_M_multiply_170 : decode b_M_multiply 170 = .ok (.getfield 9, 3) := by decide +kernel
theorem d_M_multiply_173 : decode b_M_multiply 173 = .ok (.sipush 460, 3) := by decide +kernel
theorem d_M_multiply_176 : decode b_M_multiply 176 = .ok (.iload_n 1, 1) := by decide +kernel
theorem d_M_multiply_177 : decode b_M_multiply 177 = .ok (.imul, 1) := by decide +kernel
theorem d_M_multiply_178 : decode b_M_multiply 178 = .ok (.iload 5, 2) := by decide +kernel
theorem d_M_multiply_180 : decode b_M_multiply 180 = .ok (.iadd, 1) := by decide +kernel
theorem d_M_multiply_181 : decode b_M_multiply 181 = .ok (.aload_n 0, 1) := by decide +kernel
theorem d_M_multiply_182 : decode b_M_multiply 182 = .ok (.getfield 13, 3) := by decide +kernel
theorem d_M_multiply_185 : decode b_M_multiply 185 = .ok (.iload_n 3, 1) := by decide +kernel
theorem d_M_multiply_186 : decode b_M_multiply 186 = .ok (.iaload, 1) := by decide +kernel
theorem d_M_multiply_187 : decode b_M_multiply 187 = .ok (.iadd, 1) := by decide +kernel
theorem d_M_multiply_188 : decode b_M_multiply 188 = .ok (.lload 6, 2) := by decide +kernel
theorem d_M_multiply_190 : decode b_M_multiply 190 = .ok (.l2i, 1) := by decide +kernel
theorem d_M_multiply_191 : decode b_M_multiply 191 = .ok (.iastore, 1) := by decide +kernel
theorem d_M_multiply_192 : decode b_M_multiply 192 = .ok (.iinc 5 1, 3) := by decide +kernel
theorem d_M_multiply_195 : decode b_M_multiply 195 = .ok (.goto (-147), 3) := by decide +kernel
theorem d_M_multiply_198 : decode b_M_multiply 198 = .ok (.aload_n 0, 1) := by decide +kernel
theorem d_M_multiply_199 : decode b_M_multiply 199 = .ok (.getfield 16, 3) := by decide +kernel
theorem d_M_multiply_202 : decode b_M_multiply 202 = .ok (.iload_n 1, 1) := by decide +kernel
theorem d_M_multiply_203 : decode b_M_multiply 203 = .ok (.aload_n 0, 1) := by decide +kernel
theorem d_M_multiply_204 : decode b_M_multiply 204 = .ok (.getfield 16, 3) := by decide +kernel
theorem d_M_multiply_207 : decode b_M_multiply 207 = .ok (.iload_n 2, 1) := by decide +kernel
theorem d_M_multiply_208 : decode b_M_multiply 208 = .ok (.iaload, 1) := by decide +kernel
theorem d_M_multiply_209 : decode b_M_multiply 209 = .ok (.aload_n 0, 1) := by decide +kernel
theorem d_M_multiply_210 : decode b_M_multiply 210 = .ok (.getfield 16, 3) := by decide +kernel
theorem d_M_multiply_213 : decode b_M_multiply 213 = .ok (.iload_n 3, 1) := by decide +kernel
theorem d_M_multiply_214 : decode b_M_multiply 214 = .ok (.iaload, 1) := by decide +kernel
theorem d_M_multiply_215 : decode b_M_multiply 215 = .ok (.imul, 1) := by decide +kernel
theorem d_M_multiply_216 : decode b_M_multiply 216 = .ok (.iastore, 1) := by decide +kernel
theorem d_M_multiply_217 : decode b_M_multiply 217 = .ok (.aload_n 0, 1) := by decide +kernel
theorem d_M_multiply_218 : decode b_M_multiply 218 = .ok (.iload_n 1, 1) := by decide +kernel
theorem d_M_multiply_219 : decode b_M_multiply 219 = .ok (.iload 4, 2) := by decide +kernel
theorem d_M_multiply_221 : decode b_M_multiply 221 = .ok (.invokevirtual 53, 3) := by decide +kernel
theorem d_M_multiply_224 : decode b_M_multiply 224 = .ok (.return_, 1) := by decide +kernel
theorem d_M_timesSmall_0 : decode b_M_timesSmall 0 = .ok (.lconst 0, 1) := by decide +kernel
theorem d_M_timesSmall_1 : decode b_M_timesSmall 1 = .ok (.lstore 4, 2) := by decide +kernel
theorem d_M_timesSmall_3 : decode b_M_timesSmall 3 = .ok (.iconst 0, 1) := by decide +kernel
theorem d_M_timesSmall_4 : decode b_M_timesSmall 4 = .ok (.istore 6, 2) := by decide +kernel
theorem d_M_timesSmall_6 : decode b_M_timesSmall 6 = .ok (.iload 6, 2) := by decide +kernel
theorem d_M_timesSmall_8 : decode b_M_timesSmall 8 = .ok (.aload_n 0, 1) := by decide +kernel
theorem d_M_timesSmall_9 : decode b_M_timesSmall 9 = .ok (.getfield 13, 3) := by decide +kernel
theorem d_M_timesSmall_12 : decode b_M_timesSmall 12 = .ok (.iload_n 1, 1) := by decide +kernel
theorem d_M_timesSmall_13 : decode b_M_timesSmall 13 = .ok (.iaload, 1) := by decide +kernel
theorem d_M_timesSmall_14 : decode b_M_timesSmall 14 = .ok (.if_icmp .ge 58, 3) := by decide +kernel
theorem d_M_timesSmall_17 : decode b_M_timesSmall 17 = .ok (.aload_n 0, 1) := by decide +kernel
theorem d_M_timesSmall_18 : decode b_M_timesSmall 18 = .ok (.getfield 9, 3) := by decide +kernel
theorem d_M_timesSmall_21 : decode b_M_timesSmall 21 = .ok (.sipush 460, 3) := by decide +kernel
theorem d_M_timesSmall_24 : decode b_M_timesSmall 24 = .ok (.iload_n 1, 1) := by decide +kernel
theorem d_M_timesSmall_25 : decode b_M_timesSmall 25 = .ok (.imul, 1) := by decide +kernel
theorem d_M_timesSmall_26 : decode b_M_timesSmall 26 = .ok (.iload 6, 2) := by decide +kernel
theorem d_M_timesSmall_28 : decode b_M_timesSmall 28 = .ok (.iadd, 1) := by decide +kernel
theorem d_M_timesSmall_29 : decode b_M_timesSmall 29 = .ok (.iaload, 1) := by decide +kernel
theorem d_M_timesSmall_30 : decode b_M_timesSmall 30 = .ok (.i2l, 1) := by decide +kernel
theorem d_M_timesSmall_31 : decode b_M_timesSmall 31 = .ok (.lload_n 2, 1) := by decide +kernel
theorem d_M_timesSmall_32 : decode b_M_timesSmall 32 = .ok (.lmul, 1) := by decide +kernel
theorem d_M_timesSmall_33 : decode b_M_timesSmall 33 = .ok (.lload 4, 2) := by decide +kernel
theorem d_M_timesSmall_35 : decode b_M_timesSmall 35 = .ok (.ladd, 1) := by decide +kernel
theorem d_M_timesSmall_36 : decode b_M_timesSmall 36 = .ok (.lstore 7, 2) := by decide +kernel
theorem d_M_timesSmall_38 : decode b_M_timesSmall 38 = .ok (.aload_n 0, 1) := by decide +kernel
theorem d_M_timesSmall_39 : decode b_M_timesSmall 39 = .ok (.getfield 9, 3) := by decide +kernel
theorem d_M_timesSmall_42 : decode b_M_timesSmall 42 = .ok (.sipush 460, 3) := by decide +kernel
theorem d_M_timesSmall_45 : decode b_M_timesSmall 45 = .ok (.iload_n 1, 1) := by decide +kernel
theorem d_M_timesSmall_46 : decode b_M_timesSmall 46 = .ok (.imul, 1) := by decide +kernel
theorem d_M_timesSmall_47 : decode b_M_timesSmall 47 = .ok (.iload 6, 2) := by decide +kernel
theorem d_M_timesSmall_49 : decode b_M_timesSmall 49 = .ok (.iadd, 1) := by decide +kernel
theorem d_M_timesSmall_50 : decode b_M_timesSmall 50 = .ok (.lload 7, 2) := by decide +kernel
theorem d_M_timesSmall_52 : decode b_M_timesSmall 52 = .ok (.ldc2_w 34, 3) := by decide +kernel
theorem d_M_timesSmall_55 : decode b_M_timesSmall 55 = .ok (.lrem, 1) := by decide +kernel
theorem d_M_timesSmall_56 : decode b_M_timesSmall 56 = .ok (.l2i, 1) := by decide +kernel
theorem d_M_timesSmall_57 : decode b_M_timesSmall 57 = .ok (.iastore, 1) := by decide +kernel
theorem d_M_timesSmall_58 : decode b_M_timesSmall 58 = .ok (.lload 7, 2) := by decide +kernel
theorem d_M_timesSmall_60 : decode b_M_timesSmall 60 = .ok (.ldc2_w 34, 3) := by decide +kernel
theorem d_M_timesSmall_63 : decode b_M_timesSmall 63 = .ok (.ldiv, 1) := by decide +kernel
theorem d_M_timesSmall_64 : decode b_M_timesSmall 64 = .ok (.lstore 4, 2) := by decide +kernel
theorem d_M_timesSmall_66 : decode b_M_timesSmall 66 = .ok (.iinc 6 1, 3) := by decide +kernel
theorem d_M_timesSmall_69 : decode b_M_timesSmall 69 = .ok (.goto (-63), 3) := by decide +kernel
theorem d_M_timesSmall_72 : decode b_M_timesSmall 72 = .ok (.lload 4, 2) := by decide +kernel
theorem d_M_timesSmall_74 : decode b_M_timesSmall 74 = .ok (.lconst 0, 1) := by decide +kernel
theorem d_M_timesSmall_75 : decode b_M_timesSmall 75 = .ok (.lcmp, 1) := by decide +kernel
theorem d_M_timesSmall_76 : decode b_M_timesSmall 76 = .ok (.ifCond .le 33, 3) := by decide +kernel
theorem d_M_timesSmall_79 : decode b_M_timesSmall 79 = .ok (.aload_n 0, 1) := by decide +kernel
theorem d_M_timesSmall_80 : decode b_M_timesSmall 80 = .ok (.getfield 9, 3) := by decide +kernel
theorem d_M_timesSmall_83 : decode b_M_timesSmall 83 = .ok (.sipush 460, 3) := by decide +kernel
theorem d_M_timesSmall_86 : decode b_M_timesSmall 86 = .ok (.iload_n 1, 1) := by decide +kernel
theorem d_M_timesSmall_87 : decode b_M_timesSmall 87 = .ok (.imul, 1) := by decide +kernel
theorem d_M_timesSmall_88 : decode b_M_timesSmall 88 = .ok (.aload_n 0, 1) := by decide +kernel
theorem d_M_timesSmall_89 : decode b_M_timesSmall 89 = .ok (.getfield 13, 3) := by decide +kernel
theorem d_M_timesSmall_92 : decode b_M_timesSmall 92 = .ok (.iload_n 1, 1) := by decide +kernel
theorem d_M_timesSmall_93 : decode b_M_timesSmall 93 = .ok (.iaload, 1) := by decide +kernel
theorem d_M_timesSmall_94 : decode b_M_timesSmall 94 = .ok (.iadd, 1) := by decide +kernel
theorem d_M_timesSmall_95 : decode b_M_timesSmall 95 = .ok (.lload 4, 2) := by decide +kernel
theorem d_M_timesSmall_97 : decode b_M_timesSmall 97 = .ok (.l2i, 1) := by decide +kernel
theorem d_M_timesSmall_98 : decode b_M_timesSmall 98 = .ok (.iastore, 1) := by decide +kernel
theorem d_M_timesSmall_99 : decode b_M_timesSmall 99 = .ok (.aload_n 0, 1) := by decide +kernel
theorem d_M_timesSmall_100 : decode b_M_timesSmall 100 = .ok (.getfield 13, 3) := by decide +kernel
theorem d_M_timesSmall_103 : decode b_M_timesSmall 103 = .ok (.iload_n 1, 1) := by decide +kernel
theorem d_M_timesSmall_104 : decode b_M_timesSmall 104 = .ok (.dup2, 1) := by decide +kernel
theorem d_M_timesSmall_105 : decode b_M_timesSmall 105 = .ok (.iaload, 1) := by decide +kernel
theorem d_M_timesSmall_106 : decode b_M_timesSmall 106 = .ok (.iconst 1, 1) := by decide +kernel
theorem d_M_timesSmall_107 : decode b_M_timesSmall 107 = .ok (.iadd, 1) := by decide +kernel
theorem d_M_timesSmall_108 : decode b_M_timesSmall 108 = .ok (.iastore, 1) := by decide +kernel
theorem d_M_timesSmall_109 : decode b_M_timesSmall 109 = .ok (.return_, 1) := by decide +kernel
theorem d_M_bySmall_0 : decode b_M_bySmall 0 = .ok (.lconst 0, 1) := by decide +kernel
theorem d_M_bySmall_1 : decode b_M_bySmall 1 = .ok (.lstore_n 3, 1) := by decide +kernel
theorem d_M_bySmall_2 : decode b_M_bySmall 2 = .ok (.aload_n 0, 1) := by decide +kernel
theorem d_M_bySmall_3 : decode b_M_bySmall 3 = .ok (.getfield 13, 3) := by decide +kernel
theorem d_M_bySmall_6 : decode b_M_bySmall 6 = .ok (.iload_n 1, 1) := by decide +kernel
theorem d_M_bySmall_7 : decode b_M_bySmall 7 = .ok (.iaload, 1) := by decide +kernel
theorem d_M_bySmall_8 : decode b_M_bySmall 8 = .ok (.iconst 1, 1) := by decide +kernel
theorem d_M_bySmall_9 : decode b_M_bySmall 9 = .ok (.isub, 1) := by decide +kernel
theorem d_M_bySmall_10 : decode b_M_bySmall 10 = .ok (.istore 5, 2) := by decide +kernel
theorem d_M_bySmall_12 : decode b_M_bySmall 12 = .ok (.iload 5, 2) := by decide +kernel
theorem d_M_bySmall_14 : decode b_M_bySmall 14 = .ok (.ifCond .lt 56, 3) := by decide +kernel
theorem d_M_bySmall_17 : decode b_M_bySmall 17 = .ok (.lload_n 3, 1) := by decide +kernel
theorem d_M_bySmall_18 : decode b_M_bySmall 18 = .ok (.ldc2_w 34, 3) := by decide +kernel
theorem d_M_bySmall_21 : decode b_M_bySmall 21 = .ok (.lmul, 1) := by decide +kernel
theorem d_M_bySmall_22 : decode b_M_bySmall 22 = .ok (.aload_n 0, 1) := by decide +kernel
theorem d_M_bySmall_23 : decode b_M_bySmall 23 = .ok (.getfield 9, 3) := by decide +kernel
theorem d_M_bySmall_26 : decode b_M_bySmall 26 = .ok (.sipush 460, 3) := by decide +kernel
theorem d_M_bySmall_29 : decode b_M_bySmall 29 = .ok (.iload_n 1, 1) := by decide +kernel
theorem d_M_bySmall_30 : decode b_M_bySmall 30 = .ok (.imul, 1) := by decide +kernel
theorem d_M_bySmall_31 : decode b_M_bySmall 31 = .ok (.iload 5, 2) := by decide +kernel
theorem d_M_bySmall_33 : decode b_M_bySmall 33 = .ok (.iadd, 1) := by decide +kernel
theorem d_M_bySmall_34 : decode b_M_bySmall 34 = .ok (.iaload, 1) := by decide +kernel
theorem d_M_bySmall_35 : decode b_M_bySmall 35 = .ok (.i2l, 1) := by decide +kernel
theorem d_M_bySmall_36 : decode b_M_bySmall 36 = .ok (.ladd, 1) := by decide +kernel
theorem d_M_bySmall_37 : decode b_M_bySmall 37 = .ok (.lstore 6, 2) := by decide +kernel
theorem d_M_bySmall_39 : decode b_M_bySmall 39 = .ok (.aload_n 0, 1) := by decide +kernel
theorem d_M_bySmall_40 : decode b_M_bySmall 40 = .ok (.getfield 9, 3) := by decide +kernel
theorem d_M_bySmall_43 : decode b_M_bySmall 43 = .ok (.sipush 460, 3) := by decide +kernel
theorem d_M_bySmall_46 : decode b_M_bySmall 46 = .ok (.iload_n 1, 1) := by decide +kernel
theorem d_M_bySmall_47 : decode b_M_bySmall 47 = .ok (.imul, 1) := by decide +kernel
theorem d_M_bySmall_48 : decode b_M_bySmall 48 = .ok (.iload 5, 2) := by decide +kernel
theorem d_M_bySmall_50 : decode b_M_bySmall 50 = .ok (.iadd, 1) := by decide +kernel
theorem d_M_bySmall_51 : decode b_M_bySmall 51 = .ok (.lload 6, 2) := by decide +kernel
theorem d_M_bySmall_53 : decode b_M_bySmall 53 = .ok (.iload_n 2, 1) := by decide +kernel
theorem d_M_bySmall_54 : decode b_M_bySmall 54 = .ok (.i2l, 1) := by decide +kernel
theorem d_M_bySmall_55 : decode b_M_bySmall 55 = .ok (.ldiv, 1) := by decide +kernel
theorem d_M_bySmall_56 : decode b_M_bySmall 56 = .ok (.l2i, 1) := by decide +kernel
theorem d_M_bySmall_57 : decode b_M_bySmall 57 = .ok (.iastore, 1) := by decide +kernel
theorem d_M_bySmall_58 : decode b_M_bySmall 58 = .ok (.lload 6, 2) := by decide +kernel
theorem d_M_bySmall_60 : decode b_M_bySmall 60 = .ok (.iload_n 2, 1) := by decide +kernel
theorem d_M_bySmall_61 : decode b_M_bySmall 61 = .ok (.i2l, 1) := by decide +kernel
theorem d_M_bySmall_62 : decode b_M_bySmall 62 = .ok (.lrem, 1) := by decide +kernel
theorem d_M_bySmall_63 : decode b_M_bySmall 63 = .ok (.lstore_n 3, 1) := by decide +kernel
theorem d_M_bySmall_64 : decode b_M_bySmall 64 = .ok (.iinc 5 (-1), 3) := by decide +kernel
theorem d_M_bySmall_67 : decode b_M_bySmall 67 = .ok (.goto (-55), 3) := by decide +kernel
theorem d_M_bySmall_70 : decode b_M_bySmall 70 = .ok (.aload_n 0, 1) := by decide +kernel
theorem d_M_bySmall_71 : decode b_M_bySmall 71 = .ok (.iload_n 1, 1) := by decide +kernel
theorem d_M_bySmall_72 : decode b_M_bySmall 72 = .ok (.aload_n 0, 1) := by decide +kernel
theorem d_M_bySmall_73 : decode b_M_bySmall 73 = .ok (.getfield 13, 3) := by decide +kernel
theorem d_M_bySmall_76 : decode b_M_bySmall 76 = .ok (.iload_n 1, 1) := by decide +kernel
theorem d_M_bySmall_77 : decode b_M_bySmall 77 = .ok (.iaload, 1) := by decide +kernel
theorem d_M_bySmall_78 : decode b_M_bySmall 78 = .ok (.invokevirtual 53, 3) := by decide +kernel
theorem d_M_bySmall_81 : decode b_M_bySmall 81 = .ok (.return_, 1) := by decide +kernel
theorem d_M_divide_0 : decode b_M_divide 0 = .ok (.iload_n 1, 1) := by decide +kernel
theorem d_M_divide_1 : decode b_M_divide 1 = .ok (.ifCond .lt 17, 3) := by decide +kernel
theorem d_M_divide_4 : decode b_M_divide 4 = .ok (.aload_n 0, 1) := by decide +kernel
theorem d_M_divide_5 : decode b_M_divide 5 = .ok (.getfield 13, 3) := by decide +kernel
theorem d_M_divide_8 : decode b_M_divide 8 = .ok (.iload_n 1, 1) := by decide +kernel
theorem d_M_divide_9 : decode b_M_divide 9 = .ok (.iconst 0, 1) := by decide +kernel
theorem d_M_divide_10 : decode b_M_divide 10 = .ok (.iastore, 1) := by decide +kernel
theorem d_M_divide_11 : decode b_M_divide 11 = .ok (.aload_n 0, 1) := by decide +kernel
theorem d_M_divide_12 : decode b_M_divide 12 = .ok (.getfield 16, 3) := by decide +kernel
theorem d_M_divide_15 : decode b_M_divide 15 = .ok (.iload_n 1, 1) := by decide +kernel
theorem d_M_divide_16 : decode b_M_divide 16 = .ok (.iconst 0, 1) := by decide +kernel
theorem d_M_divide_17 : decode b_M_divide 17 = .ok (.iastore, 1) := by decide +kernel
theorem d_M_divide_18 : decode b_M_divide 18 = .ok (.aload_n 0, 1) := by decide +kernel
theorem d_M_divide_19 : decode b_M_divide 19 = .ok (.iload_n 2, 1) := by decide +kernel
theorem d_M_divide_20 : decode b_M_divide 20 = .ok (.iload_n 3, 1) := by decide +kernel
theorem d_M_divide_21 : decode b_M_divide 21 = .ok (.invokevirtual 36, 3) := by decide +kernel
theorem d_M_divide_24 : decode b_M_divide 24 = .ok (.ifCond .ge 4, 3) := by decide +kernel
theorem d_M_divide_27 : decode b_M_divide 27 = .ok (.return_, 1) := by decide +kernel
theorem d_M_divide_28 : decode b_M_divide 28 = .ok (.ldc 52, 2) := by decide +kernel
theorem d_M_divide_30 : decode b_M_divide 30 = .ok (.aload_n 0, 1) := by decide +kernel
theorem d_M_divide_31 : decode b_M_divide 31 = .ok (.getfield 9, 3) := by decide +kernel
theorem d_M_divide_34 : decode b_M_divide 34 = .ok (.sipush 460, 3) := by decide +kernel
