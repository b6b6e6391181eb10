theorem d_D_mix_103 : decode b_D_mix 103 = .ok (.lmul, 1) := by decide +kernel
theorem d_D_mix_104 : decode b_D_mix 104 = .ok (.ladd, 1) := by decide +kernel
theorem d_D_mix_105 : decode b_D_mix 105 = .ok (.lload_n 2, 1) := by decide +kernel
theorem d_D_mix_106 : decode b_D_mix 106 = .ok (.ladd, 1) := by decide +kernel
theorem d_D_mix_107 : decode b_D_mix 107 = .ok (.lstore 11, 2) := by decide +kernel
theorem d_D_mix_109 : decode b_D_mix 109 = .ok (.aload_n 0, 1) := by decide +kernel
theorem d_D_mix_110 : decode b_D_mix 110 = .ok (.getfield 103, 3) := by decide +kernel
theorem d_D_mix_113 : decode b_D_mix 113 = .ok (.lload 7, 2) := by decide +kernel
theorem d_D_mix_115 : decode b_D_mix 115 = .ok (.lmul, 1) := by decide +kernel
theorem d_D_mix_116 : decode b_D_mix 116 = .ok (.aload_n 0, 1) := by decide +kernel
theorem d_D_mix_117 : decode b_D_mix 117 = .ok (.getfield 106, 3) := by decide +kernel
theorem d_D_mix_120 : decode b_D_mix 120 = .ok (.lload 9, 2) := by decide +kernel
theorem d_D_mix_122 : decode b_D_mix 122 = .ok (.lmul, 1) := by decide +kernel
theorem d_D_mix_123 : decode b_D_mix 123 = .ok (.ladd, 1) := by decide +kernel
theorem d_D_mix_124 : decode b_D_mix 124 = .ok (.lload 4, 2) := by decide +kernel
theorem d_D_mix_126 : decode b_D_mix 126 = .ok (.ladd, 1) := by decide +kernel
theorem d_D_mix_127 : decode b_D_mix 127 = .ok (.lstore 13, 2) := by decide +kernel
theorem d_D_mix_129 : decode b_D_mix 129 = .ok (.lload 11, 2) := by decide +kernel
theorem d_D_mix_131 : decode b_D_mix 131 = .ok (.ldc2_w 121, 3) := by decide +kernel
theorem d_D_mix_134 : decode b_D_mix 134 = .ok (.invokestatic 126, 3) := by decide +kernel
theorem d_D_mix_137 : decode b_D_mix 137 = .ok (.lstore_n 2, 1) := by decide +kernel
theorem d_D_mix_138 : decode b_D_mix 138 = .ok (.lload 13, 2) := by decide +kernel
theorem d_D_mix_140 : decode b_D_mix 140 = .ok (.ldc2_w 121, 3) := by decide +kernel
theorem d_D_mix_143 : decode b_D_mix 143 = .ok (.invokestatic 126, 3) := by decide +kernel
theorem d_D_mix_146 : decode b_D_mix 146 = .ok (.lstore 4, 2) := by decide +kernel
theorem d_D_mix_148 : decode b_D_mix 148 = .ok (.aload_n 0, 1) := by decide +kernel
theorem d_D_mix_149 : decode b_D_mix 149 = .ok (.getfield 23, 3) := by decide +kernel
theorem d_D_mix_152 : decode b_D_mix 152 = .ok (.getfield 123, 3) := by decide +kernel
theorem d_D_mix_155 : decode b_D_mix 155 = .ok (.iload 6, 2) := by decide +kernel
theorem d_D_mix_157 : decode b_D_mix 157 = .ok (.lload 11, 2) := by decide +kernel
theorem d_D_mix_159 : decode b_D_mix 159 = .ok (.lload_n 2, 1) := by decide +kernel
theorem d_D_mix_160 : decode b_D_mix 160 = .ok (.ldc2_w 121, 3) := by decide +kernel
theorem d_D_mix_163 : decode b_D_mix 163 = .ok (.lmul, 1) := by decide +kernel
theorem d_D_mix_164 : decode b_D_mix 164 = .ok (.lsub, 1) := by decide +kernel
theorem d_D_mix_165 : decode b_D_mix 165 = .ok (.l2i, 1) := by decide +kernel
theorem d_D_mix_166 : decode b_D_mix 166 = .ok (.iastore, 1) := by decide +kernel
theorem d_D_mix_167 : decode b_D_mix 167 = .ok (.aload_n 0, 1) := by decide +kernel
theorem d_D_mix_168 : decode b_D_mix 168 = .ok (.getfield 26, 3) := by decide +kernel
theorem d_D_mix_171 : decode b_D_mix 171 = .ok (.getfield 123, 3) := by decide +kernel
theorem d_D_mix_174 : decode b_D_mix 174 = .ok (.iload 6, 2) := by decide +kernel
theorem d_D_mix_176 : decode b_D_mix 176 = .ok (.lload 13, 2) := by decide +kernel
theorem d_D_mix_178 : decode b_D_mix 178 = .ok (.lload 4, 2) := by decide +kernel
theorem d_D_mix_180 : decode b_D_mix 180 = .ok (.ldc2_w 121, 3) := by decide +kernel
theorem d_D_mix_183 : decode b_D_mix 183 = .ok (.lmul, 1) := by decide +kernel
theorem d_D_mix_184 : decode b_D_mix 184 = .ok (.lsub, 1) := by decide +kernel
theorem d_D_mix_185 : decode b_D_mix 185 = .ok (.l2i, 1) := by decide +kernel
theorem d_D_mix_186 : decode b_D_mix 186 = .ok (.iastore, 1) := by decide +kernel
theorem d_D_mix_187 : decode b_D_mix 187 = .ok (.iinc 6 1, 3) := by decide +kernel
theorem d_D_mix_190 : decode b_D_mix 190 = .ok (.goto (-132), 3) := by decide +kernel
theorem d_D_mix_193 : decode b_D_mix 193 = .ok (.aload_n 0, 1) := by decide +kernel
theorem d_D_mix_194 : decode b_D_mix 194 = .ok (.getfield 23, 3) := by decide +kernel
theorem d_D_mix_197 : decode b_D_mix 197 = .ok (.iload_n 1, 1) := by decide +kernel
theorem d_D_mix_198 : decode b_D_mix 198 = .ok (.iconst 0, 1) := by decide +kernel
theorem d_D_mix_199 : decode b_D_mix 199 = .ok (.invokevirtual 129, 3) := by decide +kernel
theorem d_D_mix_202 : decode b_D_mix 202 = .ok (.aload_n 0, 1) := by decide +kernel
theorem d_D_mix_203 : decode b_D_mix 203 = .ok (.getfield 26, 3) := by decide +kernel
theorem d_D_mix_206 : decode b_D_mix 206 = .ok (.iload_n 1, 1) := by decide +kernel
theorem d_D_mix_207 : decode b_D_mix 207 = .ok (.iconst 0, 1) := by decide +kernel
theorem d_D_mix_208 : decode b_D_mix 208 = .ok (.invokevirtual 129, 3) := by decide +kernel
theorem d_D_mix_211 : decode b_D_mix 211 = .ok (.return_, 1) := by decide +kernel
theorem d_D_root_0 : decode b_D_root 0 = .ok (.aload_n 1, 1) := by decide +kernel
theorem d_D_root_1 : decode b_D_root 1 = .ok (.invokevirtual 68, 3) := by decide +kernel
theorem d_D_root_4 : decode b_D_root 4 = .ok (.ifCond .eq 8, 3) := by decide +kernel
theorem d_D_root_7 : decode b_D_root 7 = .ok (.aload_n 2, 1) := by decide +kernel
theorem d_D_root_8 : decode b_D_root 8 = .ok (.invokevirtual 133, 3) := by decide +kernel
theorem d_D_root_11 : decode b_D_root 11 = .ok (.return_, 1) := by decide +kernel
theorem d_D_root_12 : decode b_D_root 12 = .ok (.aload_n 1, 1) := by decide +kernel
theorem d_D_root_13 : decode b_D_root 13 = .ok (.invokevirtual 136, 3) := by decide +kernel
theorem d_D_root_16 : decode b_D_root 16 = .ok (.iconst 1, 1) := by decide +kernel
theorem d_D_root_17 : decode b_D_root 17 = .ok (.iadd, 1) := by decide +kernel
theorem d_D_root_18 : decode b_D_root 18 = .ok (.iconst 2, 1) := by decide +kernel
theorem d_D_root_19 : decode b_D_root 19 = .ok (.idiv, 1) := by decide +kernel
theorem d_D_root_20 : decode b_D_root 20 = .ok (.aload_n 0, 1) := by decide +kernel
theorem d_D_root_21 : decode b_D_root 21 = .ok (.getfield 23, 3) := by decide +kernel
theorem d_D_root_24 : decode b_D_root 24 = .ok (.invokestatic 140, 3) := by decide +kernel
theorem d_D_root_27 : decode b_D_root 27 = .ok (.iconst 0, 1) := by decide +kernel
theorem d_D_root_28 : decode b_D_root 28 = .ok (.istore_n 3, 1) := by decide +kernel
theorem d_D_root_29 : decode b_D_root 29 = .ok (.iload_n 3, 1) := by decide +kernel
theorem d_D_root_30 : decode b_D_root 30 = .ok (.ldc 56, 2) := by decide +kernel
theorem d_D_root_32 : decode b_D_root 32 = .ok (.if_icmp .ge 99, 3) := by decide +kernel
theorem d_D_root_35 : decode b_D_root 35 = .ok (.aload_n 0, 1) := by decide +kernel
theorem d_D_root_36 : decode b_D_root 36 = .ok (.getfield 32, 3) := by decide +kernel
theorem d_D_root_39 : decode b_D_root 39 = .ok (.aload_n 1, 1) := by decide +kernel
theorem d_D_root_40 : decode b_D_root 40 = .ok (.aload_n 0, 1) := by decide +kernel
theorem d_D_root_41 : decode b_D_root 41 = .ok (.getfield 23, 3) := by decide +kernel
theorem d_D_root_44 : decode b_D_root 44 = .ok (.aload_n 0, 1) := by decide +kernel
theorem d_D_root_45 : decode b_D_root 45 = .ok (.getfield 14, 3) := by decide +kernel
theorem d_D_root_48 : decode b_D_root 48 = .ok (.aload_n 0, 1) := by decide +kernel
theorem d_D_root_49 : decode b_D_root 49 = .ok (.getfield 29, 3) := by decide +kernel
theorem d_D_root_52 : decode b_D_root 52 = .ok (.invokevirtual 79, 3) := by decide +kernel
theorem d_D_root_55 : decode b_D_root 55 = .ok (.aload_n 0, 1) := by decide +kernel
theorem d_D_root_56 : decode b_D_root 56 = .ok (.getfield 32, 3) := by decide +kernel
theorem d_D_root_59 : decode b_D_root 59 = .ok (.aload_n 0, 1) := by decide +kernel
theorem d_D_root_60 : decode b_D_root 60 = .ok (.getfield 14, 3) := by decide +kernel
theorem d_D_root_63 : decode b_D_root 63 = .ok (.aload_n 0, 1) := by decide +kernel
theorem d_D_root_64 : decode b_D_root 64 = .ok (.getfield 23, 3) := by decide +kernel
theorem d_D_root_67 : decode b_D_root 67 = .ok (.aload_n 0, 1) := by decide +kernel
theorem d_D_root_68 : decode b_D_root 68 = .ok (.getfield 26, 3) := by decide +kernel
theorem d_D_root_71 : decode b_D_root 71 = .ok (.invokevirtual 144, 3) := by decide +kernel
theorem d_D_root_74 : decode b_D_root 74 = .ok (.aload_n 0, 1) := by decide +kernel
theorem d_D_root_75 : decode b_D_root 75 = .ok (.getfield 32, 3) := by decide +kernel
theorem d_D_root_78 : decode b_D_root 78 = .ok (.aload_n 0, 1) := by decide +kernel
theorem d_D_root_79 : decode b_D_root 79 = .ok (.getfield 26, 3) := by decide +kernel
theorem d_D_root_82 : decode b_D_root 82 = .ok (.aload_n 0, 1) := by decide +kernel
theorem d_D_root_83 : decode b_D_root 83 = .ok (.getfield 20, 3) := by decide +kernel
theorem d_D_root_86 : decode b_D_root 86 = .ok (.aload_n 0, 1) := by decide +kernel
theorem d_D_root_87 : decode b_D_root 87 = .ok (.getfield 26, 3) := by decide +kernel
theorem d_D_root_90 : decode b_D_root 90 = .ok (.aload_n 0, 1) := by decide +kernel
theorem d_D_root_91 : decode b_D_root 91 = .ok (.getfield 29, 3) := by decide +kernel
theorem d_D_root_94 : decode b_D_root 94 = .ok (.invokevirtual 79, 3) := by decide +kernel
theorem d_D_root_97 : decode b_D_root 97 = .ok (.aload_n 0, 1) := by decide +kernel
theorem d_D_root_98 : decode b_D_root 98 = .ok (.getfield 26, 3) := by decide +kernel
theorem d_D_root_101 : decode b_D_root 101 = .ok (.aload_n 0, 1) := by decide +kernel
theorem d_D_root_102 : decode b_D_root 102 = .ok (.getfield 23, 3) := by decide +kernel
theorem d_D_root_105 : decode b_D_root 105 = .ok (.invokevirtual 49, 3) := by decide +kernel
theorem d_D_root_108 : decode b_D_root 108 = .ok (.ifCond .lt 6, 3) := by decide +kernel
theorem d_D_root_111 : decode b_D_root 111 = .ok (.goto 20, 3) := by decide +kernel
theorem d_D_root_114 : decode b_D_root 114 = .ok (.aload_n 0, 1) := by decide +kernel
theorem d_D_root_115 : decode b_D_root 115 = .ok (.getfield 23, 3) := by decide +kernel
theorem d_D_root_118 : decode b_D_root 118 = .ok (.aload_n 0, 1) := by decide +kernel
theorem d_D_root_119 : decode b_D_root 119 = .ok (.getfield 26, 3) := by decide +kernel
theorem d_D_root_122 : decode b_D_root 122 = .ok (.invokevirtual 42, 3) := by decide +kernel
theorem d_D_root_125 : decode b_D_root 125 = .ok (.iinc 3 1, 3) := by decide +kernel
theorem d_D_root_128 : decode b_D_root 128 = .ok (.goto (-99), 3) := by decide +kernel
theorem d_D_root_131 : decode b_D_root 131 = .ok (.aload_n 2, 1) := by decide +kernel
theorem d_D_root_132 : decode b_D_root 132 = .ok (.aload_n 0, 1) := by decide +kernel
theorem d_D_root_133 : decode b_D_root 133 = .ok (.getfield 23, 3) := by decide +kernel
theorem d_D_root_136 : decode b_D_root 136 = .ok (.invokevirtual 42, 3) := by decide +kernel
theorem d_D_root_139 : decode b_D_root 139 = .ok (.return_, 1) := by decide +kernel
theorem d_D_powerOfTen_0 : decode b_D_powerOfTen 0 = .ok (.iload_n 0, 1) := by decide +kernel
theorem d_D_powerOfTen_1 : decode b_D_powerOfTen 1 = .ok (.bipush 9, 2) := by decide +kernel
theorem d_D_powerOfTen_3 : decode b_D_powerOfTen 3 = .ok (.idiv, 1) := by decide +kernel
theorem d_D_powerOfTen_4 : decode b_D_powerOfTen 4 = .ok (.istore_n 2, 1) := by decide +kernel
theorem d_D_powerOfTen_5 : decode b_D_powerOfTen 5 = .ok (.iload_n 0, 1) := by decide +kernel
theorem d_D_powerOfTen_6 : decode b_D_powerOfTen 6 = .ok (.ifCond .lt 12, 3) := by decide +kernel
theorem d_D_powerOfTen_9 : decode b_D_powerOfTen 9 = .ok (.iload_n 2, 1) := by decide +kernel
theorem d_D_powerOfTen_10 : decode b_D_powerOfTen 10 = .ok (.aload_n 1, 1) := by decide +kernel
theorem d_D_powerOfTen_11 : decode b_D_powerOfTen 11 = .ok (.getfield 123, 3) := by decide +kernel
theorem d_D_powerOfTen_14 : decode b_D_powerOfTen 14 = .ok (.arraylength, 1) := by decide +kernel
theorem d_D_powerOfTen_15 : decode b_D_powerOfTen 15 = .ok (.if_icmp .lt 8, 3) := by decide +kernel
theorem d_D_powerOfTen_18 : decode b_D_powerOfTen 18 = .ok (.aload_n 1, 1) := by decide +kernel
theorem d_D_powerOfTen_19 : decode b_D_powerOfTen 19 = .ok (.invokevirtual 133, 3) := by decide +kernel
theorem d_D_powerOfTen_22 : decode b_D_powerOfTen 22 = .ok (.return_, 1) := by decide +kernel
theorem d_D_powerOfTen_23 : decode b_D_powerOfTen 23 = .ok (.iconst 0, 1) := by decide +kernel
theorem d_D_powerOfTen_24 : decode b_D_powerOfTen 24 = .ok (.istore_n 3, 1) := by decide +kernel
theorem d_D_powerOfTen_25 : decode b_D_powerOfTen 25 = .ok (.iload_n 3, 1) := by decide +kernel
theorem d_D_powerOfTen_26 : decode b_D_powerOfTen 26 = .ok (.iload_n 2, 1) := by decide +kernel
theorem d_D_powerOfTen_27 : decode b_D_powerOfTen 27 = .ok (.if_icmp .ge 16, 3) := by decide +kernel
theorem d_D_powerOfTen_30 : decode b_D_powerOfTen 30 = .ok (.aload_n 1, 1) := by decide +kernel
theorem d_D_powerOfTen_31 : decode b_D_powerOfTen 31 = .ok (.getfield 123, 3) := by decide +kernel
theorem d_D_powerOfTen_34 : decode b_D_powerOfTen 34 = .ok (.iload_n 3, 1) := by decide +kernel
theorem d_D_powerOfTen_35 : decode b_D_powerOfTen 35 = .ok (.iconst 0, 1) := by decide +kernel
theorem d_D_powerOfTen_36 : decode b_D_powerOfTen 36 = .ok (.iastore, 1) := by decide +kernel
theorem d_D_powerOfTen_37 : decode b_D_powerOfTen 37 = .ok (.iinc 3 1, 3) := by decide +kernel
theorem d_D_powerOfTen_40 : decode b_D_powerOfTen 40 = .ok (.goto (-15), 3) := by decide +kernel
theorem d_D_powerOfTen_43 : decode b_D_powerOfTen 43 = .ok (.aload_n 1, 1) := by decide +kernel
theorem d_D_powerOfTen_44 : decode b_D_powerOfTen 44 = .ok (.getfield 123, 3) := by decide +kernel
theorem d_D_powerOfTen_47 : decode b_D_powerOfTen 47 = .ok (.iload_n 2, 1) := by decide +kernel
theorem d_D_powerOfTen_48 : decode b_D_powerOfTen 48 = .ok (.getstatic 117, 3) := by decide +kernel
theorem d_D_powerOfTen_51 : decode b_D_powerOfTen 51 = .ok (.iload_n 0, 1) := by decide +kernel
theorem d_D_powerOfTen_52 : decode b_D_powerOfTen 52 = .ok (.bipush 9, 2) := by decide +kernel
theorem d_D_powerOfTen_54 : decode b_D_powerOfTen 54 = .ok (.irem, 1) := by decide +kernel
theorem d_D_powerOfTen_55 : decode b_D_powerOfTen 55 = .ok (.iaload, 1) := by decide +kernel
theorem d_D_powerOfTen_56 : decode b_D_powerOfTen 56 = .ok (.iastore, 1) := by decide +kernel
theorem d_D_powerOfTen_57 : decode b_D_powerOfTen 57 = .ok (.aload_n 1, 1) := by decide +kernel
theorem d_D_powerOfTen_58 : decode b_D_powerOfTen 58 = .ok (.iload_n 2, 1) := by decide +kernel
theorem d_D_powerOfTen_59 : decode b_D_powerOfTen 59 = .ok (.iconst 1, 1) := by decide +kernel
theorem d_D_powerOfTen_60 : decode b_D_powerOfTen 60 = .ok (.iadd, 1) := by decide +kernel
theorem d_D_powerOfTen_61 : decode b_D_powerOfTen 61 = .ok (.iconst 0, 1) := by decide +kernel
theorem d_D_powerOfTen_62 : decode b_D_powerOfTen 62 = .ok (.invokevirtual 129, 3) := by decide +kernel
theorem d_D_powerOfTen_65 : decode b_D_powerOfTen 65 = .ok (.return_, 1) := by decide +kernel
