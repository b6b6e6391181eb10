theorem d_L_132 : decode code 132 = .ok (.iload_n 3, 1) := by decide +kernel
theorem d_L_133 : decode code 133 = .ok (.iconst 2, 1) := by decide +kernel
theorem d_L_134 : decode code 134 = .ok (.iadd, 1) := by decide +kernel
theorem d_L_135 : decode code 135 = .ok (.iaload, 1) := by decide +kernel
theorem d_L_136 : decode code 136 = .ok (.aload_n 0, 1) := by decide +kernel
theorem d_L_137 : decode code 137 = .ok (.iload_n 3, 1) := by decide +kernel
theorem d_L_138 : decode code 138 = .ok (.iconst 3, 1) := by decide +kernel
theorem d_L_139 : decode code 139 = .ok (.iadd, 1) := by decide +kernel
theorem d_L_140 : decode code 140 = .ok (.iaload, 1) := by decide +kernel
theorem d_L_141 : decode code 141 = .ok (.aload_n 0, 1) := by decide +kernel
theorem d_L_142 : decode code 142 = .ok (.iload_n 3, 1) := by decide +kernel
theorem d_L_143 : decode code 143 = .ok (.iconst 4, 1) := by decide +kernel
theorem d_L_144 : decode code 144 = .ok (.iadd, 1) := by decide +kernel
theorem d_L_145 : decode code 145 = .ok (.iaload, 1) := by decide +kernel
theorem d_L_146 : decode code 146 = .ok (.aload_n 0, 1) := by decide +kernel
theorem d_L_147 : decode code 147 = .ok (.iload_n 3, 1) := by decide +kernel
theorem d_L_148 : decode code 148 = .ok (.iconst 5, 1) := by decide +kernel
theorem d_L_149 : decode code 149 = .ok (.iadd, 1) := by decide +kernel
theorem d_L_150 : decode code 150 = .ok (.iaload, 1) := by decide +kernel
theorem d_L_151 : decode code 151 = .ok (.invokevirtual 17, 3) := by decide +kernel
theorem d_L_154 : decode code 154 = .ok (.if_icmp .eq 536, 3) := by decide +kernel
theorem d_L_157 : decode code 157 = .ok (.iconst 0, 1) := by decide +kernel
theorem d_L_158 : decode code 158 = .ok (.ireturn, 1) := by decide +kernel
theorem d_L_159 : decode code 159 = .ok (.aload_n 1, 1) := by decide +kernel
theorem d_L_160 : decode code 160 = .ok (.aload_n 0, 1) := by decide +kernel
theorem d_L_161 : decode code 161 = .ok (.iload_n 3, 1) := by decide +kernel
theorem d_L_162 : decode code 162 = .ok (.iconst 1, 1) := by decide +kernel
theorem d_L_163 : decode code 163 = .ok (.iadd, 1) := by decide +kernel
theorem d_L_164 : decode code 164 = .ok (.iaload, 1) := by decide +kernel
theorem d_L_165 : decode code 165 = .ok (.invokevirtual 18, 3) := by decide +kernel
theorem d_L_168 : decode code 168 = .ok (.aload_n 2, 1) := by decide +kernel
theorem d_L_169 : decode code 169 = .ok (.aload_n 0, 1) := by decide +kernel
theorem d_L_170 : decode code 170 = .ok (.iload_n 3, 1) := by decide +kernel
theorem d_L_171 : decode code 171 = .ok (.iconst 1, 1) := by decide +kernel
theorem d_L_172 : decode code 172 = .ok (.iadd, 1) := by decide +kernel
theorem d_L_173 : decode code 173 = .ok (.iaload, 1) := by decide +kernel
theorem d_L_174 : decode code 174 = .ok (.invokevirtual 22, 3) := by decide +kernel
theorem d_L_177 : decode code 177 = .ok (.if_icmp .eq 513, 3) := by decide +kernel
theorem d_L_180 : decode code 180 = .ok (.iconst 0, 1) := by decide +kernel
theorem d_L_181 : decode code 181 = .ok (.ireturn, 1) := by decide +kernel
theorem d_L_182 : decode code 182 = .ok (.aload_n 1, 1) := by decide +kernel
theorem d_L_183 : decode code 183 = .ok (.aload_n 0, 1) := by decide +kernel
theorem d_L_184 : decode code 184 = .ok (.iload_n 3, 1) := by decide +kernel
theorem d_L_185 : decode code 185 = .ok (.iconst 1, 1) := by decide +kernel
theorem d_L_186 : decode code 186 = .ok (.iadd, 1) := by decide +kernel
theorem d_L_187 : decode code 187 = .ok (.iaload, 1) := by decide +kernel
theorem d_L_188 : decode code 188 = .ok (.aload_n 0, 1) := by decide +kernel
theorem d_L_189 : decode code 189 = .ok (.iload_n 3, 1) := by decide +kernel
theorem d_L_190 : decode code 190 = .ok (.iconst 2, 1) := by decide +kernel
theorem d_L_191 : decode code 191 = .ok (.iadd, 1) := by decide +kernel
theorem d_L_192 : decode code 192 = .ok (.iaload, 1) := by decide +kernel
theorem d_L_193 : decode code 193 = .ok (.i2l, 1) := by decide +kernel
theorem d_L_194 : decode code 194 = .ok (.bipush 32, 2) := by decide +kernel
theorem d_L_196 : decode code 196 = .ok (.lshl, 1) := by decide +kernel
theorem d_L_197 : decode code 197 = .ok (.aload_n 0, 1) := by decide +kernel
theorem d_L_198 : decode code 198 = .ok (.iload_n 3, 1) := by decide +kernel
