theorem d_L_199 : decode code 199 = .ok (.iconst 3, 1) := by decide +kernel
theorem d_L_200 : decode code 200 = .ok (.iadd, 1) := by decide +kernel
theorem d_L_201 : decode code 201 = .ok (.iaload, 1) := by decide +kernel
theorem d_L_202 : decode code 202 = .ok (.i2l, 1) := by decide +kernel
theorem d_L_203 : decode code 203 = .ok (.ldc2_w 23, 3) := by decide +kernel
theorem d_L_206 : decode code 206 = .ok (.land, 1) := by decide +kernel
theorem d_L_207 : decode code 207 = .ok (.lor, 1) := by decide +kernel
theorem d_L_208 : decode code 208 = .ok (.aload_n 0, 1) := by decide +kernel
theorem d_L_209 : decode code 209 = .ok (.iload_n 3, 1) := by decide +kernel
theorem d_L_210 : decode code 210 = .ok (.iconst 4, 1) := by decide +kernel
theorem d_L_211 : decode code 211 = .ok (.iadd, 1) := by decide +kernel
theorem d_L_212 : decode code 212 = .ok (.iaload, 1) := by decide +kernel
theorem d_L_213 : decode code 213 = .ok (.i2l, 1) := by decide +kernel
theorem d_L_214 : decode code 214 = .ok (.bipush 32, 2) := by decide +kernel
theorem d_L_216 : decode code 216 = .ok (.lshl, 1) := by decide +kernel
theorem d_L_217 : decode code 217 = .ok (.aload_n 0, 1) := by decide +kernel
theorem d_L_218 : decode code 218 = .ok (.iload_n 3, 1) := by decide +kernel
theorem d_L_219 : decode code 219 = .ok (.iconst 5, 1) := by decide +kernel
theorem d_L_220 : decode code 220 = .ok (.iadd, 1) := by decide +kernel
theorem d_L_221 : decode code 221 = .ok (.iaload, 1) := by decide +kernel
theorem d_L_222 : decode code 222 = .ok (.i2l, 1) := by decide +kernel
theorem d_L_223 : decode code 223 = .ok (.ldc2_w 23, 3) := by decide +kernel
theorem d_L_226 : decode code 226 = .ok (.land, 1) := by decide +kernel
theorem d_L_227 : decode code 227 = .ok (.lor, 1) := by decide +kernel
theorem d_L_228 : decode code 228 = .ok (.aload_n 0, 1) := by decide +kernel
theorem d_L_229 : decode code 229 = .ok (.iload_n 3, 1) := by decide +kernel
theorem d_L_230 : decode code 230 = .ok (.bipush 6, 2) := by decide +kernel
theorem d_L_232 : decode code 232 = .ok (.iadd, 1) := by decide +kernel
theorem d_L_233 : decode code 233 = .ok (.iaload, 1) := by decide +kernel
theorem d_L_234 : decode code 234 = .ok (.i2l, 1) := by decide +kernel
theorem d_L_235 : decode code 235 = .ok (.bipush 32, 2) := by decide +kernel
theorem d_L_237 : decode code 237 = .ok (.lshl, 1) := by decide +kernel
theorem d_L_238 : decode code 238 = .ok (.aload_n 0, 1) := by decide +kernel
theorem d_L_239 : decode code 239 = .ok (.iload_n 3, 1) := by decide +kernel
theorem d_L_240 : decode code 240 = .ok (.bipush 7, 2) := by decide +kernel
theorem d_L_242 : decode code 242 = .ok (.iadd, 1) := by decide +kernel
theorem d_L_243 : decode code 243 = .ok (.iaload, 1) := by decide +kernel
theorem d_L_244 : decode code 244 = .ok (.i2l, 1) := by decide +kernel
theorem d_L_245 : decode code 245 = .ok (.ldc2_w 23, 3) := by decide +kernel
theorem d_L_248 : decode code 248 = .ok (.land, 1) := by decide +kernel
theorem d_L_249 : decode code 249 = .ok (.lor, 1) := by decide +kernel
theorem d_L_250 : decode code 250 = .ok (.aload_n 0, 1) := by decide +kernel
theorem d_L_251 : decode code 251 = .ok (.iload_n 3, 1) := by decide +kernel
theorem d_L_252 : decode code 252 = .ok (.bipush 8, 2) := by decide +kernel
theorem d_L_254 : decode code 254 = .ok (.iadd, 1) := by decide +kernel
theorem d_L_255 : decode code 255 = .ok (.iaload, 1) := by decide +kernel
theorem d_L_256 : decode code 256 = .ok (.i2l, 1) := by decide +kernel
theorem d_L_257 : decode code 257 = .ok (.bipush 32, 2) := by decide +kernel
theorem d_L_259 : decode code 259 = .ok (.lshl, 1) := by decide +kernel
theorem d_L_260 : decode code 260 = .ok (.aload_n 0, 1) := by decide +kernel
theorem d_L_261 : decode code 261 = .ok (.iload_n 3, 1) := by decide +kernel
theorem d_L_262 : decode code 262 = .ok (.bipush 9, 2) := by decide +kernel
theorem d_L_264 : decode code 264 = .ok (.iadd, 1) := by decide +kernel
theorem d_L_265 : decode code 265 = .ok (.iaload, 1) := by decide +kernel
theorem d_L_266 : decode code 266 = .ok (.i2l, 1) := by decide +kernel
theorem d_L_267 : decode code 267 = .ok (.ldc2_w 23, 3) := by decide +kernel
