theorem d_M_touch_178 : decode b_M_touch 178 = .ok (.bipush 50, 2) := by decide +kernel
theorem d_M_touch_180 : decode b_M_touch 180 = .ok (.bipush 30, 2) := by decide +kernel
theorem d_M_touch_182 : decode b_M_touch 182 = .ok (.bipush 30, 2) := by decide +kernel
theorem d_M_touch_184 : decode b_M_touch 184 = .ok (.iconst 1, 1) := by decide +kernel
theorem d_M_touch_185 : decode b_M_touch 185 = .ok (.invokevirtual 83, 3) := by decide +kernel
theorem d_M_touch_188 : decode b_M_touch 188 = .ok (.aload_n 0, 1) := by decide +kernel
theorem d_M_touch_189 : decode b_M_touch 189 = .ok (.bipush 30, 2) := by decide +kernel
theorem d_M_touch_191 : decode b_M_touch 191 = .ok (.bipush 49, 2) := by decide +kernel
theorem d_M_touch_193 : decode b_M_touch 193 = .ok (.invokevirtual 40, 3) := by decide +kernel
theorem d_M_touch_196 : decode b_M_touch 196 = .ok (.aload_n 0, 1) := by decide +kernel
theorem d_M_touch_197 : decode b_M_touch 197 = .ok (.bipush 31, 2) := by decide +kernel
theorem d_M_touch_199 : decode b_M_touch 199 = .ok (.bipush 39, 2) := by decide +kernel
theorem d_M_touch_201 : decode b_M_touch 201 = .ok (.invokevirtual 40, 3) := by decide +kernel
theorem d_M_touch_204 : decode b_M_touch 204 = .ok (.aload_n 0, 1) := by decide +kernel
theorem d_M_touch_205 : decode b_M_touch 205 = .ok (.invokevirtual 125, 3) := by decide +kernel
theorem d_M_touch_208 : decode b_M_touch 208 = .ok (.return_, 1) := by decide +kernel
theorem d_M_finish_0 : decode b_M_finish 0 = .ok (.aload_n 0, 1) := by decide +kernel
theorem d_M_finish_1 : decode b_M_finish 1 = .ok (.bipush 53, 2) := by decide +kernel
theorem d_M_finish_3 : decode b_M_finish 3 = .ok (.bipush 43, 2) := by decide +kernel
theorem d_M_finish_5 : decode b_M_finish 5 = .ok (.bipush 43, 2) := by decide +kernel
theorem d_M_finish_7 : decode b_M_finish 7 = .ok (.invokevirtual 92, 3) := by decide +kernel
theorem d_M_finish_10 : decode b_M_finish 10 = .ok (.aload_n 0, 1) := by decide +kernel
theorem d_M_finish_11 : decode b_M_finish 11 = .ok (.bipush 54, 2) := by decide +kernel
theorem d_M_finish_13 : decode b_M_finish 13 = .ok (.bipush 53, 2) := by decide +kernel
theorem d_M_finish_15 : decode b_M_finish 15 = .ok (.bipush 50, 2) := by decide +kernel
theorem d_M_finish_17 : decode b_M_finish 17 = .ok (.invokevirtual 92, 3) := by decide +kernel
theorem d_M_finish_20 : decode b_M_finish 20 = .ok (.aload_n 0, 1) := by decide +kernel
theorem d_M_finish_21 : decode b_M_finish 21 = .ok (.bipush 54, 2) := by decide +kernel
theorem d_M_finish_23 : decode b_M_finish 23 = .ok (.bipush 50, 2) := by decide +kernel
theorem d_M_finish_25 : decode b_M_finish 25 = .ok (.invokevirtual 40, 3) := by decide +kernel
theorem d_M_finish_28 : decode b_M_finish 28 = .ok (.aload_n 0, 1) := by decide +kernel
theorem d_M_finish_29 : decode b_M_finish 29 = .ok (.bipush 45, 2) := by decide +kernel
theorem d_M_finish_31 : decode b_M_finish 31 = .ok (.bipush 42, 2) := by decide +kernel
theorem d_M_finish_33 : decode b_M_finish 33 = .ok (.bipush 42, 2) := by decide +kernel
theorem d_M_finish_35 : decode b_M_finish 35 = .ok (.invokevirtual 92, 3) := by decide +kernel
theorem d_M_finish_38 : decode b_M_finish 38 = .ok (.aload_n 0, 1) := by decide +kernel
theorem d_M_finish_39 : decode b_M_finish 39 = .ok (.bipush 54, 2) := by decide +kernel
theorem d_M_finish_41 : decode b_M_finish 41 = .ok (.bipush 24, 2) := by decide +kernel
theorem d_M_finish_43 : decode b_M_finish 43 = .ok (.bipush 42, 2) := by decide +kernel
theorem d_M_finish_45 : decode b_M_finish 45 = .ok (.invokevirtual 92, 3) := by decide +kernel
theorem d_M_finish_48 : decode b_M_finish 48 = .ok (.aload_n 0, 1) := by decide +kernel
theorem d_M_finish_49 : decode b_M_finish 49 = .ok (.bipush 46, 2) := by decide +kernel
theorem d_M_finish_51 : decode b_M_finish 51 = .ok (.bipush 54, 2) := by decide +kernel
theorem d_M_finish_53 : decode b_M_finish 53 = .ok (.bipush 44, 2) := by decide +kernel
theorem d_M_finish_55 : decode b_M_finish 55 = .ok (.invokevirtual 92, 3) := by decide +kernel
theorem d_M_finish_58 : decode b_M_finish 58 = .ok (.aload_n 0, 1) := by decide +kernel
theorem d_M_finish_59 : decode b_M_finish 59 = .ok (.bipush 45, 2) := by decide +kernel
theorem d_M_finish_61 : decode b_M_finish 61 = .ok (.bipush 45, 2) := by decide +kernel
theorem d_M_finish_63 : decode b_M_finish 63 = .ok (.bipush 46, 2) := by decide +kernel
theorem d_M_finish_65 : decode b_M_finish 65 = .ok (.iconst 1, 1) := by decide +kernel
theorem d_M_finish_66 : decode b_M_finish 66 = .ok (.invokevirtual 83, 3) := by decide +kernel
theorem d_M_finish_69 : decode b_M_finish 69 = .ok (.aload_n 0, 1) := by decide +kernel
theorem d_M_finish_70 : decode b_M_finish 70 = .ok (.bipush 54, 2) := by decide +kernel
theorem d_M_finish_72 : decode b_M_finish 72 = .ok (.bipush 44, 2) := by decide +kernel
theorem d_M_finish_74 : decode b_M_finish 74 = .ok (.bipush 44, 2) := by decide +kernel
theorem d_M_finish_76 : decode b_M_finish 76 = .ok (.invokevirtual 92, 3) := by decide +kernel
theorem d_M_finish_79 : decode b_M_finish 79 = .ok (.aload_n 0, 1) := by decide +kernel
theorem d_M_finish_80 : decode b_M_finish 80 = .ok (.bipush 46, 2) := by decide +kernel
theorem d_M_finish_82 : decode b_M_finish 82 = .ok (.bipush 25, 2) := by decide +kernel
theorem d_M_finish_84 : decode b_M_finish 84 = .ok (.bipush 54, 2) := by decide +kernel
theorem d_M_finish_86 : decode b_M_finish 86 = .ok (.invokevirtual 92, 3) := by decide +kernel
theorem d_M_finish_89 : decode b_M_finish 89 = .ok (.aload_n 0, 1) := by decide +kernel
theorem d_M_finish_90 : decode b_M_finish 90 = .ok (.bipush 45, 2) := by decide +kernel
theorem d_M_finish_92 : decode b_M_finish 92 = .ok (.bipush 45, 2) := by decide +kernel
theorem d_M_finish_94 : decode b_M_finish 94 = .ok (.bipush 46, 2) := by decide +kernel
theorem d_M_finish_96 : decode b_M_finish 96 = .ok (.iconst (-1), 1) := by decide +kernel
theorem d_M_finish_97 : decode b_M_finish 97 = .ok (.invokevirtual 83, 3) := by decide +kernel
theorem d_M_finish_100 : decode b_M_finish 100 = .ok (.aload_n 0, 1) := by decide +kernel
theorem d_M_finish_101 : decode b_M_finish 101 = .ok (.bipush 45, 2) := by decide +kernel
theorem d_M_finish_103 : decode b_M_finish 103 = .ok (.bipush 45, 2) := by decide +kernel
theorem d_M_finish_105 : decode b_M_finish 105 = .ok (.bipush 50, 2) := by decide +kernel
theorem d_M_finish_107 : decode b_M_finish 107 = .ok (.iconst (-1), 1) := by decide +kernel
theorem d_M_finish_108 : decode b_M_finish 108 = .ok (.invokevirtual 83, 3) := by decide +kernel
theorem d_M_finish_111 : decode b_M_finish 111 = .ok (.aload_n 0, 1) := by decide +kernel
theorem d_M_finish_112 : decode b_M_finish 112 = .ok (.bipush 50, 2) := by decide +kernel
theorem d_M_finish_114 : decode b_M_finish 114 = .ok (.bipush 53, 2) := by decide +kernel
theorem d_M_finish_116 : decode b_M_finish 116 = .ok (.bipush 49, 2) := by decide +kernel
theorem d_M_finish_118 : decode b_M_finish 118 = .ok (.invokevirtual 92, 3) := by decide +kernel
theorem d_M_finish_121 : decode b_M_finish 121 = .ok (.aload_n 0, 1) := by decide +kernel
theorem d_M_finish_122 : decode b_M_finish 122 = .ok (.bipush 50, 2) := by decide +kernel
theorem d_M_finish_124 : decode b_M_finish 124 = .ok (.bipush 50, 2) := by decide +kernel
theorem d_M_finish_126 : decode b_M_finish 126 = .ok (.bipush 45, 2) := by decide +kernel
theorem d_M_finish_128 : decode b_M_finish 128 = .ok (.iconst (-1), 1) := by decide +kernel
theorem d_M_finish_129 : decode b_M_finish 129 = .ok (.invokevirtual 83, 3) := by decide +kernel
theorem d_M_finish_132 : decode b_M_finish 132 = .ok (.aload_n 0, 1) := by decide +kernel
theorem d_M_finish_133 : decode b_M_finish 133 = .ok (.bipush 46, 2) := by decide +kernel
theorem d_M_finish_135 : decode b_M_finish 135 = .ok (.bipush 42, 2) := by decide +kernel
theorem d_M_finish_137 : decode b_M_finish 137 = .ok (.bipush 50, 2) := by decide +kernel
theorem d_M_finish_139 : decode b_M_finish 139 = .ok (.invokevirtual 92, 3) := by decide +kernel
theorem d_M_finish_142 : decode b_M_finish 142 = .ok (.aload_n 0, 1) := by decide +kernel
theorem d_M_finish_143 : decode b_M_finish 143 = .ok (.bipush 50, 2) := by decide +kernel
theorem d_M_finish_145 : decode b_M_finish 145 = .ok (.bipush 24, 2) := by decide +kernel
theorem d_M_finish_147 : decode b_M_finish 147 = .ok (.bipush 45, 2) := by decide +kernel
theorem d_M_finish_149 : decode b_M_finish 149 = .ok (.invokevirtual 92, 3) := by decide +kernel
theorem d_M_finish_152 : decode b_M_finish 152 = .ok (.aload_n 0, 1) := by decide +kernel
theorem d_M_finish_153 : decode b_M_finish 153 = .ok (.bipush 49, 2) := by decide +kernel
theorem d_M_finish_155 : decode b_M_finish 155 = .ok (.bipush 50, 2) := by decide +kernel
theorem d_M_finish_157 : decode b_M_finish 157 = .ok (.bipush 44, 2) := by decide +kernel
theorem d_M_finish_159 : decode b_M_finish 159 = .ok (.invokevirtual 92, 3) := by decide +kernel
theorem d_M_finish_162 : decode b_M_finish 162 = .ok (.aload_n 0, 1) := by decide +kernel
theorem d_M_finish_163 : decode b_M_finish 163 = .ok (.bipush 46, 2) := by decide +kernel
theorem d_M_finish_165 : decode b_M_finish 165 = .ok (.bipush 46, 2) := by decide +kernel
theorem d_M_finish_167 : decode b_M_finish 167 = .ok (.bipush 49, 2) := by decide +kernel
theorem d_M_finish_169 : decode b_M_finish 169 = .ok (.iconst (-1), 1) := by decide +kernel
theorem d_M_finish_170 : decode b_M_finish 170 = .ok (.invokevirtual 83, 3) := by decide +kernel
theorem d_M_finish_173 : decode b_M_finish 173 = .ok (.aload_n 0, 1) := by decide +kernel
theorem d_M_finish_174 : decode b_M_finish 174 = .ok (.bipush 50, 2) := by decide +kernel
theorem d_M_finish_176 : decode b_M_finish 176 = .ok (.bipush 53, 2) := by decide +kernel
theorem d_M_finish_178 : decode b_M_finish 178 = .ok (.bipush 43, 2) := by decide +kernel
theorem d_M_finish_180 : decode b_M_finish 180 = .ok (.invokevirtual 92, 3) := by decide +kernel
theorem d_M_finish_183 : decode b_M_finish 183 = .ok (.aload_n 0, 1) := by decide +kernel
theorem d_M_finish_184 : decode b_M_finish 184 = .ok (.bipush 49, 2) := by decide +kernel
theorem d_M_finish_186 : decode b_M_finish 186 = .ok (.bipush 50, 2) := by decide +kernel
theorem d_M_finish_188 : decode b_M_finish 188 = .ok (.bipush 39, 2) := by decide +kernel
theorem d_M_finish_190 : decode b_M_finish 190 = .ok (.invokevirtual 92, 3) := by decide +kernel
theorem d_M_finish_193 : decode b_M_finish 193 = .ok (.aload_n 0, 1) := by decide +kernel
theorem d_M_finish_194 : decode b_M_finish 194 = .ok (.bipush 46, 2) := by decide +kernel
theorem d_M_finish_196 : decode b_M_finish 196 = .ok (.bipush 46, 2) := by decide +kernel
theorem d_M_finish_198 : decode b_M_finish 198 = .ok (.bipush 49, 2) := by decide +kernel
theorem d_M_finish_200 : decode b_M_finish 200 = .ok (.iconst (-1), 1) := by decide +kernel
theorem d_M_finish_201 : decode b_M_finish 201 = .ok (.invokevirtual 83, 3) := by decide +kernel
theorem d_M_finish_204 : decode b_M_finish 204 = .ok (.aload_n 0, 1) := by decide +kernel
theorem d_M_finish_205 : decode b_M_finish 205 = .ok (.bipush 50, 2) := by decide +kernel
theorem d_M_finish_207 : decode b_M_finish 207 = .ok (.bipush 54, 2) := by decide +kernel
theorem d_M_finish_209 : decode b_M_finish 209 = .ok (.bipush 44, 2) := by decide +kernel
theorem d_M_finish_211 : decode b_M_finish 211 = .ok (.invokevirtual 92, 3) := by decide +kernel
theorem d_M_finish_214 : decode b_M_finish 214 = .ok (.aload_n 0, 1) := by decide +kernel
theorem d_M_finish_215 : decode b_M_finish 215 = .ok (.bipush 49, 2) := by decide +kernel
theorem d_M_finish_217 : decode b_M_finish 217 = .ok (.bipush 26, 2) := by decide +kernel
theorem d_M_finish_219 : decode b_M_finish 219 = .ok (.bipush 50, 2) := by decide +kernel
theorem d_M_finish_221 : decode b_M_finish 221 = .ok (.invokevirtual 92, 3) := by decide +kernel
theorem d_M_finish_224 : decode b_M_finish 224 = .ok (.aload_n 0, 1) := by decide +kernel
theorem d_M_finish_225 : decode b_M_finish 225 = .ok (.bipush 46, 2) := by decide +kernel
theorem d_M_finish_227 : decode b_M_finish 227 = .ok (.bipush 46, 2) := by decide +kernel
theorem d_M_finish_229 : decode b_M_finish 229 = .ok (.bipush 49, 2) := by decide +kernel
theorem d_M_finish_231 : decode b_M_finish 231 = .ok (.iconst (-1), 1) := by decide +kernel
theorem d_M_finish_232 : decode b_M_finish 232 = .ok (.invokevirtual 83, 3) := by decide +kernel
theorem d_M_finish_235 : decode b_M_finish 235 = .ok (.aload_n 0, 1) := by decide +kernel
theorem d_M_finish_236 : decode b_M_finish 236 = .ok (.bipush 54, 2) := by decide +kernel
theorem d_M_finish_238 : decode b_M_finish 238 = .ok (.bipush 47, 2) := by decide +kernel
theorem d_M_finish_240 : decode b_M_finish 240 = .ok (.invokevirtual 40, 3) := by decide +kernel
theorem d_M_finish_243 : decode b_M_finish 243 = .ok (.aload_n 0, 1) := by decide +kernel
theorem d_M_finish_244 : decode b_M_finish 244 = .ok (.bipush 45, 2) := by decide +kernel
theorem d_M_finish_246 : decode b_M_finish 246 = .ok (.bipush 47, 2) := by decide +kernel
theorem d_M_finish_248 : decode b_M_finish 248 = .ok (.invokevirtual 115, 3) := by decide +kernel
theorem d_M_finish_251 : decode b_M_finish 251 = .ok (.aload_n 0, 1) := by decide +kernel
theorem d_M_finish_252 : decode b_M_finish 252 = .ok (.bipush 36, 2) := by decide +kernel
theorem d_M_finish_254 : decode b_M_finish 254 = .ok (.bipush 45, 2) := by decide +kernel
theorem d_M_finish_256 : decode b_M_finish 256 = .ok (.bipush 51, 2) := by decide +kernel
theorem d_M_finish_258 : decode b_M_finish 258 = .ok (.invokevirtual 109, 3) := by decide +kernel
theorem d_M_finish_261 : decode b_M_finish 261 = .ok (.aload_n 0, 1) := by decide +kernel
theorem d_M_finish_262 : decode b_M_finish 262 = .ok (.bipush 48, 2) := by decide +kernel
theorem d_M_finish_264 : decode b_M_finish 264 = .ok (.bipush 47, 2) := by decide +kernel
theorem d_M_finish_266 : decode b_M_finish 266 = .ok (.bipush 51, 2) := by decide +kernel
theorem d_M_finish_268 : decode b_M_finish 268 = .ok (.invokevirtual 109, 3) := by decide +kernel
theorem d_M_finish_271 : decode b_M_finish 271 = .ok (.aload_n 0, 1) := by decide +kernel
theorem d_M_finish_272 : decode b_M_finish 272 = .ok (.bipush 46, 2) := by decide +kernel
theorem d_M_finish_274 : decode b_M_finish 274 = .ok (.bipush 50, 2) := by decide +kernel
theorem d_M_finish_276 : decode b_M_finish 276 = .ok (.invokevirtual 115, 3) := by decide +kernel
theorem d_M_finish_279 : decode b_M_finish 279 = .ok (.aload_n 0, 1) := by decide +kernel
theorem d_M_finish_280 : decode b_M_finish 280 = .ok (.bipush 37, 2) := by decide +kernel
theorem d_M_finish_282 : decode b_M_finish 282 = .ok (.bipush 46, 2) := by decide +kernel
theorem d_M_finish_284 : decode b_M_finish 284 = .ok (.bipush 51, 2) := by decide +kernel
theorem d_M_finish_286 : decode b_M_finish 286 = .ok (.invokevirtual 109, 3) := by decide +kernel
theorem d_M_finish_289 : decode b_M_finish 289 = .ok (.aload_n 0, 1) := by decide +kernel
theorem d_M_finish_290 : decode b_M_finish 290 = .ok (.bipush 49, 2) := by decide +kernel
theorem d_M_finish_292 : decode b_M_finish 292 = .ok (.bipush 50, 2) := by decide +kernel
theorem d_M_finish_294 : decode b_M_finish 294 = .ok (.bipush 51, 2) := by decide +kernel
theorem d_M_finish_296 : decode b_M_finish 296 = .ok (.invokevirtual 109, 3) := by decide +kernel
theorem d_M_finish_299 : decode b_M_finish 299 = .ok (.aload_n 0, 1) := by decide +kernel
theorem d_M_finish_300 : decode b_M_finish 300 = .ok (.getfield 16, 3) := by decide +kernel
theorem d_M_finish_303 : decode b_M_finish 303 = .ok (.bipush 49, 2) := by decide +kernel
theorem d_M_finish_305 : decode b_M_finish 305 = .ok (.iaload, 1) := by decide +kernel
theorem d_M_finish_306 : decode b_M_finish 306 = .ok (.ifCond .ge 26, 3) := by decide +kernel
theorem d_M_finish_309 : decode b_M_finish 309 = .ok (.aload_n 0, 1) := by decide +kernel
theorem d_M_finish_310 : decode b_M_finish 310 = .ok (.getfield 16, 3) := by decide +kernel
theorem d_M_finish_313 : decode b_M_finish 313 = .ok (.bipush 49, 2) := by decide +kernel
theorem d_M_finish_315 : decode b_M_finish 315 = .ok (.iconst 1, 1) := by decide +kernel
theorem d_M_finish_316 : decode b_M_finish 316 = .ok (.iastore, 1) := by decide +kernel
theorem d_M_finish_317 : decode b_M_finish 317 = .ok (.aload_n 0, 1) := by decide +kernel
theorem d_M_finish_318 : decode b_M_finish 318 = .ok (.getfield 16, 3) := by decide +kernel
theorem d_M_finish_321 : decode b_M_finish 321 = .ok (.bipush 37, 2) := by decide +kernel
theorem d_M_finish_323 : decode b_M_finish 323 = .ok (.aload_n 0, 1) := by decide +kernel
theorem d_M_finish_324 : decode b_M_finish 324 = .ok (.getfield 16, 3) := by decide +kernel
theorem d_M_finish_327 : decode b_M_finish 327 = .ok (.bipush 37, 2) := by decide +kernel
theorem d_M_finish_329 : decode b_M_finish 329 = .ok (.iaload, 1) := by decide +kernel
theorem d_M_finish_330 : decode b_M_finish 330 = .ok (.ineg, 1) := by decide +kernel
theorem d_M_finish_331 : decode b_M_finish 331 = .ok (.iastore, 1) := by decide +kernel
theorem d_M_finish_332 : decode b_M_finish 332 = .ok (.aload_n 0, 1) := by decide +kernel
theorem d_M_finish_333 : decode b_M_finish 333 = .ok (.bipush 38, 2) := by decide +kernel
theorem d_M_finish_335 : decode b_M_finish 335 = .ok (.bipush 49, 2) := by decide +kernel
theorem d_M_finish_337 : decode b_M_finish 337 = .ok (.bipush 48, 2) := by decide +kernel
theorem d_M_finish_339 : decode b_M_finish 339 = .ok (.invokevirtual 109, 3) := by decide +kernel
theorem d_M_finish_342 : decode b_M_finish 342 = .ok (.aload_n 0, 1) := by decide +kernel
theorem d_M_finish_343 : decode b_M_finish 343 = .ok (.getfield 19, 3) := by decide +kernel
theorem d_M_finish_346 : decode b_M_finish 346 = .ok (.bipush 36, 2) := by decide +kernel
theorem d_M_finish_348 : decode b_M_finish 348 = .ok (.iconst 0, 1) := by decide +kernel
theorem d_M_finish_349 : decode b_M_finish 349 = .ok (.bastore, 1) := by decide +kernel
theorem d_M_finish_350 : decode b_M_finish 350 = .ok (.return_, 1) := by decide +kernel
theorem d_M_turn_0 : decode b_M_turn 0 = .ok (.aload_n 0, 1) := by decide +kernel
theorem d_M_turn_1 : decode b_M_turn 1 = .ok (.getfield 19, 3) := by decide +kernel
theorem d_M_turn_4 : decode b_M_turn 4 = .ok (.iload_n 1, 1) := by decide +kernel
theorem d_M_turn_5 : decode b_M_turn 5 = .ok (.baload, 1) := by decide +kernel
theorem d_M_turn_6 : decode b_M_turn 6 = .ok (.ifCond .eq 4, 3) := by decide +kernel
theorem d_M_turn_9 : decode b_M_turn 9 = .ok (.return_, 1) := by decide +kernel
theorem d_M_turn_10 : decode b_M_turn 10 = .ok (.aload_n 0, 1) := by decide +kernel
theorem d_M_turn_11 : decode b_M_turn 11 = .ok (.bipush 49, 2) := by decide +kernel
theorem d_M_turn_13 : decode b_M_turn 13 = .ok (.iload_n 1, 1) := by decide +kernel
theorem d_M_turn_14 : decode b_M_turn 14 = .ok (.iconst 2, 1) := by decide +kernel
theorem d_M_turn_15 : decode b_M_turn 15 = .ok (.iadd, 1) := by decide +kernel
theorem d_M_turn_16 : decode b_M_turn 16 = .ok (.iload_n 1, 1) := by decide +kernel
theorem d_M_turn_17 : decode b_M_turn 17 = .ok (.iconst 2, 1) := by decide +kernel
theorem d_M_turn_18 : decode b_M_turn 18 = .ok (.iadd, 1) := by decide +kernel
theorem d_M_turn_19 : decode b_M_turn 19 = .ok (.invokevirtual 92, 3) := by decide +kernel
theorem d_M_turn_22 : decode b_M_turn 22 = .ok (.aload_n 0, 1) := by decide +kernel
theorem d_M_turn_23 : decode b_M_turn 23 = .ok (.iload_n 1, 1) := by decide +kernel
theorem d_M_turn_24 : decode b_M_turn 24 = .ok (.iconst 1, 1) := by decide +kernel
theorem d_M_turn_25 : decode b_M_turn 25 = .ok (.iadd, 1) := by decide +kernel
theorem d_M_turn_26 : decode b_M_turn 26 = .ok (.bipush 24, 2) := by decide +kernel
theorem d_M_turn_28 : decode b_M_turn 28 = .ok (.iload_n 1, 1) := by decide +kernel
theorem d_M_turn_29 : decode b_M_turn 29 = .ok (.iload_n 1, 1) := by decide +kernel
theorem d_M_turn_30 : decode b_M_turn 30 = .ok (.iconst 2, 1) := by decide +kernel
theorem d_M_turn_31 : decode b_M_turn 31 = .ok (.iadd, 1) := by decide +kernel
theorem d_M_turn_32 : decode b_M_turn 32 = .ok (.invokevirtual 102, 3) := by decide +kernel
theorem d_M_turn_35 : decode b_M_turn 35 = .ok (.aload_n 0, 1) := by decide +kernel
theorem d_M_turn_36 : decode b_M_turn 36 = .ok (.iload_n 1, 1) := by decide +kernel
theorem d_M_turn_37 : decode b_M_turn 37 = .ok (.iconst 1, 1) := by decide +kernel
theorem d_M_turn_38 : decode b_M_turn 38 = .ok (.iadd, 1) := by decide +kernel
theorem d_M_turn_39 : decode b_M_turn 39 = .ok (.bipush 26, 2) := by decide +kernel
theorem d_M_turn_41 : decode b_M_turn 41 = .ok (.bipush 49, 2) := by decide +kernel
theorem d_M_turn_43 : decode b_M_turn 43 = .ok (.iload_n 1, 1) := by decide +kernel
theorem d_M_turn_44 : decode b_M_turn 44 = .ok (.iconst 2, 1) := by decide +kernel
theorem d_M_turn_45 : decode b_M_turn 45 = .ok (.iadd, 1) := by decide +kernel
theorem d_M_turn_46 : decode b_M_turn 46 = .ok (.invokevirtual 102, 3) := by decide +kernel
theorem d_M_turn_49 : decode b_M_turn 49 = .ok (.aload_n 0, 1) := by decide +kernel
theorem d_M_turn_50 : decode b_M_turn 50 = .ok (.getfield 16, 3) := by decide +kernel
theorem d_M_turn_53 : decode b_M_turn 53 = .ok (.iload_n 1, 1) := by decide +kernel
theorem d_M_turn_54 : decode b_M_turn 54 = .ok (.iconst 1, 1) := by decide +kernel
theorem d_M_turn_55 : decode b_M_turn 55 = .ok (.iadd, 1) := by decide +kernel
theorem d_M_turn_56 : decode b_M_turn 56 = .ok (.aload_n 0, 1) := by decide +kernel
theorem d_M_turn_57 : decode b_M_turn 57 = .ok (.getfield 16, 3) := by decide +kernel
theorem d_M_turn_60 : decode b_M_turn 60 = .ok (.iload_n 1, 1) := by decide +kernel
theorem d_M_turn_61 : decode b_M_turn 61 = .ok (.iconst 1, 1) := by decide +kernel
theorem d_M_turn_62 : decode b_M_turn 62 = .ok (.iadd, 1) := by decide +kernel
theorem d_M_turn_63 : decode b_M_turn 63 = .ok (.iaload, 1) := by decide +kernel
theorem d_M_turn_64 : decode b_M_turn 64 = .ok (.ineg, 1) := by decide +kernel
theorem d_M_turn_65 : decode b_M_turn 65 = .ok (.iastore, 1) := by decide +kernel
theorem d_M_turn_66 : decode b_M_turn 66 = .ok (.return_, 1) := by decide +kernel
theorem d_M_isTooLong_0 : decode b_M_isTooLong 0 = .ok (.aload_n 0, 1) := by decide +kernel
theorem d_M_isTooLong_1 : decode b_M_isTooLong 1 = .ok (.getfield 19, 3) := by decide +kernel
theorem d_M_isTooLong_4 : decode b_M_isTooLong 4 = .ok (.iload_n 1, 1) := by decide +kernel
theorem d_M_isTooLong_5 : decode b_M_isTooLong 5 = .ok (.baload, 1) := by decide +kernel
theorem d_M_isTooLong_6 : decode b_M_isTooLong 6 = .ok (.ifCond .eq 5, 3) := by decide +kernel
theorem d_M_isTooLong_9 : decode b_M_isTooLong 9 = .ok (.iconst 0, 1) := by decide +kernel
theorem d_M_isTooLong_10 : decode b_M_isTooLong 10 = .ok (.ireturn, 1) := by decide +kernel
theorem d_M_isTooLong_11 : decode b_M_isTooLong 11 = .ok (.aload_n 0, 1) := by decide +kernel
theorem d_M_isTooLong_12 : decode b_M_isTooLong 12 = .ok (.bipush 49, 2) := by decide +kernel
theorem d_M_isTooLong_14 : decode b_M_isTooLong 14 = .ok (.iload_n 1, 1) := by decide +kernel
theorem d_M_isTooLong_15 : decode b_M_isTooLong 15 = .ok (.iconst 2, 1) := by decide +kernel
theorem d_M_isTooLong_16 : decode b_M_isTooLong 16 = .ok (.iadd, 1) := by decide +kernel
theorem d_M_isTooLong_17 : decode b_M_isTooLong 17 = .ok (.iload_n 1, 1) := by decide +kernel
theorem d_M_isTooLong_18 : decode b_M_isTooLong 18 = .ok (.iconst 2, 1) := by decide +kernel
theorem d_M_isTooLong_19 : decode b_M_isTooLong 19 = .ok (.iadd, 1) := by decide +kernel
theorem d_M_isTooLong_20 : decode b_M_isTooLong 20 = .ok (.invokevirtual 92, 3) := by decide +kernel
theorem d_M_isTooLong_23 : decode b_M_isTooLong 23 = .ok (.aload_n 0, 1) := by decide +kernel
theorem d_M_isTooLong_24 : decode b_M_isTooLong 24 = .ok (.bipush 44, 2) := by decide +kernel
theorem d_M_isTooLong_26 : decode b_M_isTooLong 26 = .ok (.bipush 49, 2) := by decide +kernel
theorem d_M_isTooLong_28 : decode b_M_isTooLong 28 = .ok (.iload_n 1, 1) := by decide +kernel
theorem d_M_isTooLong_29 : decode b_M_isTooLong 29 = .ok (.iconst 2, 1) := by decide +kernel
theorem d_M_isTooLong_30 : decode b_M_isTooLong 30 = .ok (.iadd, 1) := by decide +kernel
theorem d_M_isTooLong_31 : decode b_M_isTooLong 31 = .ok (.invokevirtual 92, 3) := by decide +kernel
theorem d_M_isTooLong_34 : decode b_M_isTooLong 34 = .ok (.aload_n 0, 1) := by decide +kernel
theorem d_M_isTooLong_35 : decode b_M_isTooLong 35 = .ok (.iload_n 1, 1) := by decide +kernel
theorem d_M_isTooLong_36 : decode b_M_isTooLong 36 = .ok (.invokevirtual 130, 3) := by decide +kernel
theorem d_M_isTooLong_39 : decode b_M_isTooLong 39 = .ok (.bipush 120, 2) := by decide +kernel
theorem d_M_isTooLong_41 : decode b_M_isTooLong 41 = .ok (.if_icmp .gt 26, 3) := by decide +kernel
theorem d_M_isTooLong_44 : decode b_M_isTooLong 44 = .ok (.aload_n 0, 1) := by decide +kernel
theorem d_M_isTooLong_45 : decode b_M_isTooLong 45 = .ok (.iload_n 1, 1) := by decide +kernel
theorem d_M_isTooLong_46 : decode b_M_isTooLong 46 = .ok (.iconst 1, 1) := by decide +kernel
theorem d_M_isTooLong_47 : decode b_M_isTooLong 47 = .ok (.iadd, 1) := by decide +kernel
theorem d_M_isTooLong_48 : decode b_M_isTooLong 48 = .ok (.invokevirtual 130, 3) := by decide +kernel
theorem d_M_isTooLong_51 : decode b_M_isTooLong 51 = .ok (.bipush 120, 2) := by decide +kernel
theorem d_M_isTooLong_53 : decode b_M_isTooLong 53 = .ok (.if_icmp .gt 14, 3) := by decide +kernel
theorem d_M_isTooLong_56 : decode b_M_isTooLong 56 = .ok (.aload_n 0, 1) := by decide +kernel
theorem d_M_isTooLong_57 : decode b_M_isTooLong 57 = .ok (.bipush 44, 2) := by decide +kernel
theorem d_M_isTooLong_59 : decode b_M_isTooLong 59 = .ok (.invokevirtual 130, 3) := by decide +kernel
theorem d_M_isTooLong_62 : decode b_M_isTooLong 62 = .ok (.bipush 120, 2) := by decide +kernel
theorem d_M_isTooLong_64 : decode b_M_isTooLong 64 = .ok (.if_icmp .le 7, 3) := by decide +kernel
theorem d_M_isTooLong_67 : decode b_M_isTooLong 67 = .ok (.iconst 1, 1) := by decide +kernel
theorem d_M_isTooLong_68 : decode b_M_isTooLong 68 = .ok (.goto 4, 3) := by decide +kernel
theorem d_M_isTooLong_71 : decode b_M_isTooLong 71 = .ok (.iconst 0, 1) := by decide +kernel
theorem d_M_isTooLong_72 : decode b_M_isTooLong 72 = .ok (.ireturn, 1) := by decide +kernel
theorem d_M_settle_0 : decode b_M_settle 0 = .ok (.aload_n 0, 1) := by decide +kernel
theorem d_M_settle_1 : decode b_M_settle 1 = .ok (.bipush 36, 2) := by decide +kernel
theorem d_M_settle_3 : decode b_M_settle 3 = .ok (.invokevirtual 134, 3) := by decide +kernel
theorem d_M_settle_6 : decode b_M_settle 6 = .ok (.ifCond .eq 5, 3) := by decide +kernel
theorem d_M_settle_9 : decode b_M_settle 9 = .ok (.iconst 0, 1) := by decide +kernel
theorem d_M_settle_10 : decode b_M_settle 10 = .ok (.ireturn, 1) := by decide +kernel
theorem d_M_settle_11 : decode b_M_settle 11 = .ok (.aload_n 0, 1) := by decide +kernel
theorem d_M_settle_12 : decode b_M_settle 12 = .ok (.bipush 36, 2) := by decide +kernel
theorem d_M_settle_14 : decode b_M_settle 14 = .ok (.iconst 3, 1) := by decide +kernel
theorem d_M_settle_15 : decode b_M_settle 15 = .ok (.iload_n 1, 1) := by decide +kernel
theorem d_M_settle_16 : decode b_M_settle 16 = .ok (.imul, 1) := by decide +kernel
theorem d_M_settle_17 : decode b_M_settle 17 = .ok (.invokevirtual 112, 3) := by decide +kernel
theorem d_M_settle_20 : decode b_M_settle 20 = .ok (.iconst 1, 1) := by decide +kernel
theorem d_M_settle_21 : decode b_M_settle 21 = .ok (.ireturn, 1) := by decide +kernel
theorem d_M_sum_0 : decode b_M_sum 0 = .ok (.aload_n 0, 1) := by decide +kernel
theorem d_M_sum_1 : decode b_M_sum 1 = .ok (.iconst 0, 1) := by decide +kernel
theorem d_M_sum_2 : decode b_M_sum 2 = .ok (.putfield 30, 3) := by decide +kernel
theorem d_M_sum_5 : decode b_M_sum 5 = .ok (.iload_n 1, 1) := by decide +kernel
theorem d_M_sum_6 : decode b_M_sum 6 = .ok (.invokestatic 95, 3) := by decide +kernel
theorem d_M_sum_9 : decode b_M_sum 9 = .ok (.ifCond .eq 17, 3) := by decide +kernel
theorem d_M_sum_12 : decode b_M_sum 12 = .ok (.iload_n 2, 1) := by decide +kernel
theorem d_M_sum_13 : decode b_M_sum 13 = .ok (.invokestatic 95, 3) := by decide +kernel
theorem d_M_sum_16 : decode b_M_sum 16 = .ok (.ifCond .eq 10, 3) := by decide +kernel
theorem d_M_sum_19 : decode b_M_sum 19 = .ok (.iload_n 3, 1) := by decide +kernel
theorem d_M_sum_20 : decode b_M_sum 20 = .ok (.invokestatic 95, 3) := by decide +kernel
theorem d_M_sum_23 : decode b_M_sum 23 = .ok (.ifCond .ne 5, 3) := by decide +kernel
theorem d_M_sum_26 : decode b_M_sum 26 = .ok (.iconst (-1), 1) := by decide +kernel
theorem d_M_sum_27 : decode b_M_sum 27 = .ok (.ireturn, 1) := by decide +kernel
theorem d_M_sum_28 : decode b_M_sum 28 = .ok (.aload_n 0, 1) := by decide +kernel
theorem d_M_sum_29 : decode b_M_sum 29 = .ok (.iconst 3, 1) := by decide +kernel
theorem d_M_sum_30 : decode b_M_sum 30 = .ok (.iload_n 1, 1) := by decide +kernel
theorem d_M_sum_31 : decode b_M_sum 31 = .ok (.imul, 1) := by decide +kernel
theorem d_M_sum_32 : decode b_M_sum 32 = .ok (.bipush 30, 2) := by decide +kernel
theorem d_M_sum_34 : decode b_M_sum 34 = .ok (.invokevirtual 112, 3) := by decide +kernel
theorem d_M_sum_37 : decode b_M_sum 37 = .ok (.aload_n 0, 1) := by decide +kernel
theorem d_M_sum_38 : decode b_M_sum 38 = .ok (.iconst 3, 1) := by decide +kernel
theorem d_M_sum_39 : decode b_M_sum 39 = .ok (.iload_n 2, 1) := by decide +kernel
theorem d_M_sum_40 : decode b_M_sum 40 = .ok (.imul, 1) := by decide +kernel
theorem d_M_sum_41 : decode b_M_sum 41 = .ok (.bipush 33, 2) := by decide +kernel
theorem d_M_sum_43 : decode b_M_sum 43 = .ok (.invokevirtual 112, 3) := by decide +kernel
theorem d_M_sum_46 : decode b_M_sum 46 = .ok (.aload_n 0, 1) := by decide +kernel
theorem d_M_sum_47 : decode b_M_sum 47 = .ok (.invokevirtual 137, 3) := by decide +kernel
theorem d_M_sum_50 : decode b_M_sum 50 = .ok (.aload_n 0, 1) := by decide +kernel
theorem d_M_sum_51 : decode b_M_sum 51 = .ok (.iload_n 3, 1) := by decide +kernel
theorem d_M_sum_52 : decode b_M_sum 52 = .ok (.invokevirtual 140, 3) := by decide +kernel
theorem d_M_sum_55 : decode b_M_sum 55 = .ok (.ireturn, 1) := by decide +kernel
theorem d_M_less_0 : decode b_M_less 0 = .ok (.aload_n 0, 1) := by decide +kernel
theorem d_M_less_1 : decode b_M_less 1 = .ok (.iconst 0, 1) := by decide +kernel
theorem d_M_less_2 : decode b_M_less 2 = .ok (.putfield 30, 3) := by decide +kernel
theorem d_M_less_5 : decode b_M_less 5 = .ok (.iload_n 1, 1) := by decide +kernel
theorem d_M_less_6 : decode b_M_less 6 = .ok (.invokestatic 95, 3) := by decide +kernel
theorem d_M_less_9 : decode b_M_less 9 = .ok (.ifCond .eq 17, 3) := by decide +kernel
theorem d_M_less_12 : decode b_M_less 12 = .ok (.iload_n 2, 1) := by decide +kernel
theorem d_M_less_13 : decode b_M_less 13 = .ok (.invokestatic 95, 3) := by decide +kernel
theorem d_M_less_16 : decode b_M_less 16 = .ok (.ifCond .eq 10, 3) := by decide +kernel
theorem d_M_less_19 : decode b_M_less 19 = .ok (.iload_n 3, 1) := by decide +kernel
theorem d_M_less_20 : decode b_M_less 20 = .ok (.invokestatic 95, 3) := by decide +kernel
theorem d_M_less_23 : decode b_M_less 23 = .ok (.ifCond .ne 5, 3) := by decide +kernel
theorem d_M_less_26 : decode b_M_less 26 = .ok (.iconst (-1), 1) := by decide +kernel
theorem d_M_less_27 : decode b_M_less 27 = .ok (.ireturn, 1) := by decide +kernel
theorem d_M_less_28 : decode b_M_less 28 = .ok (.aload_n 0, 1) := by decide +kernel
theorem d_M_less_29 : decode b_M_less 29 = .ok (.iconst 3, 1) := by decide +kernel
theorem d_M_less_30 : decode b_M_less 30 = .ok (.iload_n 1, 1) := by decide +kernel
theorem d_M_less_31 : decode b_M_less 31 = .ok (.imul, 1) := by decide +kernel
theorem d_M_less_32 : decode b_M_less 32 = .ok (.bipush 30, 2) := by decide +kernel
theorem d_M_less_34 : decode b_M_less 34 = .ok (.invokevirtual 112, 3) := by decide +kernel
theorem d_M_less_37 : decode b_M_less 37 = .ok (.aload_n 0, 1) := by decide +kernel
theorem d_M_less_38 : decode b_M_less 38 = .ok (.iconst 3, 1) := by decide +kernel
theorem d_M_less_39 : decode b_M_less 39 = .ok (.iload_n 2, 1) := by decide +kernel
theorem d_M_less_40 : decode b_M_less 40 = .ok (.imul, 1) := by decide +kernel
theorem d_M_less_41 : decode b_M_less 41 = .ok (.bipush 33, 2) := by decide +kernel
theorem d_M_less_43 : decode b_M_less 43 = .ok (.invokevirtual 112, 3) := by decide +kernel
theorem d_M_less_46 : decode b_M_less 46 = .ok (.aload_n 0, 1) := by decide +kernel
theorem d_M_less_47 : decode b_M_less 47 = .ok (.bipush 33, 2) := by decide +kernel
theorem d_M_less_49 : decode b_M_less 49 = .ok (.invokevirtual 143, 3) := by decide +kernel
theorem d_M_less_52 : decode b_M_less 52 = .ok (.aload_n 0, 1) := by decide +kernel
theorem d_M_less_53 : decode b_M_less 53 = .ok (.invokevirtual 137, 3) := by decide +kernel
theorem d_M_less_56 : decode b_M_less 56 = .ok (.aload_n 0, 1) := by decide +kernel
theorem d_M_less_57 : decode b_M_less 57 = .ok (.iload_n 3, 1) := by decide +kernel
theorem d_M_less_58 : decode b_M_less 58 = .ok (.invokevirtual 140, 3) := by decide +kernel
theorem d_M_less_61 : decode b_M_less 61 = .ok (.ireturn, 1) := by decide +kernel
theorem d_M_isFar_0 : decode b_M_isFar 0 = .ok (.aload_n 0, 1) := by decide +kernel
theorem d_M_isFar_1 : decode b_M_isFar 1 = .ok (.getfield 19, 3) := by decide +kernel
theorem d_M_isFar_4 : decode b_M_isFar 4 = .ok (.bipush 36, 2) := by decide +kernel
theorem d_M_isFar_6 : decode b_M_isFar 6 = .ok (.baload, 1) := by decide +kernel
theorem d_M_isFar_7 : decode b_M_isFar 7 = .ok (.ifCond .eq 5, 3) := by decide +kernel
theorem d_M_isFar_10 : decode b_M_isFar 10 = .ok (.iconst 0, 1) := by decide +kernel
theorem d_M_isFar_11 : decode b_M_isFar 11 = .ok (.ireturn, 1) := by decide +kernel
theorem d_M_isFar_12 : decode b_M_isFar 12 = .ok (.aload_n 0, 1) := by decide +kernel
theorem d_M_isFar_13 : decode b_M_isFar 13 = .ok (.bipush 49, 2) := by decide +kernel
theorem d_M_isFar_15 : decode b_M_isFar 15 = .ok (.bipush 38, 2) := by decide +kernel
theorem d_M_isFar_17 : decode b_M_isFar 17 = .ok (.bipush 38, 2) := by decide +kernel
theorem d_M_isFar_19 : decode b_M_isFar 19 = .ok (.invokevirtual 92, 3) := by decide +kernel
theorem d_M_isFar_22 : decode b_M_isFar 22 = .ok (.aload_n 0, 1) := by decide +kernel
theorem d_M_isFar_23 : decode b_M_isFar 23 = .ok (.bipush 36, 2) := by decide +kernel
theorem d_M_isFar_25 : decode b_M_isFar 25 = .ok (.invokevirtual 130, 3) := by decide +kernel
theorem d_M_isFar_28 : decode b_M_isFar 28 = .ok (.sipush 340, 3) := by decide +kernel
theorem d_M_isFar_31 : decode b_M_isFar 31 = .ok (.if_icmp .gt 15, 3) := by decide +kernel
theorem d_M_isFar_34 : decode b_M_isFar 34 = .ok (.aload_n 0, 1) := by decide +kernel
theorem d_M_isFar_35 : decode b_M_isFar 35 = .ok (.bipush 49, 2) := by decide +kernel
theorem d_M_isFar_37 : decode b_M_isFar 37 = .ok (.invokevirtual 130, 3) := by decide +kernel
theorem d_M_isFar_40 : decode b_M_isFar 40 = .ok (.sipush 340, 3) := by decide +kernel
theorem d_M_isFar_43 : decode b_M_isFar 43 = .ok (.if_icmp .le 7, 3) := by decide +kernel
theorem d_M_isFar_46 : decode b_M_isFar 46 = .ok (.iconst 1, 1) := by decide +kernel
theorem d_M_isFar_47 : decode b_M_isFar 47 = .ok (.goto 4, 3) := by decide +kernel
theorem d_M_isFar_50 : decode b_M_isFar 50 = .ok (.iconst 0, 1) := by decide +kernel
theorem d_M_isFar_51 : decode b_M_isFar 51 = .ok (.ireturn, 1) := by decide +kernel
theorem d_M_times_0 : decode b_M_times 0 = .ok (.aload_n 0, 1) := by decide +kernel
