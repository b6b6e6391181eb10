theorem d_L_270 : decode code 270 = .ok (.land, 1) := by decide +kernel
theorem d_L_271 : decode code 271 = .ok (.lor, 1) := by decide +kernel
theorem d_L_272 : decode code 272 = .ok (.invokevirtual 25, 3) := by decide +kernel
theorem d_L_275 : decode code 275 = .ok (.aload_n 2, 1) := by decide +kernel
theorem d_L_276 : decode code 276 = .ok (.aload_n 0, 1) := by decide +kernel
theorem d_L_277 : decode code 277 = .ok (.iload_n 3, 1) := by decide +kernel
theorem d_L_278 : decode code 278 = .ok (.iconst 1, 1) := by decide +kernel
theorem d_L_279 : decode code 279 = .ok (.iadd, 1) := by decide +kernel
theorem d_L_280 : decode code 280 = .ok (.iaload, 1) := by decide +kernel
theorem d_L_281 : decode code 281 = .ok (.aload_n 0, 1) := by decide +kernel
theorem d_L_282 : decode code 282 = .ok (.iload_n 3, 1) := by decide +kernel
theorem d_L_283 : decode code 283 = .ok (.iconst 2, 1) := by decide +kernel
theorem d_L_284 : decode code 284 = .ok (.iadd, 1) := by decide +kernel
theorem d_L_285 : decode code 285 = .ok (.iaload, 1) := by decide +kernel
theorem d_L_286 : decode code 286 = .ok (.i2l, 1) := by decide +kernel
theorem d_L_287 : decode code 287 = .ok (.bipush 32, 2) := by decide +kernel
theorem d_L_289 : decode code 289 = .ok (.lshl, 1) := by decide +kernel
theorem d_L_290 : decode code 290 = .ok (.aload_n 0, 1) := by decide +kernel
theorem d_L_291 : decode code 291 = .ok (.iload_n 3, 1) := by decide +kernel
theorem d_L_292 : decode code 292 = .ok (.iconst 3, 1) := by decide +kernel
theorem d_L_293 : decode code 293 = .ok (.iadd, 1) := by decide +kernel
theorem d_L_294 : decode code 294 = .ok (.iaload, 1) := by decide +kernel
theorem d_L_295 : decode code 295 = .ok (.i2l, 1) := by decide +kernel
theorem d_L_296 : decode code 296 = .ok (.ldc2_w 23, 3) := by decide +kernel
theorem d_L_299 : decode code 299 = .ok (.land, 1) := by decide +kernel
theorem d_L_300 : decode code 300 = .ok (.lor, 1) := by decide +kernel
theorem d_L_301 : decode code 301 = .ok (.aload_n 0, 1) := by decide +kernel
theorem d_L_302 : decode code 302 = .ok (.iload_n 3, 1) := by decide +kernel
theorem d_L_303 : decode code 303 = .ok (.iconst 4, 1) := by decide +kernel
theorem d_L_304 : decode code 304 = .ok (.iadd, 1) := by decide +kernel
theorem d_L_305 : decode code 305 = .ok (.iaload, 1) := by decide +kernel
theorem d_L_306 : decode code 306 = .ok (.i2l, 1) := by decide +kernel
theorem d_L_307 : decode code 307 = .ok (.bipush 32, 2) := by decide +kernel
theorem d_L_309 : decode code 309 = .ok (.lshl, 1) := by decide +kernel
theorem d_L_310 : decode code 310 = .ok (.aload_n 0, 1) := by decide +kernel
theorem d_L_311 : decode code 311 = .ok (.iload_n 3, 1) := by decide +kernel
theorem d_L_312 : decode code 312 = .ok (.iconst 5, 1) := by decide +kernel
theorem d_L_313 : decode code 313 = .ok (.iadd, 1) := by decide +kernel
theorem d_L_314 : decode code 314 = .ok (.iaload, 1) := by decide +kernel
theorem d_L_315 : decode code 315 = .ok (.i2l, 1) := by decide +kernel
theorem d_L_316 : decode code 316 = .ok (.ldc2_w 23, 3) := by decide +kernel
theorem d_L_319 : decode code 319 = .ok (.land, 1) := by decide +kernel
theorem d_L_320 : decode code 320 = .ok (.lor, 1) := by decide +kernel
theorem d_L_321 : decode code 321 = .ok (.aload_n 0, 1) := by decide +kernel
theorem d_L_322 : decode code 322 = .ok (.iload_n 3, 1) := by decide +kernel
theorem d_L_323 : decode code 323 = .ok (.bipush 6, 2) := by decide +kernel
theorem d_L_325 : decode code 325 = .ok (.iadd, 1) := by decide +kernel
theorem d_L_326 : decode code 326 = .ok (.iaload, 1) := by decide +kernel
theorem d_L_327 : decode code 327 = .ok (.i2l, 1) := by decide +kernel
theorem d_L_328 : decode code 328 = .ok (.bipush 32, 2) := by decide +kernel
theorem d_L_330 : decode code 330 = .ok (.lshl, 1) := by decide +kernel
theorem d_L_331 : decode code 331 = .ok (.aload_n 0, 1) := by decide +kernel
theorem d_L_332 : decode code 332 = .ok (.iload_n 3, 1) := by decide +kernel
theorem d_L_333 : decode code 333 = .ok (.bipush 7, 2) := by decide +kernel
theorem d_L_335 : decode code 335 = .ok (.iadd, 1) := by decide +kernel
theorem d_L_336 : decode code 336 = .ok (.iaload, 1) := by decide +kernel
