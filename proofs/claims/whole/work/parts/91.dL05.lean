theorem d_L_337 : decode code 337 = .ok (.i2l, 1) := by decide +kernel
theorem d_L_338 : decode code 338 = .ok (.ldc2_w 23, 3) := by decide +kernel
theorem d_L_341 : decode code 341 = .ok (.land, 1) := by decide +kernel
theorem d_L_342 : decode code 342 = .ok (.lor, 1) := by decide +kernel
theorem d_L_343 : decode code 343 = .ok (.aload_n 0, 1) := by decide +kernel
theorem d_L_344 : decode code 344 = .ok (.iload_n 3, 1) := by decide +kernel
theorem d_L_345 : decode code 345 = .ok (.bipush 8, 2) := by decide +kernel
theorem d_L_347 : decode code 347 = .ok (.iadd, 1) := by decide +kernel
theorem d_L_348 : decode code 348 = .ok (.iaload, 1) := by decide +kernel
theorem d_L_349 : decode code 349 = .ok (.i2l, 1) := by decide +kernel
theorem d_L_350 : decode code 350 = .ok (.bipush 32, 2) := by decide +kernel
theorem d_L_352 : decode code 352 = .ok (.lshl, 1) := by decide +kernel
theorem d_L_353 : decode code 353 = .ok (.aload_n 0, 1) := by decide +kernel
theorem d_L_354 : decode code 354 = .ok (.iload_n 3, 1) := by decide +kernel
theorem d_L_355 : decode code 355 = .ok (.bipush 9, 2) := by decide +kernel
theorem d_L_357 : decode code 357 = .ok (.iadd, 1) := by decide +kernel
theorem d_L_358 : decode code 358 = .ok (.iaload, 1) := by decide +kernel
theorem d_L_359 : decode code 359 = .ok (.i2l, 1) := by decide +kernel
theorem d_L_360 : decode code 360 = .ok (.ldc2_w 23, 3) := by decide +kernel
theorem d_L_363 : decode code 363 = .ok (.land, 1) := by decide +kernel
theorem d_L_364 : decode code 364 = .ok (.lor, 1) := by decide +kernel
theorem d_L_365 : decode code 365 = .ok (.invokevirtual 29, 3) := by decide +kernel
theorem d_L_368 : decode code 368 = .ok (.if_icmp .eq 322, 3) := by decide +kernel
theorem d_L_371 : decode code 371 = .ok (.iconst 0, 1) := by decide +kernel
theorem d_L_372 : decode code 372 = .ok (.ireturn, 1) := by decide +kernel
theorem d_L_373 : decode code 373 = .ok (.aload_n 1, 1) := by decide +kernel
theorem d_L_374 : decode code 374 = .ok (.aload_n 0, 1) := by decide +kernel
theorem d_L_375 : decode code 375 = .ok (.iload_n 3, 1) := by decide +kernel
theorem d_L_376 : decode code 376 = .ok (.iconst 1, 1) := by decide +kernel
theorem d_L_377 : decode code 377 = .ok (.iadd, 1) := by decide +kernel
theorem d_L_378 : decode code 378 = .ok (.iaload, 1) := by decide +kernel
theorem d_L_379 : decode code 379 = .ok (.aload_n 0, 1) := by decide +kernel
theorem d_L_380 : decode code 380 = .ok (.iload_n 3, 1) := by decide +kernel
theorem d_L_381 : decode code 381 = .ok (.iconst 2, 1) := by decide +kernel
theorem d_L_382 : decode code 382 = .ok (.iadd, 1) := by decide +kernel
theorem d_L_383 : decode code 383 = .ok (.iaload, 1) := by decide +kernel
theorem d_L_384 : decode code 384 = .ok (.aload_n 0, 1) := by decide +kernel
theorem d_L_385 : decode code 385 = .ok (.iload_n 3, 1) := by decide +kernel
theorem d_L_386 : decode code 386 = .ok (.iconst 3, 1) := by decide +kernel
theorem d_L_387 : decode code 387 = .ok (.iadd, 1) := by decide +kernel
theorem d_L_388 : decode code 388 = .ok (.iaload, 1) := by decide +kernel
theorem d_L_389 : decode code 389 = .ok (.invokevirtual 30, 3) := by decide +kernel
theorem d_L_392 : decode code 392 = .ok (.aload_n 2, 1) := by decide +kernel
theorem d_L_393 : decode code 393 = .ok (.aload_n 0, 1) := by decide +kernel
theorem d_L_394 : decode code 394 = .ok (.iload_n 3, 1) := by decide +kernel
theorem d_L_395 : decode code 395 = .ok (.iconst 1, 1) := by decide +kernel
theorem d_L_396 : decode code 396 = .ok (.iadd, 1) := by decide +kernel
theorem d_L_397 : decode code 397 = .ok (.iaload, 1) := by decide +kernel
theorem d_L_398 : decode code 398 = .ok (.aload_n 0, 1) := by decide +kernel
theorem d_L_399 : decode code 399 = .ok (.iload_n 3, 1) := by decide +kernel
theorem d_L_400 : decode code 400 = .ok (.iconst 2, 1) := by decide +kernel
theorem d_L_401 : decode code 401 = .ok (.iadd, 1) := by decide +kernel
theorem d_L_402 : decode code 402 = .ok (.iaload, 1) := by decide +kernel
theorem d_L_403 : decode code 403 = .ok (.aload_n 0, 1) := by decide +kernel
theorem d_L_404 : decode code 404 = .ok (.iload_n 3, 1) := by decide +kernel
theorem d_L_405 : decode code 405 = .ok (.iconst 3, 1) := by decide +kernel
