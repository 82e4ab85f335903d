theorem xnd_LW_law_328 : decode xnc_LW_law 328 = .ok (.if_icmp .eq 222, 3) := by decide +kernel
theorem xnd_LW_law_331 : decode xnc_LW_law 331 = .ok (.iconst 0, 1) := by decide +kernel
theorem xnd_LW_law_332 : decode xnc_LW_law 332 = .ok (.ireturn, 1) := by decide +kernel
theorem xnd_LW_law_333 : decode xnc_LW_law 333 = .ok (.aload_n 1, 1) := by decide +kernel
theorem xnd_LW_law_334 : decode xnc_LW_law 334 = .ok (.aload_n 0, 1) := by decide +kernel
theorem xnd_LW_law_335 : decode xnc_LW_law 335 = .ok (.iload_n 3, 1) := by decide +kernel
theorem xnd_LW_law_336 : decode xnc_LW_law 336 = .ok (.iconst 1, 1) := by decide +kernel
theorem xnd_LW_law_337 : decode xnc_LW_law 337 = .ok (.iadd, 1) := by decide +kernel
theorem xnd_LW_law_338 : decode xnc_LW_law 338 = .ok (.iaload, 1) := by decide +kernel
theorem xnd_LW_law_339 : decode xnc_LW_law 339 = .ok (.invokevirtual 53, 3) := by decide +kernel
theorem xnd_LW_law_342 : decode xnc_LW_law 342 = .ok (.aload_n 2, 1) := by decide +kernel
theorem xnd_LW_law_343 : decode xnc_LW_law 343 = .ok (.aload_n 0, 1) := by decide +kernel
theorem xnd_LW_law_344 : decode xnc_LW_law 344 = .ok (.iload_n 3, 1) := by decide +kernel
theorem xnd_LW_law_345 : decode xnc_LW_law 345 = .ok (.iconst 1, 1) := by decide +kernel
theorem xnd_LW_law_346 : decode xnc_LW_law 346 = .ok (.iadd, 1) := by decide +kernel
theorem xnd_LW_law_347 : decode xnc_LW_law 347 = .ok (.iaload, 1) := by decide +kernel
theorem xnd_LW_law_348 : decode xnc_LW_law 348 = .ok (.invokevirtual 56, 3) := by decide +kernel
theorem xnd_LW_law_351 : decode xnc_LW_law 351 = .ok (.if_icmp .eq 199, 3) := by decide +kernel
theorem xnd_LW_law_354 : decode xnc_LW_law 354 = .ok (.iconst 0, 1) := by decide +kernel
theorem xnd_LW_law_355 : decode xnc_LW_law 355 = .ok (.ireturn, 1) := by decide +kernel
theorem xnd_LW_law_356 : decode xnc_LW_law 356 = .ok (.aload_n 1, 1) := by decide +kernel
theorem xnd_LW_law_357 : decode xnc_LW_law 357 = .ok (.aload_n 0, 1) := by decide +kernel
theorem xnd_LW_law_358 : decode xnc_LW_law 358 = .ok (.iload_n 3, 1) := by decide +kernel
theorem xnd_LW_law_359 : decode xnc_LW_law 359 = .ok (.iconst 1, 1) := by decide +kernel
theorem xnd_LW_law_360 : decode xnc_LW_law 360 = .ok (.iadd, 1) := by decide +kernel
theorem xnd_LW_law_361 : decode xnc_LW_law 361 = .ok (.iaload, 1) := by decide +kernel
theorem xnd_LW_law_362 : decode xnc_LW_law 362 = .ok (.invokevirtual 57, 3) := by decide +kernel
theorem xnd_LW_law_365 : decode xnc_LW_law 365 = .ok (.aload_n 2, 1) := by decide +kernel
theorem xnd_LW_law_366 : decode xnc_LW_law 366 = .ok (.aload_n 0, 1) := by decide +kernel
theorem xnd_LW_law_367 : decode xnc_LW_law 367 = .ok (.iload_n 3, 1) := by decide +kernel
theorem xnd_LW_law_368 : decode xnc_LW_law 368 = .ok (.iconst 1, 1) := by decide +kernel
theorem xnd_LW_law_369 : decode xnc_LW_law 369 = .ok (.iadd, 1) := by decide +kernel
theorem xnd_LW_law_370 : decode xnc_LW_law 370 = .ok (.iaload, 1) := by decide +kernel
theorem xnd_LW_law_371 : decode xnc_LW_law 371 = .ok (.invokevirtual 61, 3) := by decide +kernel
theorem xnd_LW_law_374 : decode xnc_LW_law 374 = .ok (.if_icmp .eq 176, 3) := by decide +kernel
theorem xnd_LW_law_377 : decode xnc_LW_law 377 = .ok (.iconst 0, 1) := by decide +kernel
theorem xnd_LW_law_378 : decode xnc_LW_law 378 = .ok (.ireturn, 1) := by decide +kernel
theorem xnd_LW_law_379 : decode xnc_LW_law 379 = .ok (.aload_n 1, 1) := by decide +kernel
theorem xnd_LW_law_380 : decode xnc_LW_law 380 = .ok (.aload_n 0, 1) := by decide +kernel
theorem xnd_LW_law_381 : decode xnc_LW_law 381 = .ok (.iload_n 3, 1) := by decide +kernel
theorem xnd_LW_law_382 : decode xnc_LW_law 382 = .ok (.iconst 1, 1) := by decide +kernel
theorem xnd_LW_law_383 : decode xnc_LW_law 383 = .ok (.iadd, 1) := by decide +kernel
theorem xnd_LW_law_384 : decode xnc_LW_law 384 = .ok (.iaload, 1) := by decide +kernel
theorem xnd_LW_law_385 : decode xnc_LW_law 385 = .ok (.invokevirtual 62, 3) := by decide +kernel
theorem xnd_LW_law_388 : decode xnc_LW_law 388 = .ok (.aload_n 2, 1) := by decide +kernel
theorem xnd_LW_law_389 : decode xnc_LW_law 389 = .ok (.aload_n 0, 1) := by decide +kernel
theorem xnd_LW_law_390 : decode xnc_LW_law 390 = .ok (.iload_n 3, 1) := by decide +kernel
theorem xnd_LW_law_391 : decode xnc_LW_law 391 = .ok (.iconst 1, 1) := by decide +kernel
theorem xnd_LW_law_392 : decode xnc_LW_law 392 = .ok (.iadd, 1) := by decide +kernel
theorem xnd_LW_law_393 : decode xnc_LW_law 393 = .ok (.iaload, 1) := by decide +kernel
