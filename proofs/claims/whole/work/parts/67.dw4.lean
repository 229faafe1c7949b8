theorem zd_W_law_346 : decode code 346 = .ok (.iload_n 3, 1) := by decide +kernel
theorem zd_W_law_347 : decode code 347 = .ok (.iconst 1, 1) := by decide +kernel
theorem zd_W_law_348 : decode code 348 = .ok (.iadd, 1) := by decide +kernel
theorem zd_W_law_349 : decode code 349 = .ok (.iaload, 1) := by decide +kernel
theorem zd_W_law_350 : decode code 350 = .ok (.invokevirtual 49, 3) := by decide +kernel
theorem zd_W_law_353 : decode code 353 = .ok (.aload_n 2, 1) := by decide +kernel
theorem zd_W_law_354 : decode code 354 = .ok (.aload_n 0, 1) := by decide +kernel
theorem zd_W_law_355 : decode code 355 = .ok (.iload_n 3, 1) := by decide +kernel
theorem zd_W_law_356 : decode code 356 = .ok (.iconst 1, 1) := by decide +kernel
theorem zd_W_law_357 : decode code 357 = .ok (.iadd, 1) := by decide +kernel
theorem zd_W_law_358 : decode code 358 = .ok (.iaload, 1) := by decide +kernel
theorem zd_W_law_359 : decode code 359 = .ok (.invokevirtual 53, 3) := by decide +kernel
theorem zd_W_law_362 : decode code 362 = .ok (.if_icmp .eq 282, 3) := by decide +kernel
theorem zd_W_law_365 : decode code 365 = .ok (.iconst 0, 1) := by decide +kernel
theorem zd_W_law_366 : decode code 366 = .ok (.ireturn, 1) := by decide +kernel
theorem zd_W_law_367 : decode code 367 = .ok (.aload_n 1, 1) := by decide +kernel
theorem zd_W_law_368 : decode code 368 = .ok (.aload_n 0, 1) := by decide +kernel
theorem zd_W_law_369 : decode code 369 = .ok (.iload_n 3, 1) := by decide +kernel
theorem zd_W_law_370 : decode code 370 = .ok (.iconst 1, 1) := by decide +kernel
theorem zd_W_law_371 : decode code 371 = .ok (.iadd, 1) := by decide +kernel
theorem zd_W_law_372 : decode code 372 = .ok (.iaload, 1) := by decide +kernel
theorem zd_W_law_373 : decode code 373 = .ok (.invokevirtual 54, 3) := by decide +kernel
theorem zd_W_law_376 : decode code 376 = .ok (.aload_n 2, 1) := by decide +kernel
theorem zd_W_law_377 : decode code 377 = .ok (.aload_n 0, 1) := by decide +kernel
theorem zd_W_law_378 : decode code 378 = .ok (.iload_n 3, 1) := by decide +kernel
theorem zd_W_law_379 : decode code 379 = .ok (.iconst 1, 1) := by decide +kernel
theorem zd_W_law_380 : decode code 380 = .ok (.iadd, 1) := by decide +kernel
theorem zd_W_law_381 : decode code 381 = .ok (.iaload, 1) := by decide +kernel
theorem zd_W_law_382 : decode code 382 = .ok (.invokevirtual 57, 3) := by decide +kernel
theorem zd_W_law_385 : decode code 385 = .ok (.if_icmp .eq 259, 3) := by decide +kernel
theorem zd_W_law_388 : decode code 388 = .ok (.iconst 0, 1) := by decide +kernel
theorem zd_W_law_389 : decode code 389 = .ok (.ireturn, 1) := by decide +kernel
theorem zd_W_law_390 : decode code 390 = .ok (.aload_n 1, 1) := by decide +kernel
theorem zd_W_law_391 : decode code 391 = .ok (.aload_n 0, 1) := by decide +kernel
theorem zd_W_law_392 : decode code 392 = .ok (.iload_n 3, 1) := by decide +kernel
theorem zd_W_law_393 : decode code 393 = .ok (.iconst 1, 1) := by decide +kernel
theorem zd_W_law_394 : decode code 394 = .ok (.iadd, 1) := by decide +kernel
theorem zd_W_law_395 : decode code 395 = .ok (.iaload, 1) := by decide +kernel
theorem zd_W_law_396 : decode code 396 = .ok (.aload_n 0, 1) := by decide +kernel
theorem zd_W_law_397 : decode code 397 = .ok (.iload_n 3, 1) := by decide +kernel
theorem zd_W_law_398 : decode code 398 = .ok (.iconst 2, 1) := by decide +kernel
theorem zd_W_law_399 : decode code 399 = .ok (.iadd, 1) := by decide +kernel
theorem zd_W_law_400 : decode code 400 = .ok (.iaload, 1) := by decide +kernel
theorem zd_W_law_401 : decode code 401 = .ok (.invokevirtual 58, 3) := by decide +kernel
theorem zd_W_law_404 : decode code 404 = .ok (.aload_n 2, 1) := by decide +kernel
theorem zd_W_law_405 : decode code 405 = .ok (.aload_n 0, 1) := by decide +kernel
theorem zd_W_law_406 : decode code 406 = .ok (.iload_n 3, 1) := by decide +kernel
theorem zd_W_law_407 : decode code 407 = .ok (.iconst 1, 1) := by decide +kernel
theorem zd_W_law_408 : decode code 408 = .ok (.iadd, 1) := by decide +kernel
theorem zd_W_law_409 : decode code 409 = .ok (.iaload, 1) := by decide +kernel
