theorem zd_W_law_410 : decode code 410 = .ok (.aload_n 0, 1) := by decide +kernel
theorem zd_W_law_411 : decode code 411 = .ok (.iload_n 3, 1) := by decide +kernel
theorem zd_W_law_412 : decode code 412 = .ok (.iconst 2, 1) := by decide +kernel
theorem zd_W_law_413 : decode code 413 = .ok (.iadd, 1) := by decide +kernel
theorem zd_W_law_414 : decode code 414 = .ok (.iaload, 1) := by decide +kernel
theorem zd_W_law_415 : decode code 415 = .ok (.invokevirtual 61, 3) := by decide +kernel
theorem zd_W_law_418 : decode code 418 = .ok (.if_icmp .eq 226, 3) := by decide +kernel
theorem zd_W_law_421 : decode code 421 = .ok (.iconst 0, 1) := by decide +kernel
theorem zd_W_law_422 : decode code 422 = .ok (.ireturn, 1) := by decide +kernel
theorem zd_W_law_423 : decode code 423 = .ok (.aload_n 1, 1) := by decide +kernel
theorem zd_W_law_424 : decode code 424 = .ok (.invokevirtual 62, 3) := by decide +kernel
theorem zd_W_law_427 : decode code 427 = .ok (.aload_n 2, 1) := by decide +kernel
theorem zd_W_law_428 : decode code 428 = .ok (.invokevirtual 65, 3) := by decide +kernel
theorem zd_W_law_431 : decode code 431 = .ok (.if_icmp .eq 213, 3) := by decide +kernel
theorem zd_W_law_434 : decode code 434 = .ok (.iconst 0, 1) := by decide +kernel
theorem zd_W_law_435 : decode code 435 = .ok (.ireturn, 1) := by decide +kernel
theorem zd_W_law_436 : decode code 436 = .ok (.aload_n 1, 1) := by decide +kernel
theorem zd_W_law_437 : decode code 437 = .ok (.aload_n 0, 1) := by decide +kernel
theorem zd_W_law_438 : decode code 438 = .ok (.iload_n 3, 1) := by decide +kernel
theorem zd_W_law_439 : decode code 439 = .ok (.iconst 1, 1) := by decide +kernel
theorem zd_W_law_440 : decode code 440 = .ok (.iadd, 1) := by decide +kernel
theorem zd_W_law_441 : decode code 441 = .ok (.iaload, 1) := by decide +kernel
theorem zd_W_law_442 : decode code 442 = .ok (.aload_n 0, 1) := by decide +kernel
theorem zd_W_law_443 : decode code 443 = .ok (.iload_n 3, 1) := by decide +kernel
theorem zd_W_law_444 : decode code 444 = .ok (.iconst 2, 1) := by decide +kernel
theorem zd_W_law_445 : decode code 445 = .ok (.iadd, 1) := by decide +kernel
theorem zd_W_law_446 : decode code 446 = .ok (.iaload, 1) := by decide +kernel
theorem zd_W_law_447 : decode code 447 = .ok (.invokevirtual 66, 3) := by decide +kernel
theorem zd_W_law_450 : decode code 450 = .ok (.aload_n 2, 1) := by decide +kernel
theorem zd_W_law_451 : decode code 451 = .ok (.aload_n 0, 1) := by decide +kernel
theorem zd_W_law_452 : decode code 452 = .ok (.iload_n 3, 1) := by decide +kernel
theorem zd_W_law_453 : decode code 453 = .ok (.iconst 1, 1) := by decide +kernel
theorem zd_W_law_454 : decode code 454 = .ok (.iadd, 1) := by decide +kernel
theorem zd_W_law_455 : decode code 455 = .ok (.iaload, 1) := by decide +kernel
theorem zd_W_law_456 : decode code 456 = .ok (.aload_n 0, 1) := by decide +kernel
theorem zd_W_law_457 : decode code 457 = .ok (.iload_n 3, 1) := by decide +kernel
theorem zd_W_law_458 : decode code 458 = .ok (.iconst 2, 1) := by decide +kernel
theorem zd_W_law_459 : decode code 459 = .ok (.iadd, 1) := by decide +kernel
theorem zd_W_law_460 : decode code 460 = .ok (.iaload, 1) := by decide +kernel
theorem zd_W_law_461 : decode code 461 = .ok (.invokevirtual 69, 3) := by decide +kernel
theorem zd_W_law_464 : decode code 464 = .ok (.if_icmp .eq 180, 3) := by decide +kernel
theorem zd_W_law_467 : decode code 467 = .ok (.iconst 0, 1) := by decide +kernel
theorem zd_W_law_468 : decode code 468 = .ok (.ireturn, 1) := by decide +kernel
theorem zd_W_law_469 : decode code 469 = .ok (.aload_n 1, 1) := by decide +kernel
theorem zd_W_law_470 : decode code 470 = .ok (.aload_n 0, 1) := by decide +kernel
theorem zd_W_law_471 : decode code 471 = .ok (.iload_n 3, 1) := by decide +kernel
theorem zd_W_law_472 : decode code 472 = .ok (.iconst 1, 1) := by decide +kernel
theorem zd_W_law_473 : decode code 473 = .ok (.iadd, 1) := by decide +kernel
theorem zd_W_law_474 : decode code 474 = .ok (.iaload, 1) := by decide +kernel
theorem zd_W_law_475 : decode code 475 = .ok (.invokevirtual 70, 3) := by decide +kernel
