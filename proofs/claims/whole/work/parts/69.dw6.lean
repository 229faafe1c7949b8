theorem zd_W_law_478 : decode code 478 = .ok (.aload_n 2, 1) := by decide +kernel
theorem zd_W_law_479 : decode code 479 = .ok (.aload_n 0, 1) := by decide +kernel
theorem zd_W_law_480 : decode code 480 = .ok (.iload_n 3, 1) := by decide +kernel
theorem zd_W_law_481 : decode code 481 = .ok (.iconst 1, 1) := by decide +kernel
theorem zd_W_law_482 : decode code 482 = .ok (.iadd, 1) := by decide +kernel
theorem zd_W_law_483 : decode code 483 = .ok (.iaload, 1) := by decide +kernel
theorem zd_W_law_484 : decode code 484 = .ok (.invokevirtual 73, 3) := by decide +kernel
theorem zd_W_law_487 : decode code 487 = .ok (.if_icmp .eq 157, 3) := by decide +kernel
theorem zd_W_law_490 : decode code 490 = .ok (.iconst 0, 1) := by decide +kernel
theorem zd_W_law_491 : decode code 491 = .ok (.ireturn, 1) := by decide +kernel
theorem zd_W_law_492 : decode code 492 = .ok (.aload_n 1, 1) := by decide +kernel
theorem zd_W_law_493 : decode code 493 = .ok (.aload_n 0, 1) := by decide +kernel
theorem zd_W_law_494 : decode code 494 = .ok (.iload_n 3, 1) := by decide +kernel
theorem zd_W_law_495 : decode code 495 = .ok (.iconst 1, 1) := by decide +kernel
theorem zd_W_law_496 : decode code 496 = .ok (.iadd, 1) := by decide +kernel
theorem zd_W_law_497 : decode code 497 = .ok (.iaload, 1) := by decide +kernel
theorem zd_W_law_498 : decode code 498 = .ok (.aload_n 0, 1) := by decide +kernel
theorem zd_W_law_499 : decode code 499 = .ok (.iload_n 3, 1) := by decide +kernel
theorem zd_W_law_500 : decode code 500 = .ok (.iconst 2, 1) := by decide +kernel
theorem zd_W_law_501 : decode code 501 = .ok (.iadd, 1) := by decide +kernel
theorem zd_W_law_502 : decode code 502 = .ok (.iaload, 1) := by decide +kernel
theorem zd_W_law_503 : decode code 503 = .ok (.invokevirtual 74, 3) := by decide +kernel
theorem zd_W_law_506 : decode code 506 = .ok (.aload_n 2, 1) := by decide +kernel
theorem zd_W_law_507 : decode code 507 = .ok (.aload_n 0, 1) := by decide +kernel
theorem zd_W_law_508 : decode code 508 = .ok (.iload_n 3, 1) := by decide +kernel
theorem zd_W_law_509 : decode code 509 = .ok (.iconst 1, 1) := by decide +kernel
theorem zd_W_law_510 : decode code 510 = .ok (.iadd, 1) := by decide +kernel
theorem zd_W_law_511 : decode code 511 = .ok (.iaload, 1) := by decide +kernel
theorem zd_W_law_512 : decode code 512 = .ok (.aload_n 0, 1) := by decide +kernel
theorem zd_W_law_513 : decode code 513 = .ok (.iload_n 3, 1) := by decide +kernel
theorem zd_W_law_514 : decode code 514 = .ok (.iconst 2, 1) := by decide +kernel
theorem zd_W_law_515 : decode code 515 = .ok (.iadd, 1) := by decide +kernel
theorem zd_W_law_516 : decode code 516 = .ok (.iaload, 1) := by decide +kernel
theorem zd_W_law_517 : decode code 517 = .ok (.invokevirtual 77, 3) := by decide +kernel
theorem zd_W_law_520 : decode code 520 = .ok (.if_icmp .eq 124, 3) := by decide +kernel
theorem zd_W_law_523 : decode code 523 = .ok (.iconst 0, 1) := by decide +kernel
theorem zd_W_law_524 : decode code 524 = .ok (.ireturn, 1) := by decide +kernel
theorem zd_W_law_525 : decode code 525 = .ok (.aload_n 1, 1) := by decide +kernel
theorem zd_W_law_526 : decode code 526 = .ok (.aload_n 0, 1) := by decide +kernel
theorem zd_W_law_527 : decode code 527 = .ok (.iload_n 3, 1) := by decide +kernel
theorem zd_W_law_528 : decode code 528 = .ok (.iconst 1, 1) := by decide +kernel
theorem zd_W_law_529 : decode code 529 = .ok (.iadd, 1) := by decide +kernel
theorem zd_W_law_530 : decode code 530 = .ok (.iaload, 1) := by decide +kernel
theorem zd_W_law_531 : decode code 531 = .ok (.aload_n 0, 1) := by decide +kernel
theorem zd_W_law_532 : decode code 532 = .ok (.iload_n 3, 1) := by decide +kernel
theorem zd_W_law_533 : decode code 533 = .ok (.iconst 2, 1) := by decide +kernel
theorem zd_W_law_534 : decode code 534 = .ok (.iadd, 1) := by decide +kernel
theorem zd_W_law_535 : decode code 535 = .ok (.iaload, 1) := by decide +kernel
theorem zd_W_law_536 : decode code 536 = .ok (.invokevirtual 78, 3) := by decide +kernel
theorem zd_W_law_539 : decode code 539 = .ok (.aload_n 2, 1) := by decide +kernel
