theorem zd_W_law_540 : decode code 540 = .ok (.aload_n 0, 1) := by decide +kernel
theorem zd_W_law_541 : decode code 541 = .ok (.iload_n 3, 1) := by decide +kernel
theorem zd_W_law_542 : decode code 542 = .ok (.iconst 1, 1) := by decide +kernel
theorem zd_W_law_543 : decode code 543 = .ok (.iadd, 1) := by decide +kernel
theorem zd_W_law_544 : decode code 544 = .ok (.iaload, 1) := by decide +kernel
theorem zd_W_law_545 : decode code 545 = .ok (.aload_n 0, 1) := by decide +kernel
theorem zd_W_law_546 : decode code 546 = .ok (.iload_n 3, 1) := by decide +kernel
theorem zd_W_law_547 : decode code 547 = .ok (.iconst 2, 1) := by decide +kernel
theorem zd_W_law_548 : decode code 548 = .ok (.iadd, 1) := by decide +kernel
theorem zd_W_law_549 : decode code 549 = .ok (.iaload, 1) := by decide +kernel
theorem zd_W_law_550 : decode code 550 = .ok (.invokevirtual 81, 3) := by decide +kernel
theorem zd_W_law_553 : decode code 553 = .ok (.if_icmp .eq 91, 3) := by decide +kernel
theorem zd_W_law_556 : decode code 556 = .ok (.iconst 0, 1) := by decide +kernel
theorem zd_W_law_557 : decode code 557 = .ok (.ireturn, 1) := by decide +kernel
theorem zd_W_law_558 : decode code 558 = .ok (.aload_n 1, 1) := by decide +kernel
theorem zd_W_law_559 : decode code 559 = .ok (.aload_n 0, 1) := by decide +kernel
theorem zd_W_law_560 : decode code 560 = .ok (.iload_n 3, 1) := by decide +kernel
theorem zd_W_law_561 : decode code 561 = .ok (.iconst 1, 1) := by decide +kernel
theorem zd_W_law_562 : decode code 562 = .ok (.iadd, 1) := by decide +kernel
theorem zd_W_law_563 : decode code 563 = .ok (.iaload, 1) := by decide +kernel
theorem zd_W_law_564 : decode code 564 = .ok (.aload_n 0, 1) := by decide +kernel
theorem zd_W_law_565 : decode code 565 = .ok (.iload_n 3, 1) := by decide +kernel
theorem zd_W_law_566 : decode code 566 = .ok (.iconst 2, 1) := by decide +kernel
theorem zd_W_law_567 : decode code 567 = .ok (.iadd, 1) := by decide +kernel
theorem zd_W_law_568 : decode code 568 = .ok (.iaload, 1) := by decide +kernel
theorem zd_W_law_569 : decode code 569 = .ok (.aload_n 0, 1) := by decide +kernel
theorem zd_W_law_570 : decode code 570 = .ok (.iload_n 3, 1) := by decide +kernel
theorem zd_W_law_571 : decode code 571 = .ok (.iconst 3, 1) := by decide +kernel
theorem zd_W_law_572 : decode code 572 = .ok (.iadd, 1) := by decide +kernel
theorem zd_W_law_573 : decode code 573 = .ok (.iaload, 1) := by decide +kernel
theorem zd_W_law_574 : decode code 574 = .ok (.invokevirtual 82, 3) := by decide +kernel
theorem zd_W_law_577 : decode code 577 = .ok (.aload_n 2, 1) := by decide +kernel
theorem zd_W_law_578 : decode code 578 = .ok (.aload_n 0, 1) := by decide +kernel
theorem zd_W_law_579 : decode code 579 = .ok (.iload_n 3, 1) := by decide +kernel
theorem zd_W_law_580 : decode code 580 = .ok (.iconst 1, 1) := by decide +kernel
theorem zd_W_law_581 : decode code 581 = .ok (.iadd, 1) := by decide +kernel
theorem zd_W_law_582 : decode code 582 = .ok (.iaload, 1) := by decide +kernel
theorem zd_W_law_583 : decode code 583 = .ok (.aload_n 0, 1) := by decide +kernel
theorem zd_W_law_584 : decode code 584 = .ok (.iload_n 3, 1) := by decide +kernel
theorem zd_W_law_585 : decode code 585 = .ok (.iconst 2, 1) := by decide +kernel
theorem zd_W_law_586 : decode code 586 = .ok (.iadd, 1) := by decide +kernel
theorem zd_W_law_587 : decode code 587 = .ok (.iaload, 1) := by decide +kernel
theorem zd_W_law_588 : decode code 588 = .ok (.aload_n 0, 1) := by decide +kernel
theorem zd_W_law_589 : decode code 589 = .ok (.iload_n 3, 1) := by decide +kernel
theorem zd_W_law_590 : decode code 590 = .ok (.iconst 3, 1) := by decide +kernel
theorem zd_W_law_591 : decode code 591 = .ok (.iadd, 1) := by decide +kernel
theorem zd_W_law_592 : decode code 592 = .ok (.iaload, 1) := by decide +kernel
theorem zd_W_law_593 : decode code 593 = .ok (.invokevirtual 86, 3) := by decide +kernel
theorem zd_W_law_596 : decode code 596 = .ok (.if_icmp .eq 48, 3) := by decide +kernel
theorem zd_W_law_599 : decode code 599 = .ok (.iconst 0, 1) := by decide +kernel
