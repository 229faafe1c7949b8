theorem zd_W_law_600 : decode code 600 = .ok (.ireturn, 1) := by decide +kernel
theorem zd_W_law_601 : decode code 601 = .ok (.aload_n 1, 1) := by decide +kernel
theorem zd_W_law_602 : decode code 602 = .ok (.aload_n 0, 1) := by decide +kernel
theorem zd_W_law_603 : decode code 603 = .ok (.iload_n 3, 1) := by decide +kernel
theorem zd_W_law_604 : decode code 604 = .ok (.iconst 1, 1) := by decide +kernel
theorem zd_W_law_605 : decode code 605 = .ok (.iadd, 1) := by decide +kernel
theorem zd_W_law_606 : decode code 606 = .ok (.iaload, 1) := by decide +kernel
theorem zd_W_law_607 : decode code 607 = .ok (.aload_n 0, 1) := by decide +kernel
theorem zd_W_law_608 : decode code 608 = .ok (.iload_n 3, 1) := by decide +kernel
theorem zd_W_law_609 : decode code 609 = .ok (.iconst 2, 1) := by decide +kernel
theorem zd_W_law_610 : decode code 610 = .ok (.iadd, 1) := by decide +kernel
theorem zd_W_law_611 : decode code 611 = .ok (.iaload, 1) := by decide +kernel
theorem zd_W_law_612 : decode code 612 = .ok (.aload_n 0, 1) := by decide +kernel
theorem zd_W_law_613 : decode code 613 = .ok (.iload_n 3, 1) := by decide +kernel
theorem zd_W_law_614 : decode code 614 = .ok (.iconst 3, 1) := by decide +kernel
theorem zd_W_law_615 : decode code 615 = .ok (.iadd, 1) := by decide +kernel
theorem zd_W_law_616 : decode code 616 = .ok (.iaload, 1) := by decide +kernel
theorem zd_W_law_617 : decode code 617 = .ok (.invokevirtual 87, 3) := by decide +kernel
theorem zd_W_law_620 : decode code 620 = .ok (.aload_n 2, 1) := by decide +kernel
theorem zd_W_law_621 : decode code 621 = .ok (.aload_n 0, 1) := by decide +kernel
theorem zd_W_law_622 : decode code 622 = .ok (.iload_n 3, 1) := by decide +kernel
theorem zd_W_law_623 : decode code 623 = .ok (.iconst 1, 1) := by decide +kernel
theorem zd_W_law_624 : decode code 624 = .ok (.iadd, 1) := by decide +kernel
theorem zd_W_law_625 : decode code 625 = .ok (.iaload, 1) := by decide +kernel
theorem zd_W_law_626 : decode code 626 = .ok (.aload_n 0, 1) := by decide +kernel
theorem zd_W_law_627 : decode code 627 = .ok (.iload_n 3, 1) := by decide +kernel
theorem zd_W_law_628 : decode code 628 = .ok (.iconst 2, 1) := by decide +kernel
theorem zd_W_law_629 : decode code 629 = .ok (.iadd, 1) := by decide +kernel
theorem zd_W_law_630 : decode code 630 = .ok (.iaload, 1) := by decide +kernel
theorem zd_W_law_631 : decode code 631 = .ok (.aload_n 0, 1) := by decide +kernel
theorem zd_W_law_632 : decode code 632 = .ok (.iload_n 3, 1) := by decide +kernel
theorem zd_W_law_633 : decode code 633 = .ok (.iconst 3, 1) := by decide +kernel
theorem zd_W_law_634 : decode code 634 = .ok (.iadd, 1) := by decide +kernel
theorem zd_W_law_635 : decode code 635 = .ok (.iaload, 1) := by decide +kernel
theorem zd_W_law_636 : decode code 636 = .ok (.invokevirtual 90, 3) := by decide +kernel
theorem zd_W_law_639 : decode code 639 = .ok (.if_icmp .eq 5, 3) := by decide +kernel
theorem zd_W_law_642 : decode code 642 = .ok (.iconst 0, 1) := by decide +kernel
theorem zd_W_law_643 : decode code 643 = .ok (.ireturn, 1) := by decide +kernel
theorem zd_W_law_644 : decode code 644 = .ok (.iinc 3 4, 3) := by decide +kernel
theorem zd_W_law_647 : decode code 647 = .ok (.goto (-629), 3) := by decide +kernel
theorem zd_W_law_650 : decode code 650 = .ok (.iconst 1, 1) := by decide +kernel
theorem zd_W_law_651 : decode code 651 = .ok (.ireturn, 1) := by decide +kernel
