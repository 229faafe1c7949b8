theorem zd_X_attacks_0 : decode zo_X_attacks 0 = .ok (.iload_n 1, 1) := by decide +kernel
theorem zd_X_attacks_1 : decode zo_X_attacks 1 = .ok (.iload_n 2, 1) := by decide +kernel
theorem zd_X_attacks_2 : decode zo_X_attacks 2 = .ok (.invokestatic 73, 3) := by decide +kernel
theorem zd_X_attacks_5 : decode zo_X_attacks 5 = .ok (.ifCond .ne 5, 3) := by decide +kernel
theorem zd_X_attacks_8 : decode zo_X_attacks 8 = .ok (.iconst 0, 1) := by decide +kernel
theorem zd_X_attacks_9 : decode zo_X_attacks 9 = .ok (.ireturn, 1) := by decide +kernel
theorem zd_X_attacks_10 : decode zo_X_attacks 10 = .ok (.aload_n 0, 1) := by decide +kernel
theorem zd_X_attacks_11 : decode zo_X_attacks 11 = .ok (.getfield 21, 3) := by decide +kernel
theorem zd_X_attacks_14 : decode zo_X_attacks 14 = .ok (.invokevirtual 119, 3) := by decide +kernel
theorem zd_X_attacks_17 : decode zo_X_attacks 17 = .ok (.aload_n 0, 1) := by decide +kernel
theorem zd_X_attacks_18 : decode zo_X_attacks 18 = .ok (.getfield 37, 3) := by decide +kernel
theorem zd_X_attacks_21 : decode zo_X_attacks 21 = .ok (.iload_n 1, 1) := by decide +kernel
theorem zd_X_attacks_22 : decode zo_X_attacks 22 = .ok (.iload_n 2, 1) := by decide +kernel
theorem zd_X_attacks_23 : decode zo_X_attacks 23 = .ok (.invokevirtual 122, 3) := by decide +kernel
theorem zd_X_attacks_26 : decode zo_X_attacks 26 = .ok (.ireturn, 1) := by decide +kernel
theorem zd_X_play_0 : decode zo_X_play 0 = .ok (.aload_n 0, 1) := by decide +kernel
theorem zd_X_play_1 : decode zo_X_play 1 = .ok (.iload_n 1, 1) := by decide +kernel
theorem zd_X_play_2 : decode zo_X_play 2 = .ok (.iload_n 2, 1) := by decide +kernel
theorem zd_X_play_3 : decode zo_X_play 3 = .ok (.invokevirtual 125, 3) := by decide +kernel
theorem zd_X_play_6 : decode zo_X_play 6 = .ok (.ireturn, 1) := by decide +kernel
theorem zd_X_playedAttacks_0 : decode zo_X_playedAttacks 0 = .ok (.iload_n 1, 1) := by decide +kernel
theorem zd_X_playedAttacks_1 : decode zo_X_playedAttacks 1 = .ok (.iload_n 2, 1) := by decide +kernel
theorem zd_X_playedAttacks_2 : decode zo_X_playedAttacks 2 = .ok (.invokestatic 73, 3) := by decide +kernel
theorem zd_X_playedAttacks_5 : decode zo_X_playedAttacks 5 = .ok (.ifCond .ne 5, 3) := by decide +kernel
theorem zd_X_playedAttacks_8 : decode zo_X_playedAttacks 8 = .ok (.iconst 0, 1) := by decide +kernel
theorem zd_X_playedAttacks_9 : decode zo_X_playedAttacks 9 = .ok (.ireturn, 1) := by decide +kernel
theorem zd_X_playedAttacks_10 : decode zo_X_playedAttacks 10 = .ok (.aload_n 0, 1) := by decide +kernel
theorem zd_X_playedAttacks_11 : decode zo_X_playedAttacks 11 = .ok (.getfield 21, 3) := by decide +kernel
theorem zd_X_playedAttacks_14 : decode zo_X_playedAttacks 14 = .ok (.invokevirtual 119, 3) := by decide +kernel
theorem zd_X_playedAttacks_17 : decode zo_X_playedAttacks 17 = .ok (.aload_n 0, 1) := by decide +kernel
theorem zd_X_playedAttacks_18 : decode zo_X_playedAttacks 18 = .ok (.getfield 37, 3) := by decide +kernel
theorem zd_X_playedAttacks_21 : decode zo_X_playedAttacks 21 = .ok (.iload_n 1, 1) := by decide +kernel
theorem zd_X_playedAttacks_22 : decode zo_X_playedAttacks 22 = .ok (.iload_n 2, 1) := by decide +kernel
theorem zd_X_playedAttacks_23 : decode zo_X_playedAttacks 23 = .ok (.invokevirtual 134, 3) := by decide +kernel
theorem zd_X_playedAttacks_26 : decode zo_X_playedAttacks 26 = .ok (.ireturn, 1) := by decide +kernel
theorem zd_X_attack_0 : decode zo_X_attack 0 = .ok (.iload_n 3, 1) := by decide +kernel
theorem zd_X_attack_1 : decode zo_X_attack 1 = .ok (.ifCond .lt 24, 3) := by decide +kernel
theorem zd_X_attack_4 : decode zo_X_attack 4 = .ok (.iload_n 3, 1) := by decide +kernel
theorem zd_X_attack_5 : decode zo_X_attack 5 = .ok (.aload_n 0, 1) := by decide +kernel
theorem zd_X_attack_6 : decode zo_X_attack 6 = .ok (.iload_n 1, 1) := by decide +kernel
theorem zd_X_attack_7 : decode zo_X_attack 7 = .ok (.iload_n 2, 1) := by decide +kernel
theorem zd_X_attack_8 : decode zo_X_attack 8 = .ok (.invokevirtual 125, 3) := by decide +kernel
theorem zd_X_attack_11 : decode zo_X_attack 11 = .ok (.if_icmp .ge 14, 3) := by decide +kernel
theorem zd_X_attack_14 : decode zo_X_attack 14 = .ok (.aload_n 0, 1) := by decide +kernel
theorem zd_X_attack_15 : decode zo_X_attack 15 = .ok (.getfield 37, 3) := by decide +kernel
theorem zd_X_attack_18 : decode zo_X_attack 18 = .ok (.iload_n 3, 1) := by decide +kernel
theorem zd_X_attack_19 : decode zo_X_attack 19 = .ok (.invokevirtual 128, 3) := by decide +kernel
theorem zd_X_attack_22 : decode zo_X_attack 22 = .ok (.goto 4, 3) := by decide +kernel
theorem zd_X_attack_25 : decode zo_X_attack 25 = .ok (.iconst (-1), 1) := by decide +kernel
theorem zd_X_attack_26 : decode zo_X_attack 26 = .ok (.ireturn, 1) := by decide +kernel
theorem zd_X_answer_0 : decode zo_X_answer 0 = .ok (.iload_n 3, 1) := by decide +kernel
theorem zd_X_answer_1 : decode zo_X_answer 1 = .ok (.ifCond .lt 24, 3) := by decide +kernel
theorem zd_X_answer_4 : decode zo_X_answer 4 = .ok (.iload_n 3, 1) := by decide +kernel
theorem zd_X_answer_5 : decode zo_X_answer 5 = .ok (.aload_n 0, 1) := by decide +kernel
theorem zd_X_answer_6 : decode zo_X_answer 6 = .ok (.iload_n 1, 1) := by decide +kernel
theorem zd_X_answer_7 : decode zo_X_answer 7 = .ok (.iload_n 2, 1) := by decide +kernel
theorem zd_X_answer_8 : decode zo_X_answer 8 = .ok (.invokevirtual 125, 3) := by decide +kernel
theorem zd_X_answer_11 : decode zo_X_answer 11 = .ok (.if_icmp .ge 14, 3) := by decide +kernel
theorem zd_X_answer_14 : decode zo_X_answer 14 = .ok (.aload_n 0, 1) := by decide +kernel
theorem zd_X_answer_15 : decode zo_X_answer 15 = .ok (.getfield 37, 3) := by decide +kernel
theorem zd_X_answer_18 : decode zo_X_answer 18 = .ok (.iload_n 3, 1) := by decide +kernel
theorem zd_X_answer_19 : decode zo_X_answer 19 = .ok (.invokevirtual 131, 3) := by decide +kernel
theorem zd_X_answer_22 : decode zo_X_answer 22 = .ok (.goto 4, 3) := by decide +kernel
theorem zd_X_answer_25 : decode zo_X_answer 25 = .ok (.iconst (-1), 1) := by decide +kernel
theorem zd_X_answer_26 : decode zo_X_answer 26 = .ok (.ireturn, 1) := by decide +kernel
