theorem zd_X_attacks_0 : decode zo_X_attacks 0 = .ok (.iload_n 1, 1) := by decide +kernel
theorem zd_X_attacks_1 : decode zo_X_attacks 1 = .ok (.iload_n 2, 1) := by decide +kernel
theorem zd_X_attacks_2 : decode zo_X_attacks 2 = .ok (.invokestatic 73, 3) := by decide +kernel
theorem zd_X_attacks_5 : decode zo_X_attacks 5 = .ok (.ifCond .ne 5, 3) := by decide +kernel
theorem zd_X_attacks_8 : decode zo_X_attacks 8 = .ok (.iconst 0, 1) := by decide +kernel
theorem zd_X_attacks_9 : decode zo_X_attacks 9 = .ok (.ireturn, 1) := by decide +kernel
theorem zd_X_attacks_10 : decode zo_X_attacks 10 = .ok (.aload_n 0, 1) := by decide +kernel
theorem zd_X_attacks_11 : decode zo_X_attacks 11 = .ok (.getfield 21, 3) := by decide +kernel
theorem zd_X_attacks_14 : decode zo_X_attacks 14 = .ok (.invokevirtual 119, 3) := by decide +kernel
theorem zd_X_attacks_17 : decode zo_X_attacks 17 = .ok (.aload_n 0, 1) := by decide +kernel
theorem zd_X_attacks_18 : decode zo_X_attacks 18 = .ok (.getfield 37, 3) := by decide +kernel
theorem zd_X_attacks_21 : decode zo_X_attacks 21 = .ok (.iload_n 1, 1) := by decide +kernel
theorem zd_X_attacks_22 : decode zo_X_attacks 22 = .ok (.iload_n 2, 1) := by decide +kernel
theorem zd_X_attacks_23 : decode zo_X_attacks 23 = .ok (.invokevirtual 122, 3) := by decide +kernel
theorem zd_X_attacks_26 : decode zo_X_attacks 26 = .ok (.ireturn, 1) := by decide +kernel
theorem zd_G_countAttacks_0 : decode zo_G_countAttacks 0 = .ok (.aload_n 0, 1) := by decide +kernel
theorem zd_G_countAttacks_1 : decode zo_G_countAttacks 1 = .ok (.getfield 15, 3) := by decide +kernel
theorem zd_G_countAttacks_4 : decode zo_G_countAttacks 4 = .ok (.iload_n 1, 1) := by decide +kernel
theorem zd_G_countAttacks_5 : decode zo_G_countAttacks 5 = .ok (.iload_n 2, 1) := by decide +kernel
theorem zd_G_countAttacks_6 : decode zo_G_countAttacks 6 = .ok (.invokevirtual 29, 3) := by decide +kernel
theorem zd_G_countAttacks_9 : decode zo_G_countAttacks 9 = .ok (.iconst 1, 1) := by decide +kernel
theorem zd_G_countAttacks_10 : decode zo_G_countAttacks 10 = .ok (.isub, 1) := by decide +kernel
theorem zd_G_countAttacks_11 : decode zo_G_countAttacks 11 = .ok (.istore_n 3, 1) := by decide +kernel
theorem zd_G_countAttacks_12 : decode zo_G_countAttacks 12 = .ok (.iload_n 3, 1) := by decide +kernel
theorem zd_G_countAttacks_13 : decode zo_G_countAttacks 13 = .ok (.ifCond .ge 7, 3) := by decide +kernel
theorem zd_G_countAttacks_16 : decode zo_G_countAttacks 16 = .ok (.iconst 0, 1) := by decide +kernel
theorem zd_G_countAttacks_17 : decode zo_G_countAttacks 17 = .ok (.goto 18, 3) := by decide +kernel
theorem zd_G_countAttacks_20 : decode zo_G_countAttacks 20 = .ok (.aload_n 0, 1) := by decide +kernel
theorem zd_G_countAttacks_21 : decode zo_G_countAttacks 21 = .ok (.iload_n 1, 1) := by decide +kernel
theorem zd_G_countAttacks_22 : decode zo_G_countAttacks 22 = .ok (.iload_n 2, 1) := by decide +kernel
theorem zd_G_countAttacks_23 : decode zo_G_countAttacks 23 = .ok (.iload_n 3, 1) := by decide +kernel
theorem zd_G_countAttacks_24 : decode zo_G_countAttacks 24 = .ok (.invokevirtual 35, 3) := by decide +kernel
theorem zd_G_countAttacks_27 : decode zo_G_countAttacks 27 = .ok (.aload_n 0, 1) := by decide +kernel
theorem zd_G_countAttacks_28 : decode zo_G_countAttacks 28 = .ok (.iload_n 2, 1) := by decide +kernel
theorem zd_G_countAttacks_29 : decode zo_G_countAttacks 29 = .ok (.iload_n 1, 1) := by decide +kernel
theorem zd_G_countAttacks_30 : decode zo_G_countAttacks 30 = .ok (.iload_n 3, 1) := by decide +kernel
theorem zd_G_countAttacks_31 : decode zo_G_countAttacks 31 = .ok (.invokevirtual 35, 3) := by decide +kernel
theorem zd_G_countAttacks_34 : decode zo_G_countAttacks 34 = .ok (.iadd, 1) := by decide +kernel
theorem zd_G_countAttacks_35 : decode zo_G_countAttacks 35 = .ok (.ireturn, 1) := by decide +kernel
theorem zd_X_play_0 : decode zo_X_play 0 = .ok (.aload_n 0, 1) := by decide +kernel
theorem zd_X_play_1 : decode zo_X_play 1 = .ok (.iload_n 1, 1) := by decide +kernel
theorem zd_X_play_2 : decode zo_X_play 2 = .ok (.iload_n 2, 1) := by decide +kernel
theorem zd_X_play_3 : decode zo_X_play 3 = .ok (.invokevirtual 125, 3) := by decide +kernel
theorem zd_X_play_6 : decode zo_X_play 6 = .ok (.ireturn, 1) := by decide +kernel
theorem zd_X_playedAttacks_0 : decode zo_X_playedAttacks 0 = .ok (.iload_n 1, 1) := by decide +kernel
theorem zd_X_playedAttacks_1 : decode zo_X_playedAttacks 1 = .ok (.iload_n 2, 1) := by decide +kernel
theorem zd_X_playedAttacks_2 : decode zo_X_playedAttacks 2 = .ok (.invokestatic 73, 3) := by decide +kernel
theorem zd_X_playedAttacks_5 : decode zo_X_playedAttacks 5 = .ok (.ifCond .ne 5, 3) := by decide +kernel
theorem zd_X_playedAttacks_8 : decode zo_X_playedAttacks 8 = .ok (.iconst 0, 1) := by decide +kernel
theorem zd_X_playedAttacks_9 : decode zo_X_playedAttacks 9 = .ok (.ireturn, 1) := by decide +kernel
theorem zd_X_playedAttacks_10 : decode zo_X_playedAttacks 10 = .ok (.aload_n 0, 1) := by decide +kernel
theorem zd_X_playedAttacks_11 : decode zo_X_playedAttacks 11 = .ok (.getfield 21, 3) := by decide +kernel
theorem zd_X_playedAttacks_14 : decode zo_X_playedAttacks 14 = .ok (.invokevirtual 119, 3) := by decide +kernel
theorem zd_X_playedAttacks_17 : decode zo_X_playedAttacks 17 = .ok (.aload_n 0, 1) := by decide +kernel
theorem zd_X_playedAttacks_18 : decode zo_X_playedAttacks 18 = .ok (.getfield 37, 3) := by decide +kernel
theorem zd_X_playedAttacks_21 : decode zo_X_playedAttacks 21 = .ok (.iload_n 1, 1) := by decide +kernel
theorem zd_X_playedAttacks_22 : decode zo_X_playedAttacks 22 = .ok (.iload_n 2, 1) := by decide +kernel
theorem zd_X_playedAttacks_23 : decode zo_X_playedAttacks 23 = .ok (.invokevirtual 134, 3) := by decide +kernel
theorem zd_X_playedAttacks_26 : decode zo_X_playedAttacks 26 = .ok (.ireturn, 1) := by decide +kernel
theorem zd_G_playThrough_0 : decode zo_G_playThrough 0 = .ok (.aload_n 0, 1) := by decide +kernel
theorem zd_G_playThrough_1 : decode zo_G_playThrough 1 = .ok (.getfield 19, 3) := by decide +kernel
theorem zd_G_playThrough_4 : decode zo_G_playThrough 4 = .ok (.iconst 0, 1) := by decide +kernel
theorem zd_G_playThrough_5 : decode zo_G_playThrough 5 = .ok (.iload_n 1, 1) := by decide +kernel
theorem zd_G_playThrough_6 : decode zo_G_playThrough 6 = .ok (.iastore, 1) := by decide +kernel
theorem zd_G_playThrough_7 : decode zo_G_playThrough 7 = .ok (.aload_n 0, 1) := by decide +kernel
theorem zd_G_playThrough_8 : decode zo_G_playThrough 8 = .ok (.getfield 19, 3) := by decide +kernel
theorem zd_G_playThrough_11 : decode zo_G_playThrough 11 = .ok (.iconst 1, 1) := by decide +kernel
theorem zd_G_playThrough_12 : decode zo_G_playThrough 12 = .ok (.iload_n 2, 1) := by decide +kernel
theorem zd_G_playThrough_13 : decode zo_G_playThrough 13 = .ok (.iastore, 1) := by decide +kernel
theorem zd_G_playThrough_14 : decode zo_G_playThrough 14 = .ok (.aload_n 0, 1) := by decide +kernel
theorem zd_G_playThrough_15 : decode zo_G_playThrough 15 = .ok (.iconst 0, 1) := by decide +kernel
theorem zd_G_playThrough_16 : decode zo_G_playThrough 16 = .ok (.putfield 55, 3) := by decide +kernel
theorem zd_G_playThrough_19 : decode zo_G_playThrough 19 = .ok (.iconst 1, 1) := by decide +kernel
theorem zd_G_playThrough_20 : decode zo_G_playThrough 20 = .ok (.istore_n 3, 1) := by decide +kernel
theorem zd_G_playThrough_21 : decode zo_G_playThrough 21 = .ok (.iconst 0, 1) := by decide +kernel
theorem zd_G_playThrough_22 : decode zo_G_playThrough 22 = .ok (.istore 4, 2) := by decide +kernel
theorem zd_G_playThrough_24 : decode zo_G_playThrough 24 = .ok (.iload 4, 2) := by decide +kernel
theorem zd_G_playThrough_26 : decode zo_G_playThrough 26 = .ok (.aload_n 0, 1) := by decide +kernel
theorem zd_G_playThrough_27 : decode zo_G_playThrough 27 = .ok (.getfield 23, 3) := by decide +kernel
theorem zd_G_playThrough_30 : decode zo_G_playThrough 30 = .ok (.arraylength, 1) := by decide +kernel
theorem zd_G_playThrough_31 : decode zo_G_playThrough 31 = .ok (.if_icmp .ge 18, 3) := by decide +kernel
theorem zd_G_playThrough_34 : decode zo_G_playThrough 34 = .ok (.iload_n 3, 1) := by decide +kernel
theorem zd_G_playThrough_35 : decode zo_G_playThrough 35 = .ok (.ifCond .eq 14, 3) := by decide +kernel
theorem zd_G_playThrough_38 : decode zo_G_playThrough 38 = .ok (.aload_n 0, 1) := by decide +kernel
theorem zd_G_playThrough_39 : decode zo_G_playThrough 39 = .ok (.invokevirtual 59, 3) := by decide +kernel
theorem zd_G_playThrough_42 : decode zo_G_playThrough 42 = .ok (.istore_n 3, 1) := by decide +kernel
theorem zd_G_playThrough_43 : decode zo_G_playThrough 43 = .ok (.iinc 4 1, 3) := by decide +kernel
theorem zd_G_playThrough_46 : decode zo_G_playThrough 46 = .ok (.goto (-22), 3) := by decide +kernel
theorem zd_G_playThrough_49 : decode zo_G_playThrough 49 = .ok (.aload_n 0, 1) := by decide +kernel
theorem zd_G_playThrough_50 : decode zo_G_playThrough 50 = .ok (.getfield 55, 3) := by decide +kernel
theorem zd_G_playThrough_53 : decode zo_G_playThrough 53 = .ok (.ireturn, 1) := by decide +kernel
theorem zd_G_attackOnce_0 : decode zo_G_attackOnce 0 = .ok (.aload_n 0, 1) := by decide +kernel
theorem zd_G_attackOnce_1 : decode zo_G_attackOnce 1 = .ok (.getfield 15, 3) := by decide +kernel
theorem zd_G_attackOnce_4 : decode zo_G_attackOnce 4 = .ok (.aload_n 0, 1) := by decide +kernel
theorem zd_G_attackOnce_5 : decode zo_G_attackOnce 5 = .ok (.getfield 19, 3) := by decide +kernel
theorem zd_G_attackOnce_8 : decode zo_G_attackOnce 8 = .ok (.iconst 0, 1) := by decide +kernel
theorem zd_G_attackOnce_9 : decode zo_G_attackOnce 9 = .ok (.iaload, 1) := by decide +kernel
theorem zd_G_attackOnce_10 : decode zo_G_attackOnce 10 = .ok (.aload_n 0, 1) := by decide +kernel
theorem zd_G_attackOnce_11 : decode zo_G_attackOnce 11 = .ok (.getfield 19, 3) := by decide +kernel
theorem zd_G_attackOnce_14 : decode zo_G_attackOnce 14 = .ok (.iconst 1, 1) := by decide +kernel
theorem zd_G_attackOnce_15 : decode zo_G_attackOnce 15 = .ok (.iaload, 1) := by decide +kernel
theorem zd_G_attackOnce_16 : decode zo_G_attackOnce 16 = .ok (.invokevirtual 29, 3) := by decide +kernel
theorem zd_G_attackOnce_19 : decode zo_G_attackOnce 19 = .ok (.iconst 1, 1) := by decide +kernel
theorem zd_G_attackOnce_20 : decode zo_G_attackOnce 20 = .ok (.isub, 1) := by decide +kernel
theorem zd_G_attackOnce_21 : decode zo_G_attackOnce 21 = .ok (.istore_n 1, 1) := by decide +kernel
theorem zd_G_attackOnce_22 : decode zo_G_attackOnce 22 = .ok (.iload_n 1, 1) := by decide +kernel
theorem zd_G_attackOnce_23 : decode zo_G_attackOnce 23 = .ok (.ifCond .ge 5, 3) := by decide +kernel
theorem zd_G_attackOnce_26 : decode zo_G_attackOnce 26 = .ok (.iconst 0, 1) := by decide +kernel
theorem zd_G_attackOnce_27 : decode zo_G_attackOnce 27 = .ok (.ireturn, 1) := by decide +kernel
theorem zd_G_attackOnce_28 : decode zo_G_attackOnce 28 = .ok (.iconst 0, 1) := by decide +kernel
theorem zd_G_attackOnce_29 : decode zo_G_attackOnce 29 = .ok (.istore_n 2, 1) := by decide +kernel
theorem zd_G_attackOnce_30 : decode zo_G_attackOnce 30 = .ok (.aload_n 0, 1) := by decide +kernel
theorem zd_G_attackOnce_31 : decode zo_G_attackOnce 31 = .ok (.aload_n 0, 1) := by decide +kernel
theorem zd_G_attackOnce_32 : decode zo_G_attackOnce 32 = .ok (.getfield 19, 3) := by decide +kernel
theorem zd_G_attackOnce_35 : decode zo_G_attackOnce 35 = .ok (.iconst 0, 1) := by decide +kernel
theorem zd_G_attackOnce_36 : decode zo_G_attackOnce 36 = .ok (.iaload, 1) := by decide +kernel
theorem zd_G_attackOnce_37 : decode zo_G_attackOnce 37 = .ok (.aload_n 0, 1) := by decide +kernel
theorem zd_G_attackOnce_38 : decode zo_G_attackOnce 38 = .ok (.getfield 19, 3) := by decide +kernel
theorem zd_G_attackOnce_41 : decode zo_G_attackOnce 41 = .ok (.iconst 1, 1) := by decide +kernel
theorem zd_G_attackOnce_42 : decode zo_G_attackOnce 42 = .ok (.iaload, 1) := by decide +kernel
theorem zd_G_attackOnce_43 : decode zo_G_attackOnce 43 = .ok (.iload_n 1, 1) := by decide +kernel
theorem zd_G_attackOnce_44 : decode zo_G_attackOnce 44 = .ok (.invokevirtual 63, 3) := by decide +kernel
theorem zd_G_attackOnce_47 : decode zo_G_attackOnce 47 = .ok (.istore_n 3, 1) := by decide +kernel
theorem zd_G_attackOnce_48 : decode zo_G_attackOnce 48 = .ok (.iload_n 3, 1) := by decide +kernel
theorem zd_G_attackOnce_49 : decode zo_G_attackOnce 49 = .ok (.iconst (-1), 1) := by decide +kernel
theorem zd_G_attackOnce_50 : decode zo_G_attackOnce 50 = .ok (.if_icmp .ne 23, 3) := by decide +kernel
theorem zd_G_attackOnce_53 : decode zo_G_attackOnce 53 = .ok (.iconst 1, 1) := by decide +kernel
theorem zd_G_attackOnce_54 : decode zo_G_attackOnce 54 = .ok (.istore_n 2, 1) := by decide +kernel
theorem zd_G_attackOnce_55 : decode zo_G_attackOnce 55 = .ok (.aload_n 0, 1) := by decide +kernel
theorem zd_G_attackOnce_56 : decode zo_G_attackOnce 56 = .ok (.aload_n 0, 1) := by decide +kernel
theorem zd_G_attackOnce_57 : decode zo_G_attackOnce 57 = .ok (.getfield 19, 3) := by decide +kernel
theorem zd_G_attackOnce_60 : decode zo_G_attackOnce 60 = .ok (.iconst 1, 1) := by decide +kernel
theorem zd_G_attackOnce_61 : decode zo_G_attackOnce 61 = .ok (.iaload, 1) := by decide +kernel
theorem zd_G_attackOnce_62 : decode zo_G_attackOnce 62 = .ok (.aload_n 0, 1) := by decide +kernel
theorem zd_G_attackOnce_63 : decode zo_G_attackOnce 63 = .ok (.getfield 19, 3) := by decide +kernel
theorem zd_G_attackOnce_66 : decode zo_G_attackOnce 66 = .ok (.iconst 0, 1) := by decide +kernel
theorem zd_G_attackOnce_67 : decode zo_G_attackOnce 67 = .ok (.iaload, 1) := by decide +kernel
theorem zd_G_attackOnce_68 : decode zo_G_attackOnce 68 = .ok (.iload_n 1, 1) := by decide +kernel
theorem zd_G_attackOnce_69 : decode zo_G_attackOnce 69 = .ok (.invokevirtual 63, 3) := by decide +kernel
theorem zd_G_attackOnce_72 : decode zo_G_attackOnce 72 = .ok (.istore_n 3, 1) := by decide +kernel
theorem zd_G_attackOnce_73 : decode zo_G_attackOnce 73 = .ok (.iload_n 3, 1) := by decide +kernel
theorem zd_G_attackOnce_74 : decode zo_G_attackOnce 74 = .ok (.iconst (-1), 1) := by decide +kernel
theorem zd_G_attackOnce_75 : decode zo_G_attackOnce 75 = .ok (.if_icmp .ne 5, 3) := by decide +kernel
theorem zd_G_attackOnce_78 : decode zo_G_attackOnce 78 = .ok (.iconst 0, 1) := by decide +kernel
theorem zd_G_attackOnce_79 : decode zo_G_attackOnce 79 = .ok (.ireturn, 1) := by decide +kernel
theorem zd_G_attackOnce_80 : decode zo_G_attackOnce 80 = .ok (.aload_n 0, 1) := by decide +kernel
theorem zd_G_attackOnce_81 : decode zo_G_attackOnce 81 = .ok (.aload_n 0, 1) := by decide +kernel
theorem zd_G_attackOnce_82 : decode zo_G_attackOnce 82 = .ok (.getfield 19, 3) := by decide +kernel
theorem zd_G_attackOnce_85 : decode zo_G_attackOnce 85 = .ok (.iconst 1, 1) := by decide +kernel
theorem zd_G_attackOnce_86 : decode zo_G_attackOnce 86 = .ok (.iload_n 2, 1) := by decide +kernel
theorem zd_G_attackOnce_87 : decode zo_G_attackOnce 87 = .ok (.isub, 1) := by decide +kernel
theorem zd_G_attackOnce_88 : decode zo_G_attackOnce 88 = .ok (.iaload, 1) := by decide +kernel
theorem zd_G_attackOnce_89 : decode zo_G_attackOnce 89 = .ok (.iload_n 3, 1) := by decide +kernel
theorem zd_G_attackOnce_90 : decode zo_G_attackOnce 90 = .ok (.invokevirtual 66, 3) := by decide +kernel
theorem zd_G_attackOnce_93 : decode zo_G_attackOnce 93 = .ok (.istore 4, 2) := by decide +kernel
theorem zd_G_attackOnce_95 : decode zo_G_attackOnce 95 = .ok (.aload_n 0, 1) := by decide +kernel
theorem zd_G_attackOnce_96 : decode zo_G_attackOnce 96 = .ok (.getfield 23, 3) := by decide +kernel
theorem zd_G_attackOnce_99 : decode zo_G_attackOnce 99 = .ok (.aload_n 0, 1) := by decide +kernel
theorem zd_G_attackOnce_100 : decode zo_G_attackOnce 100 = .ok (.getfield 55, 3) := by decide +kernel
theorem zd_G_attackOnce_103 : decode zo_G_attackOnce 103 = .ok (.iload_n 2, 1) := by decide +kernel
theorem zd_G_attackOnce_104 : decode zo_G_attackOnce 104 = .ok (.sipush 1000, 3) := by decide +kernel
theorem zd_G_attackOnce_107 : decode zo_G_attackOnce 107 = .ok (.imul, 1) := by decide +kernel
theorem zd_G_attackOnce_108 : decode zo_G_attackOnce 108 = .ok (.iload_n 3, 1) := by decide +kernel
theorem zd_G_attackOnce_109 : decode zo_G_attackOnce 109 = .ok (.iadd, 1) := by decide +kernel
theorem zd_G_attackOnce_110 : decode zo_G_attackOnce 110 = .ok (.iastore, 1) := by decide +kernel
theorem zd_G_attackOnce_111 : decode zo_G_attackOnce 111 = .ok (.aload_n 0, 1) := by decide +kernel
theorem zd_G_attackOnce_112 : decode zo_G_attackOnce 112 = .ok (.getfield 26, 3) := by decide +kernel
theorem zd_G_attackOnce_115 : decode zo_G_attackOnce 115 = .ok (.aload_n 0, 1) := by decide +kernel
theorem zd_G_attackOnce_116 : decode zo_G_attackOnce 116 = .ok (.getfield 55, 3) := by decide +kernel
theorem zd_G_attackOnce_119 : decode zo_G_attackOnce 119 = .ok (.iload 4, 2) := by decide +kernel
theorem zd_G_attackOnce_121 : decode zo_G_attackOnce 121 = .ok (.iastore, 1) := by decide +kernel
theorem zd_G_attackOnce_122 : decode zo_G_attackOnce 122 = .ok (.aload_n 0, 1) := by decide +kernel
theorem zd_G_attackOnce_123 : decode zo_G_attackOnce 123 = .ok (.dup, 1) := by decide +kernel
theorem zd_G_attackOnce_124 : decode zo_G_attackOnce 124 = .ok (.getfield 55, 3) := by decide +kernel
theorem zd_G_attackOnce_127 : decode zo_G_attackOnce 127 = .ok (.iconst 1, 1) := by decide +kernel
theorem zd_G_attackOnce_128 : decode zo_G_attackOnce 128 = .ok (.iadd, 1) := by decide +kernel
theorem zd_G_attackOnce_129 : decode zo_G_attackOnce 129 = .ok (.putfield 55, 3) := by decide +kernel
theorem zd_G_attackOnce_132 : decode zo_G_attackOnce 132 = .ok (.aload_n 0, 1) := by decide +kernel
theorem zd_G_attackOnce_133 : decode zo_G_attackOnce 133 = .ok (.getfield 19, 3) := by decide +kernel
theorem zd_G_attackOnce_136 : decode zo_G_attackOnce 136 = .ok (.iload_n 2, 1) := by decide +kernel
theorem zd_G_attackOnce_137 : decode zo_G_attackOnce 137 = .ok (.iload_n 3, 1) := by decide +kernel
theorem zd_G_attackOnce_138 : decode zo_G_attackOnce 138 = .ok (.bipush 100, 2) := by decide +kernel
theorem zd_G_attackOnce_140 : decode zo_G_attackOnce 140 = .ok (.irem, 1) := by decide +kernel
theorem zd_G_attackOnce_141 : decode zo_G_attackOnce 141 = .ok (.iastore, 1) := by decide +kernel
theorem zd_G_attackOnce_142 : decode zo_G_attackOnce 142 = .ok (.aload_n 0, 1) := by decide +kernel
theorem zd_G_attackOnce_143 : decode zo_G_attackOnce 143 = .ok (.getfield 19, 3) := by decide +kernel
theorem zd_G_attackOnce_146 : decode zo_G_attackOnce 146 = .ok (.iconst 1, 1) := by decide +kernel
theorem zd_G_attackOnce_147 : decode zo_G_attackOnce 147 = .ok (.iload_n 2, 1) := by decide +kernel
theorem zd_G_attackOnce_148 : decode zo_G_attackOnce 148 = .ok (.isub, 1) := by decide +kernel
theorem zd_G_attackOnce_149 : decode zo_G_attackOnce 149 = .ok (.iload 4, 2) := by decide +kernel
theorem zd_G_attackOnce_151 : decode zo_G_attackOnce 151 = .ok (.iastore, 1) := by decide +kernel
theorem zd_G_attackOnce_152 : decode zo_G_attackOnce 152 = .ok (.iload 4, 2) := by decide +kernel
theorem zd_G_attackOnce_154 : decode zo_G_attackOnce 154 = .ok (.iconst (-1), 1) := by decide +kernel
theorem zd_G_attackOnce_155 : decode zo_G_attackOnce 155 = .ok (.if_icmp .eq 7, 3) := by decide +kernel
theorem zd_G_attackOnce_158 : decode zo_G_attackOnce 158 = .ok (.iconst 1, 1) := by decide +kernel
theorem zd_G_attackOnce_159 : decode zo_G_attackOnce 159 = .ok (.goto 4, 3) := by decide +kernel
theorem zd_G_attackOnce_162 : decode zo_G_attackOnce 162 = .ok (.iconst 0, 1) := by decide +kernel
theorem zd_G_attackOnce_163 : decode zo_G_attackOnce 163 = .ok (.ireturn, 1) := by decide +kernel
theorem zd_X_attack_0 : decode zo_X_attack 0 = .ok (.iload_n 3, 1) := by decide +kernel
theorem zd_X_attack_1 : decode zo_X_attack 1 = .ok (.ifCond .lt 24, 3) := by decide +kernel
theorem zd_X_attack_4 : decode zo_X_attack 4 = .ok (.iload_n 3, 1) := by decide +kernel
theorem zd_X_attack_5 : decode zo_X_attack 5 = .ok (.aload_n 0, 1) := by decide +kernel
theorem zd_X_attack_6 : decode zo_X_attack 6 = .ok (.iload_n 1, 1) := by decide +kernel
theorem zd_X_attack_7 : decode zo_X_attack 7 = .ok (.iload_n 2, 1) := by decide +kernel
theorem zd_X_attack_8 : decode zo_X_attack 8 = .ok (.invokevirtual 125, 3) := by decide +kernel
theorem zd_X_attack_11 : decode zo_X_attack 11 = .ok (.if_icmp .ge 14, 3) := by decide +kernel
theorem zd_X_attack_14 : decode zo_X_attack 14 = .ok (.aload_n 0, 1) := by decide +kernel
theorem zd_X_attack_15 : decode zo_X_attack 15 = .ok (.getfield 37, 3) := by decide +kernel
theorem zd_X_attack_18 : decode zo_X_attack 18 = .ok (.iload_n 3, 1) := by decide +kernel
theorem zd_X_attack_19 : decode zo_X_attack 19 = .ok (.invokevirtual 128, 3) := by decide +kernel
theorem zd_X_attack_22 : decode zo_X_attack 22 = .ok (.goto 4, 3) := by decide +kernel
theorem zd_X_attack_25 : decode zo_X_attack 25 = .ok (.iconst (-1), 1) := by decide +kernel
theorem zd_X_attack_26 : decode zo_X_attack 26 = .ok (.ireturn, 1) := by decide +kernel
theorem zd_X_answer_0 : decode zo_X_answer 0 = .ok (.iload_n 3, 1) := by decide +kernel
theorem zd_X_answer_1 : decode zo_X_answer 1 = .ok (.ifCond .lt 24, 3) := by decide +kernel
theorem zd_X_answer_4 : decode zo_X_answer 4 = .ok (.iload_n 3, 1) := by decide +kernel
theorem zd_X_answer_5 : decode zo_X_answer 5 = .ok (.aload_n 0, 1) := by decide +kernel
theorem zd_X_answer_6 : decode zo_X_answer 6 = .ok (.iload_n 1, 1) := by decide +kernel
theorem zd_X_answer_7 : decode zo_X_answer 7 = .ok (.iload_n 2, 1) := by decide +kernel
theorem zd_X_answer_8 : decode zo_X_answer 8 = .ok (.invokevirtual 125, 3) := by decide +kernel
theorem zd_X_answer_11 : decode zo_X_answer 11 = .ok (.if_icmp .ge 14, 3) := by decide +kernel
theorem zd_X_answer_14 : decode zo_X_answer 14 = .ok (.aload_n 0, 1) := by decide +kernel
theorem zd_X_answer_15 : decode zo_X_answer 15 = .ok (.getfield 37, 3) := by decide +kernel
theorem zd_X_answer_18 : decode zo_X_answer 18 = .ok (.iload_n 3, 1) := by decide +kernel
theorem zd_X_answer_19 : decode zo_X_answer 19 = .ok (.invokevirtual 131, 3) := by decide +kernel
theorem zd_X_answer_22 : decode zo_X_answer 22 = .ok (.goto 4, 3) := by decide +kernel
theorem zd_X_answer_25 : decode zo_X_answer 25 = .ok (.iconst (-1), 1) := by decide +kernel
theorem zd_X_answer_26 : decode zo_X_answer 26 = .ok (.ireturn, 1) := by decide +kernel
