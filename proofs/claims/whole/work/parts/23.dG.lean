theorem zd_G_init_0 : decode zo_G_init 0 = .ok (.aload_n 0, 1) := by decide +kernel
theorem zd_G_init_1 : decode zo_G_init 1 = .ok (.invokespecial 3, 3) := by decide +kernel
theorem zd_G_init_4 : decode zo_G_init 4 = .ok (.aload_n 0, 1) := by decide +kernel
theorem zd_G_init_5 : decode zo_G_init 5 = .ok (.aload_n 1, 1) := by decide +kernel
theorem zd_G_init_6 : decode zo_G_init 6 = .ok (.putfield 9, 3) := by decide +kernel
theorem zd_G_init_9 : decode zo_G_init 9 = .ok (.aload_n 0, 1) := by decide +kernel
theorem zd_G_init_10 : decode zo_G_init 10 = .ok (.aload_n 2, 1) := by decide +kernel
theorem zd_G_init_11 : decode zo_G_init 11 = .ok (.putfield 15, 3) := by decide +kernel
theorem zd_G_init_14 : decode zo_G_init 14 = .ok (.aload_n 0, 1) := by decide +kernel
theorem zd_G_init_15 : decode zo_G_init 15 = .ok (.iconst 2, 1) := by decide +kernel
theorem zd_G_init_16 : decode zo_G_init 16 = .ok (.newarray .int, 2) := by decide +kernel
theorem zd_G_init_18 : decode zo_G_init 18 = .ok (.putfield 19, 3) := by decide +kernel
theorem zd_G_init_21 : decode zo_G_init 21 = .ok (.aload_n 0, 1) := by decide +kernel
theorem zd_G_init_22 : decode zo_G_init 22 = .ok (.bipush 24, 2) := by decide +kernel
theorem zd_G_init_24 : decode zo_G_init 24 = .ok (.newarray .int, 2) := by decide +kernel
theorem zd_G_init_26 : decode zo_G_init 26 = .ok (.putfield 23, 3) := by decide +kernel
theorem zd_G_init_29 : decode zo_G_init 29 = .ok (.aload_n 0, 1) := by decide +kernel
theorem zd_G_init_30 : decode zo_G_init 30 = .ok (.bipush 24, 2) := by decide +kernel
theorem zd_G_init_32 : decode zo_G_init 32 = .ok (.newarray .int, 2) := by decide +kernel
theorem zd_G_init_34 : decode zo_G_init 34 = .ok (.putfield 26, 3) := by decide +kernel
theorem zd_G_init_37 : decode zo_G_init 37 = .ok (.return_, 1) := by decide +kernel
theorem zd_G_countAttacks_0 : decode zo_G_countAttacks 0 = .ok (.aload_n 0, 1) := by decide +kernel
theorem zd_G_countAttacks_1 : decode zo_G_countAttacks 1 = .ok (.getfield 15, 3) := by decide +kernel
theorem zd_G_countAttacks_4 : decode zo_G_countAttacks 4 = .ok (.iload_n 1, 1) := by decide +kernel
theorem zd_G_countAttacks_5 : decode zo_G_countAttacks 5 = .ok (.iload_n 2, 1) := by decide +kernel
theorem zd_G_countAttacks_6 : decode zo_G_countAttacks 6 = .ok (.invokevirtual 29, 3) := by decide +kernel
theorem zd_G_countAttacks_9 : decode zo_G_countAttacks 9 = .ok (.iconst 1, 1) := by decide +kernel
theorem zd_G_countAttacks_10 : decode zo_G_countAttacks 10 = .ok (.isub, 1) := by decide +kernel
theorem zd_G_countAttacks_11 : decode zo_G_countAttacks 11 = .ok (.istore_n 3, 1) := by decide +kernel
theorem zd_G_countAttacks_12 : decode zo_G_countAttacks 12 = .ok (.iload_n 3, 1) := by decide +kernel
theorem zd_G_countAttacks_13 : decode zo_G_countAttacks 13 = .ok (.ifCond .ge 7, 3) := by decide +kernel
theorem zd_G_countAttacks_16 : decode zo_G_countAttacks 16 = .ok (.iconst 0, 1) := by decide +kernel
theorem zd_G_countAttacks_17 : decode zo_G_countAttacks 17 = .ok (.goto 18, 3) := by decide +kernel
theorem zd_G_countAttacks_20 : decode zo_G_countAttacks 20 = .ok (.aload_n 0, 1) := by decide +kernel
theorem zd_G_countAttacks_21 : decode zo_G_countAttacks 21 = .ok (.iload_n 1, 1) := by decide +kernel
theorem zd_G_countAttacks_22 : decode zo_G_countAttacks 22 = .ok (.iload_n 2, 1) := by decide +kernel
theorem zd_G_countAttacks_23 : decode zo_G_countAttacks 23 = .ok (.iload_n 3, 1) := by decide +kernel
theorem zd_G_countAttacks_24 : decode zo_G_countAttacks 24 = .ok (.invokevirtual 35, 3) := by decide +kernel
theorem zd_G_countAttacks_27 : decode zo_G_countAttacks 27 = .ok (.aload_n 0, 1) := by decide +kernel
theorem zd_G_countAttacks_28 : decode zo_G_countAttacks 28 = .ok (.iload_n 2, 1) := by decide +kernel
theorem zd_G_countAttacks_29 : decode zo_G_countAttacks 29 = .ok (.iload_n 1, 1) := by decide +kernel
theorem zd_G_countAttacks_30 : decode zo_G_countAttacks 30 = .ok (.iload_n 3, 1) := by decide +kernel
theorem zd_G_countAttacks_31 : decode zo_G_countAttacks 31 = .ok (.invokevirtual 35, 3) := by decide +kernel
theorem zd_G_countAttacks_34 : decode zo_G_countAttacks 34 = .ok (.iadd, 1) := by decide +kernel
theorem zd_G_countAttacks_35 : decode zo_G_countAttacks 35 = .ok (.ireturn, 1) := by decide +kernel
theorem zd_G_countOf_0 : decode zo_G_countOf 0 = .ok (.iconst 0, 1) := by decide +kernel
theorem zd_G_countOf_1 : decode zo_G_countOf 1 = .ok (.istore 4, 2) := by decide +kernel
theorem zd_G_countOf_3 : decode zo_G_countOf 3 = .ok (.iconst 0, 1) := by decide +kernel
theorem zd_G_countOf_4 : decode zo_G_countOf 4 = .ok (.istore 5, 2) := by decide +kernel
theorem zd_G_countOf_6 : decode zo_G_countOf 6 = .ok (.iload 5, 2) := by decide +kernel
theorem zd_G_countOf_8 : decode zo_G_countOf 8 = .ok (.iconst 4, 1) := by decide +kernel
theorem zd_G_countOf_9 : decode zo_G_countOf 9 = .ok (.if_icmp .ge 42, 3) := by decide +kernel
theorem zd_G_countOf_12 : decode zo_G_countOf 12 = .ok (.iconst 0, 1) := by decide +kernel
theorem zd_G_countOf_13 : decode zo_G_countOf 13 = .ok (.istore 6, 2) := by decide +kernel
theorem zd_G_countOf_15 : decode zo_G_countOf 15 = .ok (.iload 6, 2) := by decide +kernel
theorem zd_G_countOf_17 : decode zo_G_countOf 17 = .ok (.bipush 24, 2) := by decide +kernel
theorem zd_G_countOf_19 : decode zo_G_countOf 19 = .ok (.if_icmp .ge 26, 3) := by decide +kernel
theorem zd_G_countOf_22 : decode zo_G_countOf 22 = .ok (.aload_n 0, 1) := by decide +kernel
theorem zd_G_countOf_23 : decode zo_G_countOf 23 = .ok (.iload_n 1, 1) := by decide +kernel
theorem zd_G_countOf_24 : decode zo_G_countOf 24 = .ok (.iload_n 2, 1) := by decide +kernel
theorem zd_G_countOf_25 : decode zo_G_countOf 25 = .ok (.iload 5, 2) := by decide +kernel
theorem zd_G_countOf_27 : decode zo_G_countOf 27 = .ok (.iload 6, 2) := by decide +kernel
theorem zd_G_countOf_29 : decode zo_G_countOf 29 = .ok (.iload_n 3, 1) := by decide +kernel
theorem zd_G_countOf_30 : decode zo_G_countOf 30 = .ok (.invokevirtual 39, 3) := by decide +kernel
theorem zd_G_countOf_33 : decode zo_G_countOf 33 = .ok (.ifCond .eq 6, 3) := by decide +kernel
theorem zd_G_countOf_36 : decode zo_G_countOf 36 = .ok (.iinc 4 1, 3) := by decide +kernel
theorem zd_G_countOf_39 : decode zo_G_countOf 39 = .ok (.iinc 6 1, 3) := by decide +kernel
theorem zd_G_countOf_42 : decode zo_G_countOf 42 = .ok (.goto (-27), 3) := by decide +kernel
theorem zd_G_countOf_45 : decode zo_G_countOf 45 = .ok (.iinc 5 1, 3) := by decide +kernel
theorem zd_G_countOf_48 : decode zo_G_countOf 48 = .ok (.goto (-42), 3) := by decide +kernel
theorem zd_G_countOf_51 : decode zo_G_countOf 51 = .ok (.iload 4, 2) := by decide +kernel
theorem zd_G_countOf_53 : decode zo_G_countOf 53 = .ok (.ireturn, 1) := by decide +kernel
theorem zd_G_isAttack_0 : decode zo_G_isAttack 0 = .ok (.aload_n 0, 1) := by decide +kernel
theorem zd_G_isAttack_1 : decode zo_G_isAttack 1 = .ok (.getfield 9, 3) := by decide +kernel
theorem zd_G_isAttack_4 : decode zo_G_isAttack 4 = .ok (.iload_n 1, 1) := by decide +kernel
theorem zd_G_isAttack_5 : decode zo_G_isAttack 5 = .ok (.iload_n 3, 1) := by decide +kernel
theorem zd_G_isAttack_6 : decode zo_G_isAttack 6 = .ok (.invokevirtual 43, 3) := by decide +kernel
theorem zd_G_isAttack_9 : decode zo_G_isAttack 9 = .ok (.iload 4, 2) := by decide +kernel
theorem zd_G_isAttack_11 : decode zo_G_isAttack 11 = .ok (.invokestatic 48, 3) := by decide +kernel
theorem zd_G_isAttack_14 : decode zo_G_isAttack 14 = .ok (.ifCond .eq 31, 3) := by decide +kernel
theorem zd_G_isAttack_17 : decode zo_G_isAttack 17 = .ok (.aload_n 0, 1) := by decide +kernel
theorem zd_G_isAttack_18 : decode zo_G_isAttack 18 = .ok (.getfield 15, 3) := by decide +kernel
theorem zd_G_isAttack_21 : decode zo_G_isAttack 21 = .ok (.iload 5, 2) := by decide +kernel
theorem zd_G_isAttack_23 : decode zo_G_isAttack 23 = .ok (.iload 4, 2) := by decide +kernel
theorem zd_G_isAttack_25 : decode zo_G_isAttack 25 = .ok (.invokevirtual 52, 3) := by decide +kernel
theorem zd_G_isAttack_28 : decode zo_G_isAttack 28 = .ok (.aload_n 0, 1) := by decide +kernel
theorem zd_G_isAttack_29 : decode zo_G_isAttack 29 = .ok (.getfield 9, 3) := by decide +kernel
theorem zd_G_isAttack_32 : decode zo_G_isAttack 32 = .ok (.iload_n 2, 1) := by decide +kernel
theorem zd_G_isAttack_33 : decode zo_G_isAttack 33 = .ok (.iload_n 3, 1) := by decide +kernel
theorem zd_G_isAttack_34 : decode zo_G_isAttack 34 = .ok (.invokevirtual 43, 3) := by decide +kernel
theorem zd_G_isAttack_37 : decode zo_G_isAttack 37 = .ok (.iand, 1) := by decide +kernel
theorem zd_G_isAttack_38 : decode zo_G_isAttack 38 = .ok (.ifCond .ne 7, 3) := by decide +kernel
theorem zd_G_isAttack_41 : decode zo_G_isAttack 41 = .ok (.iconst 1, 1) := by decide +kernel
theorem zd_G_isAttack_42 : decode zo_G_isAttack 42 = .ok (.goto 4, 3) := by decide +kernel
theorem zd_G_isAttack_45 : decode zo_G_isAttack 45 = .ok (.iconst 0, 1) := by decide +kernel
theorem zd_G_isAttack_46 : decode zo_G_isAttack 46 = .ok (.ireturn, 1) := by decide +kernel
theorem zd_G_playThrough_0 : decode zo_G_playThrough 0 = .ok (.aload_n 0, 1) := by decide +kernel
theorem zd_G_playThrough_1 : decode zo_G_playThrough 1 = .ok (.getfield 19, 3) := by decide +kernel
theorem zd_G_playThrough_4 : decode zo_G_playThrough 4 = .ok (.iconst 0, 1) := by decide +kernel
theorem zd_G_playThrough_5 : decode zo_G_playThrough 5 = .ok (.iload_n 1, 1) := by decide +kernel
theorem zd_G_playThrough_6 : decode zo_G_playThrough 6 = .ok (.iastore, 1) := by decide +kernel
theorem zd_G_playThrough_7 : decode zo_G_playThrough 7 = .ok (.aload_n 0, 1) := by decide +kernel
theorem zd_G_playThrough_8 : decode zo_G_playThrough 8 = .ok (.getfield 19, 3) := by decide +kernel
theorem zd_G_playThrough_11 : decode zo_G_playThrough 11 = .ok (.iconst 1, 1) := by decide +kernel
theorem zd_G_playThrough_12 : decode zo_G_playThrough 12 = .ok (.iload_n 2, 1) := by decide +kernel
theorem zd_G_playThrough_13 : decode zo_G_playThrough 13 = .ok (.iastore, 1) := by decide +kernel
theorem zd_G_playThrough_14 : decode zo_G_playThrough 14 = .ok (.aload_n 0, 1) := by decide +kernel
theorem zd_G_playThrough_15 : decode zo_G_playThrough 15 = .ok (.iconst 0, 1) := by decide +kernel
theorem zd_G_playThrough_16 : decode zo_G_playThrough 16 = .ok (.putfield 55, 3) := by decide +kernel
theorem zd_G_playThrough_19 : decode zo_G_playThrough 19 = .ok (.iconst 1, 1) := by decide +kernel
theorem zd_G_playThrough_20 : decode zo_G_playThrough 20 = .ok (.istore_n 3, 1) := by decide +kernel
theorem zd_G_playThrough_21 : decode zo_G_playThrough 21 = .ok (.iconst 0, 1) := by decide +kernel
theorem zd_G_playThrough_22 : decode zo_G_playThrough 22 = .ok (.istore 4, 2) := by decide +kernel
theorem zd_G_playThrough_24 : decode zo_G_playThrough 24 = .ok (.iload 4, 2) := by decide +kernel
theorem zd_G_playThrough_26 : decode zo_G_playThrough 26 = .ok (.aload_n 0, 1) := by decide +kernel
theorem zd_G_playThrough_27 : decode zo_G_playThrough 27 = .ok (.getfield 23, 3) := by decide +kernel
theorem zd_G_playThrough_30 : decode zo_G_playThrough 30 = .ok (.arraylength, 1) := by decide +kernel
theorem zd_G_playThrough_31 : decode zo_G_playThrough 31 = .ok (.if_icmp .ge 18, 3) := by decide +kernel
theorem zd_G_playThrough_34 : decode zo_G_playThrough 34 = .ok (.iload_n 3, 1) := by decide +kernel
theorem zd_G_playThrough_35 : decode zo_G_playThrough 35 = .ok (.ifCond .eq 14, 3) := by decide +kernel
theorem zd_G_playThrough_38 : decode zo_G_playThrough 38 = .ok (.aload_n 0, 1) := by decide +kernel
theorem zd_G_playThrough_39 : decode zo_G_playThrough 39 = .ok (.invokevirtual 59, 3) := by decide +kernel
theorem zd_G_playThrough_42 : decode zo_G_playThrough 42 = .ok (.istore_n 3, 1) := by decide +kernel
theorem zd_G_playThrough_43 : decode zo_G_playThrough 43 = .ok (.iinc 4 1, 3) := by decide +kernel
theorem zd_G_playThrough_46 : decode zo_G_playThrough 46 = .ok (.goto (-22), 3) := by decide +kernel
theorem zd_G_playThrough_49 : decode zo_G_playThrough 49 = .ok (.aload_n 0, 1) := by decide +kernel
theorem zd_G_playThrough_50 : decode zo_G_playThrough 50 = .ok (.getfield 55, 3) := by decide +kernel
theorem zd_G_playThrough_53 : decode zo_G_playThrough 53 = .ok (.ireturn, 1) := by decide +kernel
theorem zd_G_attackOnce_0 : decode zo_G_attackOnce 0 = .ok (.aload_n 0, 1) := by decide +kernel
theorem zd_G_attackOnce_1 : decode zo_G_attackOnce 1 = .ok (.getfield 15, 3) := by decide +kernel
theorem zd_G_attackOnce_4 : decode zo_G_attackOnce 4 = .ok (.aload_n 0, 1) := by decide +kernel
theorem zd_G_attackOnce_5 : decode zo_G_attackOnce 5 = .ok (.getfield 19, 3) := by decide +kernel
theorem zd_G_attackOnce_8 : decode zo_G_attackOnce 8 = .ok (.iconst 0, 1) := by decide +kernel
theorem zd_G_attackOnce_9 : decode zo_G_attackOnce 9 = .ok (.iaload, 1) := by decide +kernel
theorem zd_G_attackOnce_10 : decode zo_G_attackOnce 10 = .ok (.aload_n 0, 1) := by decide +kernel
theorem zd_G_attackOnce_11 : decode zo_G_attackOnce 11 = .ok (.getfield 19, 3) := by decide +kernel
theorem zd_G_attackOnce_14 : decode zo_G_attackOnce 14 = .ok (.iconst 1, 1) := by decide +kernel
theorem zd_G_attackOnce_15 : decode zo_G_attackOnce 15 = .ok (.iaload, 1) := by decide +kernel
theorem zd_G_attackOnce_16 : decode zo_G_attackOnce 16 = .ok (.invokevirtual 29, 3) := by decide +kernel
theorem zd_G_attackOnce_19 : decode zo_G_attackOnce 19 = .ok (.iconst 1, 1) := by decide +kernel
theorem zd_G_attackOnce_20 : decode zo_G_attackOnce 20 = .ok (.isub, 1) := by decide +kernel
theorem zd_G_attackOnce_21 : decode zo_G_attackOnce 21 = .ok (.istore_n 1, 1) := by decide +kernel
theorem zd_G_attackOnce_22 : decode zo_G_attackOnce 22 = .ok (.iload_n 1, 1) := by decide +kernel
theorem zd_G_attackOnce_23 : decode zo_G_attackOnce 23 = .ok (.ifCond .ge 5, 3) := by decide +kernel
theorem zd_G_attackOnce_26 : decode zo_G_attackOnce 26 = .ok (.iconst 0, 1) := by decide +kernel
theorem zd_G_attackOnce_27 : decode zo_G_attackOnce 27 = .ok (.ireturn, 1) := by decide +kernel
theorem zd_G_attackOnce_28 : decode zo_G_attackOnce 28 = .ok (.iconst 0, 1) := by decide +kernel
theorem zd_G_attackOnce_29 : decode zo_G_attackOnce 29 = .ok (.istore_n 2, 1) := by decide +kernel
theorem zd_G_attackOnce_30 : decode zo_G_attackOnce 30 = .ok (.aload_n 0, 1) := by decide +kernel
theorem zd_G_attackOnce_31 : decode zo_G_attackOnce 31 = .ok (.aload_n 0, 1) := by decide +kernel
theorem zd_G_attackOnce_32 : decode zo_G_attackOnce 32 = .ok (.getfield 19, 3) := by decide +kernel
theorem zd_G_attackOnce_35 : decode zo_G_attackOnce 35 = .ok (.iconst 0, 1) := by decide +kernel
theorem zd_G_attackOnce_36 : decode zo_G_attackOnce 36 = .ok (.iaload, 1) := by decide +kernel
theorem zd_G_attackOnce_37 : decode zo_G_attackOnce 37 = .ok (.aload_n 0, 1) := by decide +kernel
theorem zd_G_attackOnce_38 : decode zo_G_attackOnce 38 = .ok (.getfield 19, 3) := by decide +kernel
theorem zd_G_attackOnce_41 : decode zo_G_attackOnce 41 = .ok (.iconst 1, 1) := by decide +kernel
theorem zd_G_attackOnce_42 : decode zo_G_attackOnce 42 = .ok (.iaload, 1) := by decide +kernel
theorem zd_G_attackOnce_43 : decode zo_G_attackOnce 43 = .ok (.iload_n 1, 1) := by decide +kernel
theorem zd_G_attackOnce_44 : decode zo_G_attackOnce 44 = .ok (.invokevirtual 63, 3) := by decide +kernel
theorem zd_G_attackOnce_47 : decode zo_G_attackOnce 47 = .ok (.istore_n 3, 1) := by decide +kernel
theorem zd_G_attackOnce_48 : decode zo_G_attackOnce 48 = .ok (.iload_n 3, 1) := by decide +kernel
theorem zd_G_attackOnce_49 : decode zo_G_attackOnce 49 = .ok (.iconst (-1), 1) := by decide +kernel
theorem zd_G_attackOnce_50 : decode zo_G_attackOnce 50 = .ok (.if_icmp .ne 23, 3) := by decide +kernel
theorem zd_G_attackOnce_53 : decode zo_G_attackOnce 53 = .ok (.iconst 1, 1) := by decide +kernel
theorem zd_G_attackOnce_54 : decode zo_G_attackOnce 54 = .ok (.istore_n 2, 1) := by decide +kernel
theorem zd_G_attackOnce_55 : decode zo_G_attackOnce 55 = .ok (.aload_n 0, 1) := by decide +kernel
theorem zd_G_attackOnce_56 : decode zo_G_attackOnce 56 = .ok (.aload_n 0, 1) := by decide +kernel
theorem zd_G_attackOnce_57 : decode zo_G_attackOnce 57 = .ok (.getfield 19, 3) := by decide +kernel
theorem zd_G_attackOnce_60 : decode zo_G_attackOnce 60 = .ok (.iconst 1, 1) := by decide +kernel
theorem zd_G_attackOnce_61 : decode zo_G_attackOnce 61 = .ok (.iaload, 1) := by decide +kernel
theorem zd_G_attackOnce_62 : decode zo_G_attackOnce 62 = .ok (.aload_n 0, 1) := by decide +kernel
theorem zd_G_attackOnce_63 : decode zo_G_attackOnce 63 = .ok (.getfield 19, 3) := by decide +kernel
theorem zd_G_attackOnce_66 : decode zo_G_attackOnce 66 = .ok (.iconst 0, 1) := by decide +kernel
theorem zd_G_attackOnce_67 : decode zo_G_attackOnce 67 = .ok (.iaload, 1) := by decide +kernel
theorem zd_G_attackOnce_68 : decode zo_G_attackOnce 68 = .ok (.iload_n 1, 1) := by decide +kernel
theorem zd_G_attackOnce_69 : decode zo_G_attackOnce 69 = .ok (.invokevirtual 63, 3) := by decide +kernel
theorem zd_G_attackOnce_72 : decode zo_G_attackOnce 72 = .ok (.istore_n 3, 1) := by decide +kernel
theorem zd_G_attackOnce_73 : decode zo_G_attackOnce 73 = .ok (.iload_n 3, 1) := by decide +kernel
theorem zd_G_attackOnce_74 : decode zo_G_attackOnce 74 = .ok (.iconst (-1), 1) := by decide +kernel
theorem zd_G_attackOnce_75 : decode zo_G_attackOnce 75 = .ok (.if_icmp .ne 5, 3) := by decide +kernel
theorem zd_G_attackOnce_78 : decode zo_G_attackOnce 78 = .ok (.iconst 0, 1) := by decide +kernel
theorem zd_G_attackOnce_79 : decode zo_G_attackOnce 79 = .ok (.ireturn, 1) := by decide +kernel
theorem zd_G_attackOnce_80 : decode zo_G_attackOnce 80 = .ok (.aload_n 0, 1) := by decide +kernel
theorem zd_G_attackOnce_81 : decode zo_G_attackOnce 81 = .ok (.aload_n 0, 1) := by decide +kernel
theorem zd_G_attackOnce_82 : decode zo_G_attackOnce 82 = .ok (.getfield 19, 3) := by decide +kernel
theorem zd_G_attackOnce_85 : decode zo_G_attackOnce 85 = .ok (.iconst 1, 1) := by decide +kernel
theorem zd_G_attackOnce_86 : decode zo_G_attackOnce 86 = .ok (.iload_n 2, 1) := by decide +kernel
theorem zd_G_attackOnce_87 : decode zo_G_attackOnce 87 = .ok (.isub, 1) := by decide +kernel
theorem zd_G_attackOnce_88 : decode zo_G_attackOnce 88 = .ok (.iaload, 1) := by decide +kernel
theorem zd_G_attackOnce_89 : decode zo_G_attackOnce 89 = .ok (.iload_n 3, 1) := by decide +kernel
theorem zd_G_attackOnce_90 : decode zo_G_attackOnce 90 = .ok (.invokevirtual 66, 3) := by decide +kernel
theorem zd_G_attackOnce_93 : decode zo_G_attackOnce 93 = .ok (.istore 4, 2) := by decide +kernel
theorem zd_G_attackOnce_95 : decode zo_G_attackOnce 95 = .ok (.aload_n 0, 1) := by decide +kernel
theorem zd_G_attackOnce_96 : decode zo_G_attackOnce 96 = .ok (.getfield 23, 3) := by decide +kernel
theorem zd_G_attackOnce_99 : decode zo_G_attackOnce 99 = .ok (.aload_n 0, 1) := by decide +kernel
theorem zd_G_attackOnce_100 : decode zo_G_attackOnce 100 = .ok (.getfield 55, 3) := by decide +kernel
theorem zd_G_attackOnce_103 : decode zo_G_attackOnce 103 = .ok (.iload_n 2, 1) := by decide +kernel
theorem zd_G_attackOnce_104 : decode zo_G_attackOnce 104 = .ok (.sipush 1000, 3) := by decide +kernel
theorem zd_G_attackOnce_107 : decode zo_G_attackOnce 107 = .ok (.imul, 1) := by decide +kernel
theorem zd_G_attackOnce_108 : decode zo_G_attackOnce 108 = .ok (.iload_n 3, 1) := by decide +kernel
theorem zd_G_attackOnce_109 : decode zo_G_attackOnce 109 = .ok (.iadd, 1) := by decide +kernel
theorem zd_G_attackOnce_110 : decode zo_G_attackOnce 110 = .ok (.iastore, 1) := by decide +kernel
theorem zd_G_attackOnce_111 : decode zo_G_attackOnce 111 = .ok (.aload_n 0, 1) := by decide +kernel
theorem zd_G_attackOnce_112 : decode zo_G_attackOnce 112 = .ok (.getfield 26, 3) := by decide +kernel
theorem zd_G_attackOnce_115 : decode zo_G_attackOnce 115 = .ok (.aload_n 0, 1) := by decide +kernel
theorem zd_G_attackOnce_116 : decode zo_G_attackOnce 116 = .ok (.getfield 55, 3) := by decide +kernel
theorem zd_G_attackOnce_119 : decode zo_G_attackOnce 119 = .ok (.iload 4, 2) := by decide +kernel
theorem zd_G_attackOnce_121 : decode zo_G_attackOnce 121 = .ok (.iastore, 1) := by decide +kernel
theorem zd_G_attackOnce_122 : decode zo_G_attackOnce 122 = .ok (.aload_n 0, 1) := by decide +kernel
theorem zd_G_attackOnce_123 : decode zo_G_attackOnce 123 = .ok (.dup, 1) := by decide +kernel
theorem zd_G_attackOnce_124 : decode zo_G_attackOnce 124 = .ok (.getfield 55, 3) := by decide +kernel
theorem zd_G_attackOnce_127 : decode zo_G_attackOnce 127 = .ok (.iconst 1, 1) := by decide +kernel
theorem zd_G_attackOnce_128 : decode zo_G_attackOnce 128 = .ok (.iadd, 1) := by decide +kernel
theorem zd_G_attackOnce_129 : decode zo_G_attackOnce 129 = .ok (.putfield 55, 3) := by decide +kernel
theorem zd_G_attackOnce_132 : decode zo_G_attackOnce 132 = .ok (.aload_n 0, 1) := by decide +kernel
theorem zd_G_attackOnce_133 : decode zo_G_attackOnce 133 = .ok (.getfield 19, 3) := by decide +kernel
theorem zd_G_attackOnce_136 : decode zo_G_attackOnce 136 = .ok (.iload_n 2, 1) := by decide +kernel
theorem zd_G_attackOnce_137 : decode zo_G_attackOnce 137 = .ok (.iload_n 3, 1) := by decide +kernel
theorem zd_G_attackOnce_138 : decode zo_G_attackOnce 138 = .ok (.bipush 100, 2) := by decide +kernel
theorem zd_G_attackOnce_140 : decode zo_G_attackOnce 140 = .ok (.irem, 1) := by decide +kernel
theorem zd_G_attackOnce_141 : decode zo_G_attackOnce 141 = .ok (.iastore, 1) := by decide +kernel
theorem zd_G_attackOnce_142 : decode zo_G_attackOnce 142 = .ok (.aload_n 0, 1) := by decide +kernel
theorem zd_G_attackOnce_143 : decode zo_G_attackOnce 143 = .ok (.getfield 19, 3) := by decide +kernel
theorem zd_G_attackOnce_146 : decode zo_G_attackOnce 146 = .ok (.iconst 1, 1) := by decide +kernel
theorem zd_G_attackOnce_147 : decode zo_G_attackOnce 147 = .ok (.iload_n 2, 1) := by decide +kernel
theorem zd_G_attackOnce_148 : decode zo_G_attackOnce 148 = .ok (.isub, 1) := by decide +kernel
theorem zd_G_attackOnce_149 : decode zo_G_attackOnce 149 = .ok (.iload 4, 2) := by decide +kernel
theorem zd_G_attackOnce_151 : decode zo_G_attackOnce 151 = .ok (.iastore, 1) := by decide +kernel
theorem zd_G_attackOnce_152 : decode zo_G_attackOnce 152 = .ok (.iload 4, 2) := by decide +kernel
theorem zd_G_attackOnce_154 : decode zo_G_attackOnce 154 = .ok (.iconst (-1), 1) := by decide +kernel
theorem zd_G_attackOnce_155 : decode zo_G_attackOnce 155 = .ok (.if_icmp .eq 7, 3) := by decide +kernel
theorem zd_G_attackOnce_158 : decode zo_G_attackOnce 158 = .ok (.iconst 1, 1) := by decide +kernel
theorem zd_G_attackOnce_159 : decode zo_G_attackOnce 159 = .ok (.goto 4, 3) := by decide +kernel
theorem zd_G_attackOnce_162 : decode zo_G_attackOnce 162 = .ok (.iconst 0, 1) := by decide +kernel
theorem zd_G_attackOnce_163 : decode zo_G_attackOnce 163 = .ok (.ireturn, 1) := by decide +kernel
theorem zd_G_firstOf_0 : decode zo_G_firstOf 0 = .ok (.iconst 0, 1) := by decide +kernel
theorem zd_G_firstOf_1 : decode zo_G_firstOf 1 = .ok (.istore 4, 2) := by decide +kernel
theorem zd_G_firstOf_3 : decode zo_G_firstOf 3 = .ok (.iload 4, 2) := by decide +kernel
theorem zd_G_firstOf_5 : decode zo_G_firstOf 5 = .ok (.iconst 4, 1) := by decide +kernel
theorem zd_G_firstOf_6 : decode zo_G_firstOf 6 = .ok (.if_icmp .ge 48, 3) := by decide +kernel
theorem zd_G_firstOf_9 : decode zo_G_firstOf 9 = .ok (.iconst 0, 1) := by decide +kernel
theorem zd_G_firstOf_10 : decode zo_G_firstOf 10 = .ok (.istore 5, 2) := by decide +kernel
theorem zd_G_firstOf_12 : decode zo_G_firstOf 12 = .ok (.iload 5, 2) := by decide +kernel
theorem zd_G_firstOf_14 : decode zo_G_firstOf 14 = .ok (.bipush 24, 2) := by decide +kernel
theorem zd_G_firstOf_16 : decode zo_G_firstOf 16 = .ok (.if_icmp .ge 32, 3) := by decide +kernel
theorem zd_G_firstOf_19 : decode zo_G_firstOf 19 = .ok (.aload_n 0, 1) := by decide +kernel
theorem zd_G_firstOf_20 : decode zo_G_firstOf 20 = .ok (.iload_n 1, 1) := by decide +kernel
theorem zd_G_firstOf_21 : decode zo_G_firstOf 21 = .ok (.iload_n 2, 1) := by decide +kernel
theorem zd_G_firstOf_22 : decode zo_G_firstOf 22 = .ok (.iload 4, 2) := by decide +kernel
theorem zd_G_firstOf_24 : decode zo_G_firstOf 24 = .ok (.iload 5, 2) := by decide +kernel
theorem zd_G_firstOf_26 : decode zo_G_firstOf 26 = .ok (.iload_n 3, 1) := by decide +kernel
theorem zd_G_firstOf_27 : decode zo_G_firstOf 27 = .ok (.invokevirtual 39, 3) := by decide +kernel
theorem zd_G_firstOf_30 : decode zo_G_firstOf 30 = .ok (.ifCond .eq 12, 3) := by decide +kernel
theorem zd_G_firstOf_33 : decode zo_G_firstOf 33 = .ok (.iload 4, 2) := by decide +kernel
theorem zd_G_firstOf_35 : decode zo_G_firstOf 35 = .ok (.bipush 100, 2) := by decide +kernel
theorem zd_G_firstOf_37 : decode zo_G_firstOf 37 = .ok (.imul, 1) := by decide +kernel
theorem zd_G_firstOf_38 : decode zo_G_firstOf 38 = .ok (.iload 5, 2) := by decide +kernel
theorem zd_G_firstOf_40 : decode zo_G_firstOf 40 = .ok (.iadd, 1) := by decide +kernel
theorem zd_G_firstOf_41 : decode zo_G_firstOf 41 = .ok (.ireturn, 1) := by decide +kernel
theorem zd_G_firstOf_42 : decode zo_G_firstOf 42 = .ok (.iinc 5 1, 3) := by decide +kernel
theorem zd_G_firstOf_45 : decode zo_G_firstOf 45 = .ok (.goto (-33), 3) := by decide +kernel
theorem zd_G_firstOf_48 : decode zo_G_firstOf 48 = .ok (.iinc 4 1, 3) := by decide +kernel
theorem zd_G_firstOf_51 : decode zo_G_firstOf 51 = .ok (.goto (-48), 3) := by decide +kernel
theorem zd_G_firstOf_54 : decode zo_G_firstOf 54 = .ok (.iconst (-1), 1) := by decide +kernel
theorem zd_G_firstOf_55 : decode zo_G_firstOf 55 = .ok (.ireturn, 1) := by decide +kernel
theorem zd_G_bestAnswer_0 : decode zo_G_bestAnswer 0 = .ok (.aload_n 0, 1) := by decide +kernel
theorem zd_G_bestAnswer_1 : decode zo_G_bestAnswer 1 = .ok (.getfield 9, 3) := by decide +kernel
theorem zd_G_bestAnswer_4 : decode zo_G_bestAnswer 4 = .ok (.iload_n 1, 1) := by decide +kernel
theorem zd_G_bestAnswer_5 : decode zo_G_bestAnswer 5 = .ok (.iload_n 2, 1) := by decide +kernel
theorem zd_G_bestAnswer_6 : decode zo_G_bestAnswer 6 = .ok (.bipush 100, 2) := by decide +kernel
theorem zd_G_bestAnswer_8 : decode zo_G_bestAnswer 8 = .ok (.idiv, 1) := by decide +kernel
theorem zd_G_bestAnswer_9 : decode zo_G_bestAnswer 9 = .ok (.invokevirtual 43, 3) := by decide +kernel
theorem zd_G_bestAnswer_12 : decode zo_G_bestAnswer 12 = .ok (.istore_n 3, 1) := by decide +kernel
theorem zd_G_bestAnswer_13 : decode zo_G_bestAnswer 13 = .ok (.iload_n 2, 1) := by decide +kernel
theorem zd_G_bestAnswer_14 : decode zo_G_bestAnswer 14 = .ok (.bipush 100, 2) := by decide +kernel
theorem zd_G_bestAnswer_16 : decode zo_G_bestAnswer 16 = .ok (.irem, 1) := by decide +kernel
theorem zd_G_bestAnswer_17 : decode zo_G_bestAnswer 17 = .ok (.istore 4, 2) := by decide +kernel
theorem zd_G_bestAnswer_19 : decode zo_G_bestAnswer 19 = .ok (.iconst (-1), 1) := by decide +kernel
theorem zd_G_bestAnswer_20 : decode zo_G_bestAnswer 20 = .ok (.istore 5, 2) := by decide +kernel
theorem zd_G_bestAnswer_22 : decode zo_G_bestAnswer 22 = .ok (.iconst (-1), 1) := by decide +kernel
theorem zd_G_bestAnswer_23 : decode zo_G_bestAnswer 23 = .ok (.istore 6, 2) := by decide +kernel
theorem zd_G_bestAnswer_25 : decode zo_G_bestAnswer 25 = .ok (.iconst 0, 1) := by decide +kernel
theorem zd_G_bestAnswer_26 : decode zo_G_bestAnswer 26 = .ok (.istore 7, 2) := by decide +kernel
theorem zd_G_bestAnswer_28 : decode zo_G_bestAnswer 28 = .ok (.iload 7, 2) := by decide +kernel
theorem zd_G_bestAnswer_30 : decode zo_G_bestAnswer 30 = .ok (.bipush 24, 2) := by decide +kernel
theorem zd_G_bestAnswer_32 : decode zo_G_bestAnswer 32 = .ok (.if_icmp .ge 50, 3) := by decide +kernel
theorem zd_G_bestAnswer_35 : decode zo_G_bestAnswer 35 = .ok (.iload_n 3, 1) := by decide +kernel
theorem zd_G_bestAnswer_36 : decode zo_G_bestAnswer 36 = .ok (.iload 7, 2) := by decide +kernel
theorem zd_G_bestAnswer_38 : decode zo_G_bestAnswer 38 = .ok (.invokestatic 48, 3) := by decide +kernel
theorem zd_G_bestAnswer_41 : decode zo_G_bestAnswer 41 = .ok (.ifCond .eq 17, 3) := by decide +kernel
theorem zd_G_bestAnswer_44 : decode zo_G_bestAnswer 44 = .ok (.aload_n 0, 1) := by decide +kernel
theorem zd_G_bestAnswer_45 : decode zo_G_bestAnswer 45 = .ok (.getfield 15, 3) := by decide +kernel
theorem zd_G_bestAnswer_48 : decode zo_G_bestAnswer 48 = .ok (.iload 4, 2) := by decide +kernel
theorem zd_G_bestAnswer_50 : decode zo_G_bestAnswer 50 = .ok (.iload 7, 2) := by decide +kernel
theorem zd_G_bestAnswer_52 : decode zo_G_bestAnswer 52 = .ok (.invokevirtual 29, 3) := by decide +kernel
theorem zd_G_bestAnswer_55 : decode zo_G_bestAnswer 55 = .ok (.goto 4, 3) := by decide +kernel
theorem zd_G_bestAnswer_58 : decode zo_G_bestAnswer 58 = .ok (.iconst (-1), 1) := by decide +kernel
theorem zd_G_bestAnswer_59 : decode zo_G_bestAnswer 59 = .ok (.istore 8, 2) := by decide +kernel
theorem zd_G_bestAnswer_61 : decode zo_G_bestAnswer 61 = .ok (.iload 8, 2) := by decide +kernel
theorem zd_G_bestAnswer_63 : decode zo_G_bestAnswer 63 = .ok (.iload 6, 2) := by decide +kernel
theorem zd_G_bestAnswer_65 : decode zo_G_bestAnswer 65 = .ok (.if_icmp .le 11, 3) := by decide +kernel
theorem zd_G_bestAnswer_68 : decode zo_G_bestAnswer 68 = .ok (.iload 7, 2) := by decide +kernel
theorem zd_G_bestAnswer_70 : decode zo_G_bestAnswer 70 = .ok (.istore 5, 2) := by decide +kernel
theorem zd_G_bestAnswer_72 : decode zo_G_bestAnswer 72 = .ok (.iload 8, 2) := by decide +kernel
theorem zd_G_bestAnswer_74 : decode zo_G_bestAnswer 74 = .ok (.istore 6, 2) := by decide +kernel
theorem zd_G_bestAnswer_76 : decode zo_G_bestAnswer 76 = .ok (.iinc 7 1, 3) := by decide +kernel
theorem zd_G_bestAnswer_79 : decode zo_G_bestAnswer 79 = .ok (.goto (-51), 3) := by decide +kernel
theorem zd_G_bestAnswer_82 : decode zo_G_bestAnswer 82 = .ok (.iload 5, 2) := by decide +kernel
theorem zd_G_bestAnswer_84 : decode zo_G_bestAnswer 84 = .ok (.ireturn, 1) := by decide +kernel
theorem zd_G_attackAt_0 : decode zo_G_attackAt 0 = .ok (.aload_n 0, 1) := by decide +kernel
theorem zd_G_attackAt_1 : decode zo_G_attackAt 1 = .ok (.getfield 23, 3) := by decide +kernel
theorem zd_G_attackAt_4 : decode zo_G_attackAt 4 = .ok (.iload_n 1, 1) := by decide +kernel
theorem zd_G_attackAt_5 : decode zo_G_attackAt 5 = .ok (.iaload, 1) := by decide +kernel
theorem zd_G_attackAt_6 : decode zo_G_attackAt 6 = .ok (.ireturn, 1) := by decide +kernel
theorem zd_G_answerAt_0 : decode zo_G_answerAt 0 = .ok (.aload_n 0, 1) := by decide +kernel
theorem zd_G_answerAt_1 : decode zo_G_answerAt 1 = .ok (.getfield 26, 3) := by decide +kernel
theorem zd_G_answerAt_4 : decode zo_G_answerAt 4 = .ok (.iload_n 1, 1) := by decide +kernel
theorem zd_G_answerAt_5 : decode zo_G_answerAt 5 = .ok (.iaload, 1) := by decide +kernel
theorem zd_G_answerAt_6 : decode zo_G_answerAt 6 = .ok (.ireturn, 1) := by decide +kernel
