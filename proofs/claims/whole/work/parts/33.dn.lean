theorem zd_M_attacks_0 : decode zo_M_attacks 0 = .ok (.aload_n 0, 1) := by decide +kernel
theorem zd_M_attacks_1 : decode zo_M_attacks 1 = .ok (.invokevirtual 79, 3) := by decide +kernel
theorem zd_M_attacks_4 : decode zo_M_attacks 4 = .ok (.iconst 0, 1) := by decide +kernel
theorem zd_M_attacks_5 : decode zo_M_attacks 5 = .ok (.istore_n 3, 1) := by decide +kernel
theorem zd_M_attacks_6 : decode zo_M_attacks 6 = .ok (.iconst 0, 1) := by decide +kernel
theorem zd_M_attacks_7 : decode zo_M_attacks 7 = .ok (.istore 4, 2) := by decide +kernel
theorem zd_M_attacks_9 : decode zo_M_attacks 9 = .ok (.iload 4, 2) := by decide +kernel
theorem zd_M_attacks_11 : decode zo_M_attacks 11 = .ok (.bipush 96, 2) := by decide +kernel
theorem zd_M_attacks_13 : decode zo_M_attacks 13 = .ok (.if_icmp .ge 75, 3) := by decide +kernel
theorem zd_M_attacks_16 : decode zo_M_attacks 16 = .ok (.aload_n 0, 1) := by decide +kernel
theorem zd_M_attacks_17 : decode zo_M_attacks 17 = .ok (.iload_n 1, 1) := by decide +kernel
theorem zd_M_attacks_18 : decode zo_M_attacks 18 = .ok (.iload_n 2, 1) := by decide +kernel
theorem zd_M_attacks_19 : decode zo_M_attacks 19 = .ok (.invokevirtual 86, 3) := by decide +kernel
theorem zd_M_attacks_22 : decode zo_M_attacks 22 = .ok (.ifCond .eq 66, 3) := by decide +kernel
theorem zd_M_attacks_25 : decode zo_M_attacks 25 = .ok (.aload_n 0, 1) := by decide +kernel
theorem zd_M_attacks_26 : decode zo_M_attacks 26 = .ok (.getfield 17, 3) := by decide +kernel
theorem zd_M_attacks_29 : decode zo_M_attacks 29 = .ok (.bipush 24, 2) := by decide +kernel
theorem zd_M_attacks_31 : decode zo_M_attacks 31 = .ok (.iload_n 1, 1) := by decide +kernel
theorem zd_M_attacks_32 : decode zo_M_attacks 32 = .ok (.imul, 1) := by decide +kernel
theorem zd_M_attacks_33 : decode zo_M_attacks 33 = .ok (.iload_n 2, 1) := by decide +kernel
theorem zd_M_attacks_34 : decode zo_M_attacks 34 = .ok (.iadd, 1) := by decide +kernel
theorem zd_M_attacks_35 : decode zo_M_attacks 35 = .ok (.iaload, 1) := by decide +kernel
theorem zd_M_attacks_36 : decode zo_M_attacks 36 = .ok (.iconst 1, 1) := by decide +kernel
theorem zd_M_attacks_37 : decode zo_M_attacks 37 = .ok (.isub, 1) := by decide +kernel
theorem zd_M_attacks_38 : decode zo_M_attacks 38 = .ok (.istore 5, 2) := by decide +kernel
theorem zd_M_attacks_40 : decode zo_M_attacks 40 = .ok (.aload_n 0, 1) := by decide +kernel
theorem zd_M_attacks_41 : decode zo_M_attacks 41 = .ok (.iload_n 1, 1) := by decide +kernel
theorem zd_M_attacks_42 : decode zo_M_attacks 42 = .ok (.iload_n 2, 1) := by decide +kernel
theorem zd_M_attacks_43 : decode zo_M_attacks 43 = .ok (.iload 4, 2) := by decide +kernel
theorem zd_M_attacks_45 : decode zo_M_attacks 45 = .ok (.iload 5, 2) := by decide +kernel
theorem zd_M_attacks_47 : decode zo_M_attacks 47 = .ok (.invokevirtual 89, 3) := by decide +kernel
theorem zd_M_attacks_50 : decode zo_M_attacks 50 = .ok (.ifCond .eq 9, 3) := by decide +kernel
theorem zd_M_attacks_53 : decode zo_M_attacks 53 = .ok (.iload_n 3, 1) := by decide +kernel
theorem zd_M_attacks_54 : decode zo_M_attacks 54 = .ok (.iconst 1, 1) := by decide +kernel
theorem zd_M_attacks_55 : decode zo_M_attacks 55 = .ok (.iadd, 1) := by decide +kernel
theorem zd_M_attacks_56 : decode zo_M_attacks 56 = .ok (.goto 4, 3) := by decide +kernel
theorem zd_M_attacks_59 : decode zo_M_attacks 59 = .ok (.iload_n 3, 1) := by decide +kernel
theorem zd_M_attacks_60 : decode zo_M_attacks 60 = .ok (.istore_n 3, 1) := by decide +kernel
theorem zd_M_attacks_61 : decode zo_M_attacks 61 = .ok (.aload_n 0, 1) := by decide +kernel
theorem zd_M_attacks_62 : decode zo_M_attacks 62 = .ok (.iload_n 2, 1) := by decide +kernel
theorem zd_M_attacks_63 : decode zo_M_attacks 63 = .ok (.iload_n 1, 1) := by decide +kernel
theorem zd_M_attacks_64 : decode zo_M_attacks 64 = .ok (.iload 4, 2) := by decide +kernel
theorem zd_M_attacks_66 : decode zo_M_attacks 66 = .ok (.iload 5, 2) := by decide +kernel
theorem zd_M_attacks_68 : decode zo_M_attacks 68 = .ok (.invokevirtual 89, 3) := by decide +kernel
theorem zd_M_attacks_71 : decode zo_M_attacks 71 = .ok (.ifCond .eq 9, 3) := by decide +kernel
theorem zd_M_attacks_74 : decode zo_M_attacks 74 = .ok (.iload_n 3, 1) := by decide +kernel
theorem zd_M_attacks_75 : decode zo_M_attacks 75 = .ok (.iconst 1, 1) := by decide +kernel
theorem zd_M_attacks_76 : decode zo_M_attacks 76 = .ok (.iadd, 1) := by decide +kernel
theorem zd_M_attacks_77 : decode zo_M_attacks 77 = .ok (.goto 4, 3) := by decide +kernel
theorem zd_M_attacks_80 : decode zo_M_attacks 80 = .ok (.iload_n 3, 1) := by decide +kernel
theorem zd_M_attacks_81 : decode zo_M_attacks 81 = .ok (.istore_n 3, 1) := by decide +kernel
theorem zd_M_attacks_82 : decode zo_M_attacks 82 = .ok (.iinc 4 1, 3) := by decide +kernel
theorem zd_M_attacks_85 : decode zo_M_attacks 85 = .ok (.goto (-76), 3) := by decide +kernel
theorem zd_M_attacks_88 : decode zo_M_attacks 88 = .ok (.iload_n 3, 1) := by decide +kernel
theorem zd_M_attacks_89 : decode zo_M_attacks 89 = .ok (.ireturn, 1) := by decide +kernel
theorem zd_M_isPlayed_0 : decode zo_M_isPlayed 0 = .ok (.iload_n 1, 1) := by decide +kernel
theorem zd_M_isPlayed_1 : decode zo_M_isPlayed 1 = .ok (.invokestatic 35, 3) := by decide +kernel
theorem zd_M_isPlayed_4 : decode zo_M_isPlayed 4 = .ok (.ifCond .eq 37, 3) := by decide +kernel
theorem zd_M_isPlayed_7 : decode zo_M_isPlayed 7 = .ok (.iload_n 2, 1) := by decide +kernel
theorem zd_M_isPlayed_8 : decode zo_M_isPlayed 8 = .ok (.invokestatic 35, 3) := by decide +kernel
theorem zd_M_isPlayed_11 : decode zo_M_isPlayed 11 = .ok (.ifCond .eq 30, 3) := by decide +kernel
theorem zd_M_isPlayed_14 : decode zo_M_isPlayed 14 = .ok (.aload_n 0, 1) := by decide +kernel
theorem zd_M_isPlayed_15 : decode zo_M_isPlayed 15 = .ok (.iload_n 1, 1) := by decide +kernel
theorem zd_M_isPlayed_16 : decode zo_M_isPlayed 16 = .ok (.iload_n 2, 1) := by decide +kernel
theorem zd_M_isPlayed_17 : decode zo_M_isPlayed 17 = .ok (.invokevirtual 67, 3) := by decide +kernel
theorem zd_M_isPlayed_20 : decode zo_M_isPlayed 20 = .ok (.ifCond .ne 21, 3) := by decide +kernel
theorem zd_M_isPlayed_23 : decode zo_M_isPlayed 23 = .ok (.aload_n 0, 1) := by decide +kernel
theorem zd_M_isPlayed_24 : decode zo_M_isPlayed 24 = .ok (.getfield 17, 3) := by decide +kernel
theorem zd_M_isPlayed_27 : decode zo_M_isPlayed 27 = .ok (.bipush 24, 2) := by decide +kernel
theorem zd_M_isPlayed_29 : decode zo_M_isPlayed 29 = .ok (.iload_n 1, 1) := by decide +kernel
theorem zd_M_isPlayed_30 : decode zo_M_isPlayed 30 = .ok (.imul, 1) := by decide +kernel
theorem zd_M_isPlayed_31 : decode zo_M_isPlayed 31 = .ok (.iload_n 2, 1) := by decide +kernel
theorem zd_M_isPlayed_32 : decode zo_M_isPlayed 32 = .ok (.iadd, 1) := by decide +kernel
theorem zd_M_isPlayed_33 : decode zo_M_isPlayed 33 = .ok (.iaload, 1) := by decide +kernel
theorem zd_M_isPlayed_34 : decode zo_M_isPlayed 34 = .ok (.ifCond .le 7, 3) := by decide +kernel
theorem zd_M_isPlayed_37 : decode zo_M_isPlayed 37 = .ok (.iconst 1, 1) := by decide +kernel
theorem zd_M_isPlayed_38 : decode zo_M_isPlayed 38 = .ok (.goto 4, 3) := by decide +kernel
theorem zd_M_isPlayed_41 : decode zo_M_isPlayed 41 = .ok (.iconst 0, 1) := by decide +kernel
theorem zd_M_isPlayed_42 : decode zo_M_isPlayed 42 = .ok (.ireturn, 1) := by decide +kernel
theorem zd_M_firstAttack_0 : decode zo_M_firstAttack 0 = .ok (.aload_n 0, 1) := by decide +kernel
theorem zd_M_firstAttack_1 : decode zo_M_firstAttack 1 = .ok (.getfield 17, 3) := by decide +kernel
theorem zd_M_firstAttack_4 : decode zo_M_firstAttack 4 = .ok (.bipush 24, 2) := by decide +kernel
theorem zd_M_firstAttack_6 : decode zo_M_firstAttack 6 = .ok (.iload_n 1, 1) := by decide +kernel
theorem zd_M_firstAttack_7 : decode zo_M_firstAttack 7 = .ok (.imul, 1) := by decide +kernel
theorem zd_M_firstAttack_8 : decode zo_M_firstAttack 8 = .ok (.iload_n 2, 1) := by decide +kernel
theorem zd_M_firstAttack_9 : decode zo_M_firstAttack 9 = .ok (.iadd, 1) := by decide +kernel
theorem zd_M_firstAttack_10 : decode zo_M_firstAttack 10 = .ok (.iaload, 1) := by decide +kernel
theorem zd_M_firstAttack_11 : decode zo_M_firstAttack 11 = .ok (.iconst 1, 1) := by decide +kernel
theorem zd_M_firstAttack_12 : decode zo_M_firstAttack 12 = .ok (.isub, 1) := by decide +kernel
theorem zd_M_firstAttack_13 : decode zo_M_firstAttack 13 = .ok (.istore_n 3, 1) := by decide +kernel
theorem zd_M_firstAttack_14 : decode zo_M_firstAttack 14 = .ok (.iconst 0, 1) := by decide +kernel
theorem zd_M_firstAttack_15 : decode zo_M_firstAttack 15 = .ok (.istore 4, 2) := by decide +kernel
theorem zd_M_firstAttack_17 : decode zo_M_firstAttack 17 = .ok (.iload 4, 2) := by decide +kernel
theorem zd_M_firstAttack_19 : decode zo_M_firstAttack 19 = .ok (.sipush 192, 3) := by decide +kernel
theorem zd_M_firstAttack_22 : decode zo_M_firstAttack 22 = .ok (.if_icmp .ge 49, 3) := by decide +kernel
theorem zd_M_firstAttack_25 : decode zo_M_firstAttack 25 = .ok (.iload 4, 2) := by decide +kernel
theorem zd_M_firstAttack_27 : decode zo_M_firstAttack 27 = .ok (.bipush 96, 2) := by decide +kernel
theorem zd_M_firstAttack_29 : decode zo_M_firstAttack 29 = .ok (.if_icmp .ge 18, 3) := by decide +kernel
theorem zd_M_firstAttack_32 : decode zo_M_firstAttack 32 = .ok (.aload_n 0, 1) := by decide +kernel
theorem zd_M_firstAttack_33 : decode zo_M_firstAttack 33 = .ok (.iload_n 1, 1) := by decide +kernel
theorem zd_M_firstAttack_34 : decode zo_M_firstAttack 34 = .ok (.iload_n 2, 1) := by decide +kernel
theorem zd_M_firstAttack_35 : decode zo_M_firstAttack 35 = .ok (.iload 4, 2) := by decide +kernel
theorem zd_M_firstAttack_37 : decode zo_M_firstAttack 37 = .ok (.iload_n 3, 1) := by decide +kernel
theorem zd_M_firstAttack_38 : decode zo_M_firstAttack 38 = .ok (.invokevirtual 89, 3) := by decide +kernel
theorem zd_M_firstAttack_41 : decode zo_M_firstAttack 41 = .ok (.ifCond .eq 21, 3) := by decide +kernel
theorem zd_M_firstAttack_44 : decode zo_M_firstAttack 44 = .ok (.goto 27, 3) := by decide +kernel
theorem zd_M_firstAttack_47 : decode zo_M_firstAttack 47 = .ok (.aload_n 0, 1) := by decide +kernel
theorem zd_M_firstAttack_48 : decode zo_M_firstAttack 48 = .ok (.iload_n 2, 1) := by decide +kernel
theorem zd_M_firstAttack_49 : decode zo_M_firstAttack 49 = .ok (.iload_n 1, 1) := by decide +kernel
theorem zd_M_firstAttack_50 : decode zo_M_firstAttack 50 = .ok (.iload 4, 2) := by decide +kernel
theorem zd_M_firstAttack_52 : decode zo_M_firstAttack 52 = .ok (.bipush 96, 2) := by decide +kernel
theorem zd_M_firstAttack_54 : decode zo_M_firstAttack 54 = .ok (.isub, 1) := by decide +kernel
theorem zd_M_firstAttack_55 : decode zo_M_firstAttack 55 = .ok (.iload_n 3, 1) := by decide +kernel
theorem zd_M_firstAttack_56 : decode zo_M_firstAttack 56 = .ok (.invokevirtual 89, 3) := by decide +kernel
theorem zd_M_firstAttack_59 : decode zo_M_firstAttack 59 = .ok (.ifCond .ne 12, 3) := by decide +kernel
theorem zd_M_firstAttack_62 : decode zo_M_firstAttack 62 = .ok (.iload 4, 2) := by decide +kernel
theorem zd_M_firstAttack_64 : decode zo_M_firstAttack 64 = .ok (.iconst 1, 1) := by decide +kernel
theorem zd_M_firstAttack_65 : decode zo_M_firstAttack 65 = .ok (.iadd, 1) := by decide +kernel
theorem zd_M_firstAttack_66 : decode zo_M_firstAttack 66 = .ok (.istore 4, 2) := by decide +kernel
theorem zd_M_firstAttack_68 : decode zo_M_firstAttack 68 = .ok (.goto (-51), 3) := by decide +kernel
theorem zd_M_firstAttack_71 : decode zo_M_firstAttack 71 = .ok (.iload 4, 2) := by decide +kernel
theorem zd_M_firstAttack_73 : decode zo_M_firstAttack 73 = .ok (.ireturn, 1) := by decide +kernel
theorem zd_M_answerOf_0 : decode zo_M_answerOf 0 = .ok (.iconst (-1), 1) := by decide +kernel
theorem zd_M_answerOf_1 : decode zo_M_answerOf 1 = .ok (.istore 4, 2) := by decide +kernel
theorem zd_M_answerOf_3 : decode zo_M_answerOf 3 = .ok (.iconst 0, 1) := by decide +kernel
theorem zd_M_answerOf_4 : decode zo_M_answerOf 4 = .ok (.istore 5, 2) := by decide +kernel
theorem zd_M_answerOf_6 : decode zo_M_answerOf 6 = .ok (.iload 5, 2) := by decide +kernel
theorem zd_M_answerOf_8 : decode zo_M_answerOf 8 = .ok (.bipush 24, 2) := by decide +kernel
theorem zd_M_answerOf_10 : decode zo_M_answerOf 10 = .ok (.if_icmp .ge 73, 3) := by decide +kernel
theorem zd_M_answerOf_13 : decode zo_M_answerOf 13 = .ok (.aload_n 0, 1) := by decide +kernel
theorem zd_M_answerOf_14 : decode zo_M_answerOf 14 = .ok (.iload_n 1, 1) := by decide +kernel
theorem zd_M_answerOf_15 : decode zo_M_answerOf 15 = .ok (.iload_n 2, 1) := by decide +kernel
theorem zd_M_answerOf_16 : decode zo_M_answerOf 16 = .ok (.iload 5, 2) := by decide +kernel
theorem zd_M_answerOf_18 : decode zo_M_answerOf 18 = .ok (.invokevirtual 42, 3) := by decide +kernel
theorem zd_M_answerOf_21 : decode zo_M_answerOf 21 = .ok (.ifCond .eq 39, 3) := by decide +kernel
theorem zd_M_answerOf_24 : decode zo_M_answerOf 24 = .ok (.iload 4, 2) := by decide +kernel
theorem zd_M_answerOf_26 : decode zo_M_answerOf 26 = .ok (.ifCond .lt 30, 3) := by decide +kernel
theorem zd_M_answerOf_29 : decode zo_M_answerOf 29 = .ok (.aload_n 0, 1) := by decide +kernel
theorem zd_M_answerOf_30 : decode zo_M_answerOf 30 = .ok (.getfield 17, 3) := by decide +kernel
theorem zd_M_answerOf_33 : decode zo_M_answerOf 33 = .ok (.bipush 24, 2) := by decide +kernel
theorem zd_M_answerOf_35 : decode zo_M_answerOf 35 = .ok (.iload_n 3, 1) := by decide +kernel
theorem zd_M_answerOf_36 : decode zo_M_answerOf 36 = .ok (.imul, 1) := by decide +kernel
theorem zd_M_answerOf_37 : decode zo_M_answerOf 37 = .ok (.iload 5, 2) := by decide +kernel
theorem zd_M_answerOf_39 : decode zo_M_answerOf 39 = .ok (.iadd, 1) := by decide +kernel
theorem zd_M_answerOf_40 : decode zo_M_answerOf 40 = .ok (.iaload, 1) := by decide +kernel
theorem zd_M_answerOf_41 : decode zo_M_answerOf 41 = .ok (.aload_n 0, 1) := by decide +kernel
theorem zd_M_answerOf_42 : decode zo_M_answerOf 42 = .ok (.getfield 17, 3) := by decide +kernel
theorem zd_M_answerOf_45 : decode zo_M_answerOf 45 = .ok (.bipush 24, 2) := by decide +kernel
theorem zd_M_answerOf_47 : decode zo_M_answerOf 47 = .ok (.iload_n 3, 1) := by decide +kernel
theorem zd_M_answerOf_48 : decode zo_M_answerOf 48 = .ok (.imul, 1) := by decide +kernel
theorem zd_M_answerOf_49 : decode zo_M_answerOf 49 = .ok (.iload 4, 2) := by decide +kernel
theorem zd_M_answerOf_51 : decode zo_M_answerOf 51 = .ok (.iadd, 1) := by decide +kernel
theorem zd_M_answerOf_52 : decode zo_M_answerOf 52 = .ok (.iaload, 1) := by decide +kernel
theorem zd_M_answerOf_53 : decode zo_M_answerOf 53 = .ok (.if_icmp .le 7, 3) := by decide +kernel
theorem zd_M_answerOf_56 : decode zo_M_answerOf 56 = .ok (.iconst 1, 1) := by decide +kernel
theorem zd_M_answerOf_57 : decode zo_M_answerOf 57 = .ok (.goto 4, 3) := by decide +kernel
theorem zd_M_answerOf_60 : decode zo_M_answerOf 60 = .ok (.iconst 0, 1) := by decide +kernel
theorem zd_M_answerOf_61 : decode zo_M_answerOf 61 = .ok (.istore 6, 2) := by decide +kernel
theorem zd_M_answerOf_63 : decode zo_M_answerOf 63 = .ok (.iload 6, 2) := by decide +kernel
theorem zd_M_answerOf_65 : decode zo_M_answerOf 65 = .ok (.ifCond .eq 8, 3) := by decide +kernel
theorem zd_M_answerOf_68 : decode zo_M_answerOf 68 = .ok (.iload 5, 2) := by decide +kernel
theorem zd_M_answerOf_70 : decode zo_M_answerOf 70 = .ok (.goto 5, 3) := by decide +kernel
theorem zd_M_answerOf_73 : decode zo_M_answerOf 73 = .ok (.iload 4, 2) := by decide +kernel
theorem zd_M_answerOf_75 : decode zo_M_answerOf 75 = .ok (.istore 4, 2) := by decide +kernel
theorem zd_M_answerOf_77 : decode zo_M_answerOf 77 = .ok (.iinc 5 1, 3) := by decide +kernel
theorem zd_M_answerOf_80 : decode zo_M_answerOf 80 = .ok (.goto (-74), 3) := by decide +kernel
theorem zd_M_answerOf_83 : decode zo_M_answerOf 83 = .ok (.iload 4, 2) := by decide +kernel
theorem zd_M_answerOf_85 : decode zo_M_answerOf 85 = .ok (.ireturn, 1) := by decide +kernel
