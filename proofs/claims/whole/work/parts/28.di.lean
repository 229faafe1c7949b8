theorem zd_M_init_0 : decode zo_M_init 0 = .ok (.aload_n 0, 1) := by decide +kernel
theorem zd_M_init_1 : decode zo_M_init 1 = .ok (.invokespecial 1, 3) := by decide +kernel
theorem zd_M_init_4 : decode zo_M_init 4 = .ok (.aload_n 0, 1) := by decide +kernel
theorem zd_M_init_5 : decode zo_M_init 5 = .ok (.sipush 2304, 3) := by decide +kernel
theorem zd_M_init_8 : decode zo_M_init 8 = .ok (.newarray .boolean, 2) := by decide +kernel
theorem zd_M_init_10 : decode zo_M_init 10 = .ok (.putfield 7, 3) := by decide +kernel
theorem zd_M_init_13 : decode zo_M_init 13 = .ok (.aload_n 0, 1) := by decide +kernel
theorem zd_M_init_14 : decode zo_M_init 14 = .ok (.bipush 24, 2) := by decide +kernel
theorem zd_M_init_16 : decode zo_M_init 16 = .ok (.newarray .int, 2) := by decide +kernel
theorem zd_M_init_18 : decode zo_M_init 18 = .ok (.putfield 13, 3) := by decide +kernel
theorem zd_M_init_21 : decode zo_M_init 21 = .ok (.aload_n 0, 1) := by decide +kernel
theorem zd_M_init_22 : decode zo_M_init 22 = .ok (.sipush 576, 3) := by decide +kernel
theorem zd_M_init_25 : decode zo_M_init 25 = .ok (.newarray .int, 2) := by decide +kernel
theorem zd_M_init_27 : decode zo_M_init 27 = .ok (.putfield 17, 3) := by decide +kernel
theorem zd_M_init_30 : decode zo_M_init 30 = .ok (.aload_n 0, 1) := by decide +kernel
theorem zd_M_init_31 : decode zo_M_init 31 = .ok (.sipush 576, 3) := by decide +kernel
theorem zd_M_init_34 : decode zo_M_init 34 = .ok (.newarray .boolean, 2) := by decide +kernel
theorem zd_M_init_36 : decode zo_M_init 36 = .ok (.putfield 20, 3) := by decide +kernel
theorem zd_M_init_39 : decode zo_M_init 39 = .ok (.aload_n 0, 1) := by decide +kernel
theorem zd_M_init_40 : decode zo_M_init 40 = .ok (.sipush 576, 3) := by decide +kernel
theorem zd_M_init_43 : decode zo_M_init 43 = .ok (.newarray .boolean, 2) := by decide +kernel
theorem zd_M_init_45 : decode zo_M_init 45 = .ok (.putfield 23, 3) := by decide +kernel
theorem zd_M_init_48 : decode zo_M_init 48 = .ok (.aload_n 0, 1) := by decide +kernel
theorem zd_M_init_49 : decode zo_M_init 49 = .ok (.bipush 24, 2) := by decide +kernel
theorem zd_M_init_51 : decode zo_M_init 51 = .ok (.newarray .int, 2) := by decide +kernel
theorem zd_M_init_53 : decode zo_M_init 53 = .ok (.putfield 26, 3) := by decide +kernel
theorem zd_M_init_56 : decode zo_M_init 56 = .ok (.aload_n 0, 1) := by decide +kernel
theorem zd_M_init_57 : decode zo_M_init 57 = .ok (.sipush 600, 3) := by decide +kernel
theorem zd_M_init_60 : decode zo_M_init 60 = .ok (.newarray .int, 2) := by decide +kernel
theorem zd_M_init_62 : decode zo_M_init 62 = .ok (.putfield 29, 3) := by decide +kernel
theorem zd_M_init_65 : decode zo_M_init 65 = .ok (.aload_n 0, 1) := by decide +kernel
theorem zd_M_init_66 : decode zo_M_init 66 = .ok (.sipush 600, 3) := by decide +kernel
theorem zd_M_init_69 : decode zo_M_init 69 = .ok (.newarray .int, 2) := by decide +kernel
theorem zd_M_init_71 : decode zo_M_init 71 = .ok (.putfield 32, 3) := by decide +kernel
theorem zd_M_init_74 : decode zo_M_init 74 = .ok (.return_, 1) := by decide +kernel
theorem zd_M_isState_0 : decode zo_M_isState 0 = .ok (.iload_n 0, 1) := by decide +kernel
theorem zd_M_isState_1 : decode zo_M_isState 1 = .ok (.ifCond .lt 13, 3) := by decide +kernel
theorem zd_M_isState_4 : decode zo_M_isState 4 = .ok (.iload_n 0, 1) := by decide +kernel
theorem zd_M_isState_5 : decode zo_M_isState 5 = .ok (.bipush 24, 2) := by decide +kernel
theorem zd_M_isState_7 : decode zo_M_isState 7 = .ok (.if_icmp .ge 7, 3) := by decide +kernel
theorem zd_M_isState_10 : decode zo_M_isState 10 = .ok (.iconst 1, 1) := by decide +kernel
theorem zd_M_isState_11 : decode zo_M_isState 11 = .ok (.goto 4, 3) := by decide +kernel
theorem zd_M_isState_14 : decode zo_M_isState 14 = .ok (.iconst 0, 1) := by decide +kernel
theorem zd_M_isState_15 : decode zo_M_isState 15 = .ok (.ireturn, 1) := by decide +kernel
theorem zd_M_isLabel_0 : decode zo_M_isLabel 0 = .ok (.iload_n 0, 1) := by decide +kernel
theorem zd_M_isLabel_1 : decode zo_M_isLabel 1 = .ok (.ifCond .lt 12, 3) := by decide +kernel
theorem zd_M_isLabel_4 : decode zo_M_isLabel 4 = .ok (.iload_n 0, 1) := by decide +kernel
theorem zd_M_isLabel_5 : decode zo_M_isLabel 5 = .ok (.iconst 4, 1) := by decide +kernel
theorem zd_M_isLabel_6 : decode zo_M_isLabel 6 = .ok (.if_icmp .ge 7, 3) := by decide +kernel
theorem zd_M_isLabel_9 : decode zo_M_isLabel 9 = .ok (.iconst 1, 1) := by decide +kernel
theorem zd_M_isLabel_10 : decode zo_M_isLabel 10 = .ok (.goto 4, 3) := by decide +kernel
theorem zd_M_isLabel_13 : decode zo_M_isLabel 13 = .ok (.iconst 0, 1) := by decide +kernel
theorem zd_M_isLabel_14 : decode zo_M_isLabel 14 = .ok (.ireturn, 1) := by decide +kernel
theorem zd_M_has_0 : decode zo_M_has 0 = .ok (.aload_n 0, 1) := by decide +kernel
theorem zd_M_has_1 : decode zo_M_has 1 = .ok (.getfield 7, 3) := by decide +kernel
theorem zd_M_has_4 : decode zo_M_has 4 = .ok (.bipush 96, 2) := by decide +kernel
theorem zd_M_has_6 : decode zo_M_has 6 = .ok (.iload_n 1, 1) := by decide +kernel
theorem zd_M_has_7 : decode zo_M_has 7 = .ok (.imul, 1) := by decide +kernel
theorem zd_M_has_8 : decode zo_M_has 8 = .ok (.bipush 24, 2) := by decide +kernel
theorem zd_M_has_10 : decode zo_M_has 10 = .ok (.iload_n 2, 1) := by decide +kernel
theorem zd_M_has_11 : decode zo_M_has 11 = .ok (.imul, 1) := by decide +kernel
theorem zd_M_has_12 : decode zo_M_has 12 = .ok (.iadd, 1) := by decide +kernel
theorem zd_M_has_13 : decode zo_M_has 13 = .ok (.iload_n 3, 1) := by decide +kernel
theorem zd_M_has_14 : decode zo_M_has 14 = .ok (.iadd, 1) := by decide +kernel
theorem zd_M_has_15 : decode zo_M_has 15 = .ok (.baload, 1) := by decide +kernel
theorem zd_M_has_16 : decode zo_M_has 16 = .ok (.ireturn, 1) := by decide +kernel
theorem zd_M_moves_0 : decode zo_M_moves 0 = .ok (.aload_n 0, 1) := by decide +kernel
theorem zd_M_moves_1 : decode zo_M_moves 1 = .ok (.getfield 46, 3) := by decide +kernel
theorem zd_M_moves_4 : decode zo_M_moves 4 = .ok (.ireturn, 1) := by decide +kernel
theorem zd_M_follows_0 : decode zo_M_follows 0 = .ok (.iconst 1, 1) := by decide +kernel
theorem zd_M_follows_1 : decode zo_M_follows 1 = .ok (.istore 4, 2) := by decide +kernel
theorem zd_M_follows_3 : decode zo_M_follows 3 = .ok (.iconst 0, 1) := by decide +kernel
theorem zd_M_follows_4 : decode zo_M_follows 4 = .ok (.istore 5, 2) := by decide +kernel
theorem zd_M_follows_6 : decode zo_M_follows 6 = .ok (.iload 5, 2) := by decide +kernel
theorem zd_M_follows_8 : decode zo_M_follows 8 = .ok (.bipush 96, 2) := by decide +kernel
theorem zd_M_follows_10 : decode zo_M_follows 10 = .ok (.if_icmp .ge 55, 3) := by decide +kernel
theorem zd_M_follows_13 : decode zo_M_follows 13 = .ok (.iload 4, 2) := by decide +kernel
theorem zd_M_follows_15 : decode zo_M_follows 15 = .ok (.ifCond .eq 41, 3) := by decide +kernel
theorem zd_M_follows_18 : decode zo_M_follows 18 = .ok (.aload_n 0, 1) := by decide +kernel
theorem zd_M_follows_19 : decode zo_M_follows 19 = .ok (.getfield 7, 3) := by decide +kernel
theorem zd_M_follows_22 : decode zo_M_follows 22 = .ok (.bipush 96, 2) := by decide +kernel
theorem zd_M_follows_24 : decode zo_M_follows 24 = .ok (.iload_n 1, 1) := by decide +kernel
theorem zd_M_follows_25 : decode zo_M_follows 25 = .ok (.imul, 1) := by decide +kernel
theorem zd_M_follows_26 : decode zo_M_follows 26 = .ok (.iload 5, 2) := by decide +kernel
theorem zd_M_follows_28 : decode zo_M_follows 28 = .ok (.iadd, 1) := by decide +kernel
theorem zd_M_follows_29 : decode zo_M_follows 29 = .ok (.baload, 1) := by decide +kernel
theorem zd_M_follows_30 : decode zo_M_follows 30 = .ok (.ifCond .eq 22, 3) := by decide +kernel
theorem zd_M_follows_33 : decode zo_M_follows 33 = .ok (.aload_n 0, 1) := by decide +kernel
theorem zd_M_follows_34 : decode zo_M_follows 34 = .ok (.iload_n 2, 1) := by decide +kernel
theorem zd_M_follows_35 : decode zo_M_follows 35 = .ok (.iload 5, 2) := by decide +kernel
theorem zd_M_follows_37 : decode zo_M_follows 37 = .ok (.bipush 24, 2) := by decide +kernel
theorem zd_M_follows_39 : decode zo_M_follows 39 = .ok (.idiv, 1) := by decide +kernel
theorem zd_M_follows_40 : decode zo_M_follows 40 = .ok (.iload 5, 2) := by decide +kernel
theorem zd_M_follows_42 : decode zo_M_follows 42 = .ok (.bipush 24, 2) := by decide +kernel
theorem zd_M_follows_44 : decode zo_M_follows 44 = .ok (.irem, 1) := by decide +kernel
theorem zd_M_follows_45 : decode zo_M_follows 45 = .ok (.iload_n 3, 1) := by decide +kernel
theorem zd_M_follows_46 : decode zo_M_follows 46 = .ok (.invokevirtual 54, 3) := by decide +kernel
theorem zd_M_follows_49 : decode zo_M_follows 49 = .ok (.ifCond .eq 7, 3) := by decide +kernel
theorem zd_M_follows_52 : decode zo_M_follows 52 = .ok (.iconst 1, 1) := by decide +kernel
theorem zd_M_follows_53 : decode zo_M_follows 53 = .ok (.goto 4, 3) := by decide +kernel
theorem zd_M_follows_56 : decode zo_M_follows 56 = .ok (.iconst 0, 1) := by decide +kernel
theorem zd_M_follows_57 : decode zo_M_follows 57 = .ok (.istore 4, 2) := by decide +kernel
theorem zd_M_follows_59 : decode zo_M_follows 59 = .ok (.iinc 5 1, 3) := by decide +kernel
theorem zd_M_follows_62 : decode zo_M_follows 62 = .ok (.goto (-56), 3) := by decide +kernel
theorem zd_M_follows_65 : decode zo_M_follows 65 = .ok (.iload 4, 2) := by decide +kernel
theorem zd_M_follows_67 : decode zo_M_follows 67 = .ok (.ireturn, 1) := by decide +kernel
theorem zd_M_answers_0 : decode zo_M_answers 0 = .ok (.iconst 0, 1) := by decide +kernel
theorem zd_M_answers_1 : decode zo_M_answers 1 = .ok (.istore 5, 2) := by decide +kernel
theorem zd_M_answers_3 : decode zo_M_answers 3 = .ok (.iconst 0, 1) := by decide +kernel
theorem zd_M_answers_4 : decode zo_M_answers 4 = .ok (.istore 6, 2) := by decide +kernel
theorem zd_M_answers_6 : decode zo_M_answers 6 = .ok (.iload 6, 2) := by decide +kernel
theorem zd_M_answers_8 : decode zo_M_answers 8 = .ok (.bipush 24, 2) := by decide +kernel
theorem zd_M_answers_10 : decode zo_M_answers 10 = .ok (.if_icmp .ge 49, 3) := by decide +kernel
theorem zd_M_answers_13 : decode zo_M_answers 13 = .ok (.iload 5, 2) := by decide +kernel
theorem zd_M_answers_15 : decode zo_M_answers 15 = .ok (.ifCond .ne 31, 3) := by decide +kernel
theorem zd_M_answers_18 : decode zo_M_answers 18 = .ok (.aload_n 0, 1) := by decide +kernel
theorem zd_M_answers_19 : decode zo_M_answers 19 = .ok (.iload_n 1, 1) := by decide +kernel
theorem zd_M_answers_20 : decode zo_M_answers 20 = .ok (.iload_n 2, 1) := by decide +kernel
theorem zd_M_answers_21 : decode zo_M_answers 21 = .ok (.iload 6, 2) := by decide +kernel
theorem zd_M_answers_23 : decode zo_M_answers 23 = .ok (.invokevirtual 42, 3) := by decide +kernel
theorem zd_M_answers_26 : decode zo_M_answers 26 = .ok (.ifCond .eq 24, 3) := by decide +kernel
theorem zd_M_answers_29 : decode zo_M_answers 29 = .ok (.aload_n 0, 1) := by decide +kernel
theorem zd_M_answers_30 : decode zo_M_answers 30 = .ok (.getfield 17, 3) := by decide +kernel
theorem zd_M_answers_33 : decode zo_M_answers 33 = .ok (.bipush 24, 2) := by decide +kernel
theorem zd_M_answers_35 : decode zo_M_answers 35 = .ok (.iload_n 3, 1) := by decide +kernel
theorem zd_M_answers_36 : decode zo_M_answers 36 = .ok (.imul, 1) := by decide +kernel
theorem zd_M_answers_37 : decode zo_M_answers 37 = .ok (.iload 6, 2) := by decide +kernel
theorem zd_M_answers_39 : decode zo_M_answers 39 = .ok (.iadd, 1) := by decide +kernel
theorem zd_M_answers_40 : decode zo_M_answers 40 = .ok (.iaload, 1) := by decide +kernel
theorem zd_M_answers_41 : decode zo_M_answers 41 = .ok (.iload 4, 2) := by decide +kernel
theorem zd_M_answers_43 : decode zo_M_answers 43 = .ok (.if_icmp .le 7, 3) := by decide +kernel
theorem zd_M_answers_46 : decode zo_M_answers 46 = .ok (.iconst 1, 1) := by decide +kernel
theorem zd_M_answers_47 : decode zo_M_answers 47 = .ok (.goto 4, 3) := by decide +kernel
theorem zd_M_answers_50 : decode zo_M_answers 50 = .ok (.iconst 0, 1) := by decide +kernel
theorem zd_M_answers_51 : decode zo_M_answers 51 = .ok (.istore 5, 2) := by decide +kernel
theorem zd_M_answers_53 : decode zo_M_answers 53 = .ok (.iinc 6 1, 3) := by decide +kernel
theorem zd_M_answers_56 : decode zo_M_answers 56 = .ok (.goto (-50), 3) := by decide +kernel
theorem zd_M_answers_59 : decode zo_M_answers 59 = .ok (.iload 5, 2) := by decide +kernel
theorem zd_M_answers_61 : decode zo_M_answers 61 = .ok (.ireturn, 1) := by decide +kernel
theorem zd_M_matches_0 : decode zo_M_matches 0 = .ok (.iconst 1, 1) := by decide +kernel
theorem zd_M_matches_1 : decode zo_M_matches 1 = .ok (.istore_n 3, 1) := by decide +kernel
theorem zd_M_matches_2 : decode zo_M_matches 2 = .ok (.iconst 0, 1) := by decide +kernel
theorem zd_M_matches_3 : decode zo_M_matches 3 = .ok (.istore 4, 2) := by decide +kernel
theorem zd_M_matches_5 : decode zo_M_matches 5 = .ok (.iload 4, 2) := by decide +kernel
theorem zd_M_matches_7 : decode zo_M_matches 7 = .ok (.bipush 96, 2) := by decide +kernel
theorem zd_M_matches_9 : decode zo_M_matches 9 = .ok (.if_icmp .ge 108, 3) := by decide +kernel
theorem zd_M_matches_12 : decode zo_M_matches 12 = .ok (.aload_n 0, 1) := by decide +kernel
theorem zd_M_matches_13 : decode zo_M_matches 13 = .ok (.getfield 7, 3) := by decide +kernel
theorem zd_M_matches_16 : decode zo_M_matches 16 = .ok (.bipush 96, 2) := by decide +kernel
theorem zd_M_matches_18 : decode zo_M_matches 18 = .ok (.iload_n 2, 1) := by decide +kernel
theorem zd_M_matches_19 : decode zo_M_matches 19 = .ok (.imul, 1) := by decide +kernel
theorem zd_M_matches_20 : decode zo_M_matches 20 = .ok (.iload 4, 2) := by decide +kernel
theorem zd_M_matches_22 : decode zo_M_matches 22 = .ok (.iadd, 1) := by decide +kernel
theorem zd_M_matches_23 : decode zo_M_matches 23 = .ok (.baload, 1) := by decide +kernel
theorem zd_M_matches_24 : decode zo_M_matches 24 = .ok (.ifCond .ne 7, 3) := by decide +kernel
theorem zd_M_matches_27 : decode zo_M_matches 27 = .ok (.iconst 1, 1) := by decide +kernel
theorem zd_M_matches_28 : decode zo_M_matches 28 = .ok (.goto 4, 3) := by decide +kernel
theorem zd_M_matches_31 : decode zo_M_matches 31 = .ok (.iconst 0, 1) := by decide +kernel
theorem zd_M_matches_32 : decode zo_M_matches 32 = .ok (.istore 5, 2) := by decide +kernel
theorem zd_M_matches_34 : decode zo_M_matches 34 = .ok (.iconst 0, 1) := by decide +kernel
theorem zd_M_matches_35 : decode zo_M_matches 35 = .ok (.istore 6, 2) := by decide +kernel
theorem zd_M_matches_37 : decode zo_M_matches 37 = .ok (.iload 6, 2) := by decide +kernel
theorem zd_M_matches_39 : decode zo_M_matches 39 = .ok (.bipush 24, 2) := by decide +kernel
theorem zd_M_matches_41 : decode zo_M_matches 41 = .ok (.if_icmp .ge 55, 3) := by decide +kernel
theorem zd_M_matches_44 : decode zo_M_matches 44 = .ok (.iload 5, 2) := by decide +kernel
theorem zd_M_matches_46 : decode zo_M_matches 46 = .ok (.ifCond .ne 50, 3) := by decide +kernel
theorem zd_M_matches_49 : decode zo_M_matches 49 = .ok (.aload_n 0, 1) := by decide +kernel
theorem zd_M_matches_50 : decode zo_M_matches 50 = .ok (.iload_n 1, 1) := by decide +kernel
theorem zd_M_matches_51 : decode zo_M_matches 51 = .ok (.iload 4, 2) := by decide +kernel
theorem zd_M_matches_53 : decode zo_M_matches 53 = .ok (.bipush 24, 2) := by decide +kernel
theorem zd_M_matches_55 : decode zo_M_matches 55 = .ok (.idiv, 1) := by decide +kernel
theorem zd_M_matches_56 : decode zo_M_matches 56 = .ok (.iload 6, 2) := by decide +kernel
theorem zd_M_matches_58 : decode zo_M_matches 58 = .ok (.invokevirtual 42, 3) := by decide +kernel
theorem zd_M_matches_61 : decode zo_M_matches 61 = .ok (.ifCond .eq 26, 3) := by decide +kernel
theorem zd_M_matches_64 : decode zo_M_matches 64 = .ok (.aload_n 0, 1) := by decide +kernel
theorem zd_M_matches_65 : decode zo_M_matches 65 = .ok (.getfield 20, 3) := by decide +kernel
theorem zd_M_matches_68 : decode zo_M_matches 68 = .ok (.bipush 24, 2) := by decide +kernel
theorem zd_M_matches_70 : decode zo_M_matches 70 = .ok (.iload 6, 2) := by decide +kernel
theorem zd_M_matches_72 : decode zo_M_matches 72 = .ok (.imul, 1) := by decide +kernel
theorem zd_M_matches_73 : decode zo_M_matches 73 = .ok (.iload 4, 2) := by decide +kernel
theorem zd_M_matches_75 : decode zo_M_matches 75 = .ok (.bipush 24, 2) := by decide +kernel
theorem zd_M_matches_77 : decode zo_M_matches 77 = .ok (.irem, 1) := by decide +kernel
theorem zd_M_matches_78 : decode zo_M_matches 78 = .ok (.iadd, 1) := by decide +kernel
theorem zd_M_matches_79 : decode zo_M_matches 79 = .ok (.baload, 1) := by decide +kernel
theorem zd_M_matches_80 : decode zo_M_matches 80 = .ok (.ifCond .eq 7, 3) := by decide +kernel
theorem zd_M_matches_83 : decode zo_M_matches 83 = .ok (.iconst 1, 1) := by decide +kernel
theorem zd_M_matches_84 : decode zo_M_matches 84 = .ok (.goto 4, 3) := by decide +kernel
theorem zd_M_matches_87 : decode zo_M_matches 87 = .ok (.iconst 0, 1) := by decide +kernel
theorem zd_M_matches_88 : decode zo_M_matches 88 = .ok (.istore 5, 2) := by decide +kernel
theorem zd_M_matches_90 : decode zo_M_matches 90 = .ok (.iinc 6 1, 3) := by decide +kernel
theorem zd_M_matches_93 : decode zo_M_matches 93 = .ok (.goto (-56), 3) := by decide +kernel
theorem zd_M_matches_96 : decode zo_M_matches 96 = .ok (.iload_n 3, 1) := by decide +kernel
theorem zd_M_matches_97 : decode zo_M_matches 97 = .ok (.ifCond .eq 12, 3) := by decide +kernel
theorem zd_M_matches_100 : decode zo_M_matches 100 = .ok (.iload 5, 2) := by decide +kernel
theorem zd_M_matches_102 : decode zo_M_matches 102 = .ok (.ifCond .eq 7, 3) := by decide +kernel
theorem zd_M_matches_105 : decode zo_M_matches 105 = .ok (.iconst 1, 1) := by decide +kernel
theorem zd_M_matches_106 : decode zo_M_matches 106 = .ok (.goto 4, 3) := by decide +kernel
theorem zd_M_matches_109 : decode zo_M_matches 109 = .ok (.iconst 0, 1) := by decide +kernel
theorem zd_M_matches_110 : decode zo_M_matches 110 = .ok (.istore_n 3, 1) := by decide +kernel
theorem zd_M_matches_111 : decode zo_M_matches 111 = .ok (.iinc 4 1, 3) := by decide +kernel
theorem zd_M_matches_114 : decode zo_M_matches 114 = .ok (.goto (-109), 3) := by decide +kernel
theorem zd_M_matches_117 : decode zo_M_matches 117 = .ok (.iload_n 3, 1) := by decide +kernel
theorem zd_M_matches_118 : decode zo_M_matches 118 = .ok (.ireturn, 1) := by decide +kernel
theorem zd_M_areAlike_0 : decode zo_M_areAlike 0 = .ok (.aload_n 0, 1) := by decide +kernel
theorem zd_M_areAlike_1 : decode zo_M_areAlike 1 = .ok (.getfield 17, 3) := by decide +kernel
theorem zd_M_areAlike_4 : decode zo_M_areAlike 4 = .ok (.bipush 24, 2) := by decide +kernel
theorem zd_M_areAlike_6 : decode zo_M_areAlike 6 = .ok (.iload_n 1, 1) := by decide +kernel
theorem zd_M_areAlike_7 : decode zo_M_areAlike 7 = .ok (.imul, 1) := by decide +kernel
theorem zd_M_areAlike_8 : decode zo_M_areAlike 8 = .ok (.iload_n 2, 1) := by decide +kernel
theorem zd_M_areAlike_9 : decode zo_M_areAlike 9 = .ok (.iadd, 1) := by decide +kernel
theorem zd_M_areAlike_10 : decode zo_M_areAlike 10 = .ok (.iaload, 1) := by decide +kernel
theorem zd_M_areAlike_11 : decode zo_M_areAlike 11 = .ok (.sipush 1000, 3) := by decide +kernel
theorem zd_M_areAlike_14 : decode zo_M_areAlike 14 = .ok (.if_icmp .ne 7, 3) := by decide +kernel
theorem zd_M_areAlike_17 : decode zo_M_areAlike 17 = .ok (.iconst 1, 1) := by decide +kernel
theorem zd_M_areAlike_18 : decode zo_M_areAlike 18 = .ok (.goto 4, 3) := by decide +kernel
theorem zd_M_areAlike_21 : decode zo_M_areAlike 21 = .ok (.iconst 0, 1) := by decide +kernel
theorem zd_M_areAlike_22 : decode zo_M_areAlike 22 = .ok (.ireturn, 1) := by decide +kernel
theorem zd_M_reachOf_0 : decode zo_M_reachOf 0 = .ok (.iconst 0, 1) := by decide +kernel
theorem zd_M_reachOf_1 : decode zo_M_reachOf 1 = .ok (.istore_n 3, 1) := by decide +kernel
theorem zd_M_reachOf_2 : decode zo_M_reachOf 2 = .ok (.iconst 0, 1) := by decide +kernel
theorem zd_M_reachOf_3 : decode zo_M_reachOf 3 = .ok (.istore 4, 2) := by decide +kernel
theorem zd_M_reachOf_5 : decode zo_M_reachOf 5 = .ok (.iload 4, 2) := by decide +kernel
theorem zd_M_reachOf_7 : decode zo_M_reachOf 7 = .ok (.bipush 24, 2) := by decide +kernel
theorem zd_M_reachOf_9 : decode zo_M_reachOf 9 = .ok (.if_icmp .ge 64, 3) := by decide +kernel
theorem zd_M_reachOf_12 : decode zo_M_reachOf 12 = .ok (.iconst 0, 1) := by decide +kernel
theorem zd_M_reachOf_13 : decode zo_M_reachOf 13 = .ok (.istore 5, 2) := by decide +kernel
theorem zd_M_reachOf_15 : decode zo_M_reachOf 15 = .ok (.iload 5, 2) := by decide +kernel
theorem zd_M_reachOf_17 : decode zo_M_reachOf 17 = .ok (.bipush 24, 2) := by decide +kernel
theorem zd_M_reachOf_19 : decode zo_M_reachOf 19 = .ok (.if_icmp .ge 48, 3) := by decide +kernel
theorem zd_M_reachOf_22 : decode zo_M_reachOf 22 = .ok (.aload_n 0, 1) := by decide +kernel
theorem zd_M_reachOf_23 : decode zo_M_reachOf 23 = .ok (.getfield 26, 3) := by decide +kernel
theorem zd_M_reachOf_26 : decode zo_M_reachOf 26 = .ok (.iload 4, 2) := by decide +kernel
theorem zd_M_reachOf_28 : decode zo_M_reachOf 28 = .ok (.iaload, 1) := by decide +kernel
theorem zd_M_reachOf_29 : decode zo_M_reachOf 29 = .ok (.iload_n 1, 1) := by decide +kernel
theorem zd_M_reachOf_30 : decode zo_M_reachOf 30 = .ok (.if_icmp .ne 29, 3) := by decide +kernel
theorem zd_M_reachOf_33 : decode zo_M_reachOf 33 = .ok (.aload_n 0, 1) := by decide +kernel
theorem zd_M_reachOf_34 : decode zo_M_reachOf 34 = .ok (.iload 4, 2) := by decide +kernel
theorem zd_M_reachOf_36 : decode zo_M_reachOf 36 = .ok (.iload_n 2, 1) := by decide +kernel
theorem zd_M_reachOf_37 : decode zo_M_reachOf 37 = .ok (.iload 5, 2) := by decide +kernel
theorem zd_M_reachOf_39 : decode zo_M_reachOf 39 = .ok (.invokevirtual 42, 3) := by decide +kernel
theorem zd_M_reachOf_42 : decode zo_M_reachOf 42 = .ok (.ifCond .eq 17, 3) := by decide +kernel
theorem zd_M_reachOf_45 : decode zo_M_reachOf 45 = .ok (.iload_n 3, 1) := by decide +kernel
theorem zd_M_reachOf_46 : decode zo_M_reachOf 46 = .ok (.iconst 1, 1) := by decide +kernel
theorem zd_M_reachOf_47 : decode zo_M_reachOf 47 = .ok (.aload_n 0, 1) := by decide +kernel
theorem zd_M_reachOf_48 : decode zo_M_reachOf 48 = .ok (.getfield 26, 3) := by decide +kernel
theorem zd_M_reachOf_51 : decode zo_M_reachOf 51 = .ok (.iload 5, 2) := by decide +kernel
theorem zd_M_reachOf_53 : decode zo_M_reachOf 53 = .ok (.iaload, 1) := by decide +kernel
theorem zd_M_reachOf_54 : decode zo_M_reachOf 54 = .ok (.ishl, 1) := by decide +kernel
theorem zd_M_reachOf_55 : decode zo_M_reachOf 55 = .ok (.ior, 1) := by decide +kernel
theorem zd_M_reachOf_56 : decode zo_M_reachOf 56 = .ok (.goto 4, 3) := by decide +kernel
theorem zd_M_reachOf_59 : decode zo_M_reachOf 59 = .ok (.iload_n 3, 1) := by decide +kernel
theorem zd_M_reachOf_60 : decode zo_M_reachOf 60 = .ok (.istore_n 3, 1) := by decide +kernel
theorem zd_M_reachOf_61 : decode zo_M_reachOf 61 = .ok (.iinc 5 1, 3) := by decide +kernel
theorem zd_M_reachOf_64 : decode zo_M_reachOf 64 = .ok (.goto (-49), 3) := by decide +kernel
theorem zd_M_reachOf_67 : decode zo_M_reachOf 67 = .ok (.iinc 4 1, 3) := by decide +kernel
theorem zd_M_reachOf_70 : decode zo_M_reachOf 70 = .ok (.goto (-65), 3) := by decide +kernel
theorem zd_M_reachOf_73 : decode zo_M_reachOf 73 = .ok (.iload_n 3, 1) := by decide +kernel
theorem zd_M_reachOf_74 : decode zo_M_reachOf 74 = .ok (.ireturn, 1) := by decide +kernel
theorem zd_M_isAttack_0 : decode zo_M_isAttack 0 = .ok (.aload_n 0, 1) := by decide +kernel
theorem zd_M_isAttack_1 : decode zo_M_isAttack 1 = .ok (.getfield 7, 3) := by decide +kernel
theorem zd_M_isAttack_4 : decode zo_M_isAttack 4 = .ok (.bipush 96, 2) := by decide +kernel
theorem zd_M_isAttack_6 : decode zo_M_isAttack 6 = .ok (.iload_n 1, 1) := by decide +kernel
theorem zd_M_isAttack_7 : decode zo_M_isAttack 7 = .ok (.imul, 1) := by decide +kernel
theorem zd_M_isAttack_8 : decode zo_M_isAttack 8 = .ok (.iload_n 3, 1) := by decide +kernel
theorem zd_M_isAttack_9 : decode zo_M_isAttack 9 = .ok (.iadd, 1) := by decide +kernel
theorem zd_M_isAttack_10 : decode zo_M_isAttack 10 = .ok (.baload, 1) := by decide +kernel
theorem zd_M_isAttack_11 : decode zo_M_isAttack 11 = .ok (.ifCond .eq 25, 3) := by decide +kernel
theorem zd_M_isAttack_14 : decode zo_M_isAttack 14 = .ok (.aload_n 0, 1) := by decide +kernel
theorem zd_M_isAttack_15 : decode zo_M_isAttack 15 = .ok (.iload_n 2, 1) := by decide +kernel
theorem zd_M_isAttack_16 : decode zo_M_isAttack 16 = .ok (.iload_n 3, 1) := by decide +kernel
theorem zd_M_isAttack_17 : decode zo_M_isAttack 17 = .ok (.bipush 24, 2) := by decide +kernel
theorem zd_M_isAttack_19 : decode zo_M_isAttack 19 = .ok (.idiv, 1) := by decide +kernel
theorem zd_M_isAttack_20 : decode zo_M_isAttack 20 = .ok (.iload_n 3, 1) := by decide +kernel
theorem zd_M_isAttack_21 : decode zo_M_isAttack 21 = .ok (.bipush 24, 2) := by decide +kernel
theorem zd_M_isAttack_23 : decode zo_M_isAttack 23 = .ok (.irem, 1) := by decide +kernel
theorem zd_M_isAttack_24 : decode zo_M_isAttack 24 = .ok (.iload 4, 2) := by decide +kernel
theorem zd_M_isAttack_26 : decode zo_M_isAttack 26 = .ok (.invokevirtual 54, 3) := by decide +kernel
theorem zd_M_isAttack_29 : decode zo_M_isAttack 29 = .ok (.ifCond .ne 7, 3) := by decide +kernel
theorem zd_M_isAttack_32 : decode zo_M_isAttack 32 = .ok (.iconst 1, 1) := by decide +kernel
theorem zd_M_isAttack_33 : decode zo_M_isAttack 33 = .ok (.goto 4, 3) := by decide +kernel
theorem zd_M_isAttack_36 : decode zo_M_isAttack 36 = .ok (.iconst 0, 1) := by decide +kernel
theorem zd_M_isAttack_37 : decode zo_M_isAttack 37 = .ok (.ireturn, 1) := by decide +kernel
