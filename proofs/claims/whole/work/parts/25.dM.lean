theorem zd_M_init_0 : decode zo_M_init 0 = .ok (.aload_n 0, 1) := by decide +kernel
theorem zd_M_init_1 : decode zo_M_init 1 = .ok (.invokespecial 1, 3) := by decide +kernel
theorem zd_M_init_4 : decode zo_M_init 4 = .ok (.aload_n 0, 1) := by decide +kernel
theorem zd_M_init_5 : decode zo_M_init 5 = .ok (.sipush 2304, 3) := by decide +kernel
theorem zd_M_init_8 : decode zo_M_init 8 = .ok (.newarray .boolean, 2) := by decide +kernel
theorem zd_M_init_10 : decode zo_M_init 10 = .ok (.putfield 7, 3) := by decide +kernel
theorem zd_M_init_13 : decode zo_M_init 13 = .ok (.aload_n 0, 1) := by decide +kernel
theorem zd_M_init_14 : decode zo_M_init 14 = .ok (.bipush 24, 2) := by decide +kernel
theorem zd_M_init_16 : decode zo_M_init 16 = .ok (.newarray .int, 2) := by decide +kernel
theorem zd_M_init_18 : decode zo_M_init 18 = .ok (.putfield 13, 3) := by decide +kernel
theorem zd_M_init_21 : decode zo_M_init 21 = .ok (.aload_n 0, 1) := by decide +kernel
theorem zd_M_init_22 : decode zo_M_init 22 = .ok (.sipush 576, 3) := by decide +kernel
theorem zd_M_init_25 : decode zo_M_init 25 = .ok (.newarray .int, 2) := by decide +kernel
theorem zd_M_init_27 : decode zo_M_init 27 = .ok (.putfield 17, 3) := by decide +kernel
theorem zd_M_init_30 : decode zo_M_init 30 = .ok (.aload_n 0, 1) := by decide +kernel
theorem zd_M_init_31 : decode zo_M_init 31 = .ok (.sipush 576, 3) := by decide +kernel
theorem zd_M_init_34 : decode zo_M_init 34 = .ok (.newarray .boolean, 2) := by decide +kernel
theorem zd_M_init_36 : decode zo_M_init 36 = .ok (.putfield 20, 3) := by decide +kernel
theorem zd_M_init_39 : decode zo_M_init 39 = .ok (.aload_n 0, 1) := by decide +kernel
theorem zd_M_init_40 : decode zo_M_init 40 = .ok (.sipush 576, 3) := by decide +kernel
theorem zd_M_init_43 : decode zo_M_init 43 = .ok (.newarray .boolean, 2) := by decide +kernel
theorem zd_M_init_45 : decode zo_M_init 45 = .ok (.putfield 23, 3) := by decide +kernel
theorem zd_M_init_48 : decode zo_M_init 48 = .ok (.aload_n 0, 1) := by decide +kernel
theorem zd_M_init_49 : decode zo_M_init 49 = .ok (.bipush 24, 2) := by decide +kernel
theorem zd_M_init_51 : decode zo_M_init 51 = .ok (.newarray .int, 2) := by decide +kernel
theorem zd_M_init_53 : decode zo_M_init 53 = .ok (.putfield 26, 3) := by decide +kernel
theorem zd_M_init_56 : decode zo_M_init 56 = .ok (.aload_n 0, 1) := by decide +kernel
theorem zd_M_init_57 : decode zo_M_init 57 = .ok (.sipush 600, 3) := by decide +kernel
theorem zd_M_init_60 : decode zo_M_init 60 = .ok (.newarray .int, 2) := by decide +kernel
theorem zd_M_init_62 : decode zo_M_init 62 = .ok (.putfield 29, 3) := by decide +kernel
theorem zd_M_init_65 : decode zo_M_init 65 = .ok (.aload_n 0, 1) := by decide +kernel
theorem zd_M_init_66 : decode zo_M_init 66 = .ok (.sipush 600, 3) := by decide +kernel
theorem zd_M_init_69 : decode zo_M_init 69 = .ok (.newarray .int, 2) := by decide +kernel
theorem zd_M_init_71 : decode zo_M_init 71 = .ok (.putfield 32, 3) := by decide +kernel
theorem zd_M_init_74 : decode zo_M_init 74 = .ok (.return_, 1) := by decide +kernel
theorem zd_M_move_0 : decode zo_M_move 0 = .ok (.iload_n 1, 1) := by decide +kernel
theorem zd_M_move_1 : decode zo_M_move 1 = .ok (.invokestatic 35, 3) := by decide +kernel
theorem zd_M_move_4 : decode zo_M_move 4 = .ok (.ifCond .eq 36, 3) := by decide +kernel
theorem zd_M_move_7 : decode zo_M_move 7 = .ok (.iload_n 2, 1) := by decide +kernel
theorem zd_M_move_8 : decode zo_M_move 8 = .ok (.invokestatic 39, 3) := by decide +kernel
theorem zd_M_move_11 : decode zo_M_move 11 = .ok (.ifCond .eq 29, 3) := by decide +kernel
theorem zd_M_move_14 : decode zo_M_move 14 = .ok (.iload_n 3, 1) := by decide +kernel
theorem zd_M_move_15 : decode zo_M_move 15 = .ok (.invokestatic 35, 3) := by decide +kernel
theorem zd_M_move_18 : decode zo_M_move 18 = .ok (.ifCond .eq 22, 3) := by decide +kernel
theorem zd_M_move_21 : decode zo_M_move 21 = .ok (.aload_n 0, 1) := by decide +kernel
theorem zd_M_move_22 : decode zo_M_move 22 = .ok (.iload_n 1, 1) := by decide +kernel
theorem zd_M_move_23 : decode zo_M_move 23 = .ok (.iload_n 2, 1) := by decide +kernel
theorem zd_M_move_24 : decode zo_M_move 24 = .ok (.iload_n 3, 1) := by decide +kernel
theorem zd_M_move_25 : decode zo_M_move 25 = .ok (.invokevirtual 42, 3) := by decide +kernel
theorem zd_M_move_28 : decode zo_M_move 28 = .ok (.ifCond .ne 12, 3) := by decide +kernel
theorem zd_M_move_31 : decode zo_M_move 31 = .ok (.aload_n 0, 1) := by decide +kernel
theorem zd_M_move_32 : decode zo_M_move 32 = .ok (.getfield 46, 3) := by decide +kernel
theorem zd_M_move_35 : decode zo_M_move 35 = .ok (.bipush 120, 2) := by decide +kernel
theorem zd_M_move_37 : decode zo_M_move 37 = .ok (.if_icmp .ne 5, 3) := by decide +kernel
theorem zd_M_move_40 : decode zo_M_move 40 = .ok (.iconst 0, 1) := by decide +kernel
theorem zd_M_move_41 : decode zo_M_move 41 = .ok (.ireturn, 1) := by decide +kernel
theorem zd_M_move_42 : decode zo_M_move 42 = .ok (.aload_n 0, 1) := by decide +kernel
theorem zd_M_move_43 : decode zo_M_move 43 = .ok (.getfield 7, 3) := by decide +kernel
theorem zd_M_move_46 : decode zo_M_move 46 = .ok (.bipush 96, 2) := by decide +kernel
theorem zd_M_move_48 : decode zo_M_move 48 = .ok (.iload_n 1, 1) := by decide +kernel
theorem zd_M_move_49 : decode zo_M_move 49 = .ok (.imul, 1) := by decide +kernel
theorem zd_M_move_50 : decode zo_M_move 50 = .ok (.bipush 24, 2) := by decide +kernel
theorem zd_M_move_52 : decode zo_M_move 52 = .ok (.iload_n 2, 1) := by decide +kernel
theorem zd_M_move_53 : decode zo_M_move 53 = .ok (.imul, 1) := by decide +kernel
theorem zd_M_move_54 : decode zo_M_move 54 = .ok (.iadd, 1) := by decide +kernel
theorem zd_M_move_55 : decode zo_M_move 55 = .ok (.iload_n 3, 1) := by decide +kernel
theorem zd_M_move_56 : decode zo_M_move 56 = .ok (.iadd, 1) := by decide +kernel
theorem zd_M_move_57 : decode zo_M_move 57 = .ok (.iconst 1, 1) := by decide +kernel
theorem zd_M_move_58 : decode zo_M_move 58 = .ok (.bastore, 1) := by decide +kernel
theorem zd_M_move_59 : decode zo_M_move 59 = .ok (.aload_n 0, 1) := by decide +kernel
theorem zd_M_move_60 : decode zo_M_move 60 = .ok (.aload_n 0, 1) := by decide +kernel
theorem zd_M_move_61 : decode zo_M_move 61 = .ok (.getfield 46, 3) := by decide +kernel
theorem zd_M_move_64 : decode zo_M_move 64 = .ok (.iconst 1, 1) := by decide +kernel
theorem zd_M_move_65 : decode zo_M_move 65 = .ok (.iadd, 1) := by decide +kernel
theorem zd_M_move_66 : decode zo_M_move 66 = .ok (.putfield 46, 3) := by decide +kernel
theorem zd_M_move_69 : decode zo_M_move 69 = .ok (.aload_n 0, 1) := by decide +kernel
theorem zd_M_move_70 : decode zo_M_move 70 = .ok (.iconst 0, 1) := by decide +kernel
theorem zd_M_move_71 : decode zo_M_move 71 = .ok (.putfield 50, 3) := by decide +kernel
theorem zd_M_move_74 : decode zo_M_move 74 = .ok (.iconst 1, 1) := by decide +kernel
theorem zd_M_move_75 : decode zo_M_move 75 = .ok (.ireturn, 1) := by decide +kernel
theorem zd_M_isState_0 : decode zo_M_isState 0 = .ok (.iload_n 0, 1) := by decide +kernel
theorem zd_M_isState_1 : decode zo_M_isState 1 = .ok (.ifCond .lt 13, 3) := by decide +kernel
theorem zd_M_isState_4 : decode zo_M_isState 4 = .ok (.iload_n 0, 1) := by decide +kernel
theorem zd_M_isState_5 : decode zo_M_isState 5 = .ok (.bipush 24, 2) := by decide +kernel
theorem zd_M_isState_7 : decode zo_M_isState 7 = .ok (.if_icmp .ge 7, 3) := by decide +kernel
theorem zd_M_isState_10 : decode zo_M_isState 10 = .ok (.iconst 1, 1) := by decide +kernel
theorem zd_M_isState_11 : decode zo_M_isState 11 = .ok (.goto 4, 3) := by decide +kernel
theorem zd_M_isState_14 : decode zo_M_isState 14 = .ok (.iconst 0, 1) := by decide +kernel
theorem zd_M_isState_15 : decode zo_M_isState 15 = .ok (.ireturn, 1) := by decide +kernel
theorem zd_M_isLabel_0 : decode zo_M_isLabel 0 = .ok (.iload_n 0, 1) := by decide +kernel
theorem zd_M_isLabel_1 : decode zo_M_isLabel 1 = .ok (.ifCond .lt 12, 3) := by decide +kernel
theorem zd_M_isLabel_4 : decode zo_M_isLabel 4 = .ok (.iload_n 0, 1) := by decide +kernel
theorem zd_M_isLabel_5 : decode zo_M_isLabel 5 = .ok (.iconst 4, 1) := by decide +kernel
theorem zd_M_isLabel_6 : decode zo_M_isLabel 6 = .ok (.if_icmp .ge 7, 3) := by decide +kernel
theorem zd_M_isLabel_9 : decode zo_M_isLabel 9 = .ok (.iconst 1, 1) := by decide +kernel
theorem zd_M_isLabel_10 : decode zo_M_isLabel 10 = .ok (.goto 4, 3) := by decide +kernel
theorem zd_M_isLabel_13 : decode zo_M_isLabel 13 = .ok (.iconst 0, 1) := by decide +kernel
theorem zd_M_isLabel_14 : decode zo_M_isLabel 14 = .ok (.ireturn, 1) := by decide +kernel
theorem zd_M_has_0 : decode zo_M_has 0 = .ok (.aload_n 0, 1) := by decide +kernel
theorem zd_M_has_1 : decode zo_M_has 1 = .ok (.getfield 7, 3) := by decide +kernel
theorem zd_M_has_4 : decode zo_M_has 4 = .ok (.bipush 96, 2) := by decide +kernel
theorem zd_M_has_6 : decode zo_M_has 6 = .ok (.iload_n 1, 1) := by decide +kernel
theorem zd_M_has_7 : decode zo_M_has 7 = .ok (.imul, 1) := by decide +kernel
theorem zd_M_has_8 : decode zo_M_has 8 = .ok (.bipush 24, 2) := by decide +kernel
theorem zd_M_has_10 : decode zo_M_has 10 = .ok (.iload_n 2, 1) := by decide +kernel
theorem zd_M_has_11 : decode zo_M_has 11 = .ok (.imul, 1) := by decide +kernel
theorem zd_M_has_12 : decode zo_M_has 12 = .ok (.iadd, 1) := by decide +kernel
theorem zd_M_has_13 : decode zo_M_has 13 = .ok (.iload_n 3, 1) := by decide +kernel
theorem zd_M_has_14 : decode zo_M_has 14 = .ok (.iadd, 1) := by decide +kernel
theorem zd_M_has_15 : decode zo_M_has 15 = .ok (.baload, 1) := by decide +kernel
theorem zd_M_has_16 : decode zo_M_has 16 = .ok (.ireturn, 1) := by decide +kernel
theorem zd_M_drop_0 : decode zo_M_drop 0 = .ok (.iload_n 1, 1) := by decide +kernel
theorem zd_M_drop_1 : decode zo_M_drop 1 = .ok (.invokestatic 35, 3) := by decide +kernel
theorem zd_M_drop_4 : decode zo_M_drop 4 = .ok (.ifCond .eq 27, 3) := by decide +kernel
theorem zd_M_drop_7 : decode zo_M_drop 7 = .ok (.iload_n 2, 1) := by decide +kernel
theorem zd_M_drop_8 : decode zo_M_drop 8 = .ok (.invokestatic 39, 3) := by decide +kernel
theorem zd_M_drop_11 : decode zo_M_drop 11 = .ok (.ifCond .eq 20, 3) := by decide +kernel
theorem zd_M_drop_14 : decode zo_M_drop 14 = .ok (.iload_n 3, 1) := by decide +kernel
theorem zd_M_drop_15 : decode zo_M_drop 15 = .ok (.invokestatic 35, 3) := by decide +kernel
theorem zd_M_drop_18 : decode zo_M_drop 18 = .ok (.ifCond .eq 13, 3) := by decide +kernel
theorem zd_M_drop_21 : decode zo_M_drop 21 = .ok (.aload_n 0, 1) := by decide +kernel
theorem zd_M_drop_22 : decode zo_M_drop 22 = .ok (.iload_n 1, 1) := by decide +kernel
theorem zd_M_drop_23 : decode zo_M_drop 23 = .ok (.iload_n 2, 1) := by decide +kernel
theorem zd_M_drop_24 : decode zo_M_drop 24 = .ok (.iload_n 3, 1) := by decide +kernel
theorem zd_M_drop_25 : decode zo_M_drop 25 = .ok (.invokevirtual 42, 3) := by decide +kernel
theorem zd_M_drop_28 : decode zo_M_drop 28 = .ok (.ifCond .ne 5, 3) := by decide +kernel
theorem zd_M_drop_31 : decode zo_M_drop 31 = .ok (.iconst 0, 1) := by decide +kernel
theorem zd_M_drop_32 : decode zo_M_drop 32 = .ok (.ireturn, 1) := by decide +kernel
theorem zd_M_drop_33 : decode zo_M_drop 33 = .ok (.aload_n 0, 1) := by decide +kernel
theorem zd_M_drop_34 : decode zo_M_drop 34 = .ok (.getfield 7, 3) := by decide +kernel
theorem zd_M_drop_37 : decode zo_M_drop 37 = .ok (.bipush 96, 2) := by decide +kernel
theorem zd_M_drop_39 : decode zo_M_drop 39 = .ok (.iload_n 1, 1) := by decide +kernel
theorem zd_M_drop_40 : decode zo_M_drop 40 = .ok (.imul, 1) := by decide +kernel
theorem zd_M_drop_41 : decode zo_M_drop 41 = .ok (.bipush 24, 2) := by decide +kernel
theorem zd_M_drop_43 : decode zo_M_drop 43 = .ok (.iload_n 2, 1) := by decide +kernel
theorem zd_M_drop_44 : decode zo_M_drop 44 = .ok (.imul, 1) := by decide +kernel
theorem zd_M_drop_45 : decode zo_M_drop 45 = .ok (.iadd, 1) := by decide +kernel
theorem zd_M_drop_46 : decode zo_M_drop 46 = .ok (.iload_n 3, 1) := by decide +kernel
theorem zd_M_drop_47 : decode zo_M_drop 47 = .ok (.iadd, 1) := by decide +kernel
theorem zd_M_drop_48 : decode zo_M_drop 48 = .ok (.iconst 0, 1) := by decide +kernel
theorem zd_M_drop_49 : decode zo_M_drop 49 = .ok (.bastore, 1) := by decide +kernel
theorem zd_M_drop_50 : decode zo_M_drop 50 = .ok (.aload_n 0, 1) := by decide +kernel
theorem zd_M_drop_51 : decode zo_M_drop 51 = .ok (.aload_n 0, 1) := by decide +kernel
theorem zd_M_drop_52 : decode zo_M_drop 52 = .ok (.getfield 46, 3) := by decide +kernel
theorem zd_M_drop_55 : decode zo_M_drop 55 = .ok (.iconst 1, 1) := by decide +kernel
theorem zd_M_drop_56 : decode zo_M_drop 56 = .ok (.isub, 1) := by decide +kernel
theorem zd_M_drop_57 : decode zo_M_drop 57 = .ok (.putfield 46, 3) := by decide +kernel
theorem zd_M_drop_60 : decode zo_M_drop 60 = .ok (.aload_n 0, 1) := by decide +kernel
theorem zd_M_drop_61 : decode zo_M_drop 61 = .ok (.iconst 0, 1) := by decide +kernel
theorem zd_M_drop_62 : decode zo_M_drop 62 = .ok (.putfield 50, 3) := by decide +kernel
theorem zd_M_drop_65 : decode zo_M_drop 65 = .ok (.iconst 1, 1) := by decide +kernel
theorem zd_M_drop_66 : decode zo_M_drop 66 = .ok (.ireturn, 1) := by decide +kernel
theorem zd_M_colour_0 : decode zo_M_colour 0 = .ok (.iload_n 1, 1) := by decide +kernel
theorem zd_M_colour_1 : decode zo_M_colour 1 = .ok (.invokestatic 35, 3) := by decide +kernel
theorem zd_M_colour_4 : decode zo_M_colour 4 = .ok (.ifCond .ne 5, 3) := by decide +kernel
theorem zd_M_colour_7 : decode zo_M_colour 7 = .ok (.iconst 0, 1) := by decide +kernel
theorem zd_M_colour_8 : decode zo_M_colour 8 = .ok (.ireturn, 1) := by decide +kernel
theorem zd_M_colour_9 : decode zo_M_colour 9 = .ok (.aload_n 0, 1) := by decide +kernel
theorem zd_M_colour_10 : decode zo_M_colour 10 = .ok (.getfield 13, 3) := by decide +kernel
theorem zd_M_colour_13 : decode zo_M_colour 13 = .ok (.iload_n 1, 1) := by decide +kernel
theorem zd_M_colour_14 : decode zo_M_colour 14 = .ok (.iload_n 2, 1) := by decide +kernel
theorem zd_M_colour_15 : decode zo_M_colour 15 = .ok (.iastore, 1) := by decide +kernel
theorem zd_M_colour_16 : decode zo_M_colour 16 = .ok (.aload_n 0, 1) := by decide +kernel
theorem zd_M_colour_17 : decode zo_M_colour 17 = .ok (.iconst 0, 1) := by decide +kernel
theorem zd_M_colour_18 : decode zo_M_colour 18 = .ok (.putfield 50, 3) := by decide +kernel
theorem zd_M_colour_21 : decode zo_M_colour 21 = .ok (.iconst 1, 1) := by decide +kernel
theorem zd_M_colour_22 : decode zo_M_colour 22 = .ok (.ireturn, 1) := by decide +kernel
theorem zd_M_moves_0 : decode zo_M_moves 0 = .ok (.aload_n 0, 1) := by decide +kernel
theorem zd_M_moves_1 : decode zo_M_moves 1 = .ok (.getfield 46, 3) := by decide +kernel
theorem zd_M_moves_4 : decode zo_M_moves 4 = .ok (.ireturn, 1) := by decide +kernel
theorem zd_M_clear_0 : decode zo_M_clear 0 = .ok (.aload_n 0, 1) := by decide +kernel
theorem zd_M_clear_1 : decode zo_M_clear 1 = .ok (.getfield 46, 3) := by decide +kernel
theorem zd_M_clear_4 : decode zo_M_clear 4 = .ok (.istore_n 1, 1) := by decide +kernel
theorem zd_M_clear_5 : decode zo_M_clear 5 = .ok (.aload_n 0, 1) := by decide +kernel
theorem zd_M_clear_6 : decode zo_M_clear 6 = .ok (.iconst 0, 1) := by decide +kernel
theorem zd_M_clear_7 : decode zo_M_clear 7 = .ok (.putfield 46, 3) := by decide +kernel
theorem zd_M_clear_10 : decode zo_M_clear 10 = .ok (.iconst 0, 1) := by decide +kernel
theorem zd_M_clear_11 : decode zo_M_clear 11 = .ok (.istore_n 2, 1) := by decide +kernel
theorem zd_M_clear_12 : decode zo_M_clear 12 = .ok (.iload_n 2, 1) := by decide +kernel
theorem zd_M_clear_13 : decode zo_M_clear 13 = .ok (.sipush 2304, 3) := by decide +kernel
theorem zd_M_clear_16 : decode zo_M_clear 16 = .ok (.if_icmp .ge 16, 3) := by decide +kernel
theorem zd_M_clear_19 : decode zo_M_clear 19 = .ok (.aload_n 0, 1) := by decide +kernel
theorem zd_M_clear_20 : decode zo_M_clear 20 = .ok (.getfield 7, 3) := by decide +kernel
theorem zd_M_clear_23 : decode zo_M_clear 23 = .ok (.iload_n 2, 1) := by decide +kernel
theorem zd_M_clear_24 : decode zo_M_clear 24 = .ok (.iconst 0, 1) := by decide +kernel
theorem zd_M_clear_25 : decode zo_M_clear 25 = .ok (.bastore, 1) := by decide +kernel
theorem zd_M_clear_26 : decode zo_M_clear 26 = .ok (.iinc 2 1, 3) := by decide +kernel
theorem zd_M_clear_29 : decode zo_M_clear 29 = .ok (.goto (-17), 3) := by decide +kernel
theorem zd_M_clear_32 : decode zo_M_clear 32 = .ok (.iconst 0, 1) := by decide +kernel
theorem zd_M_clear_33 : decode zo_M_clear 33 = .ok (.istore_n 2, 1) := by decide +kernel
theorem zd_M_clear_34 : decode zo_M_clear 34 = .ok (.iload_n 2, 1) := by decide +kernel
theorem zd_M_clear_35 : decode zo_M_clear 35 = .ok (.bipush 24, 2) := by decide +kernel
theorem zd_M_clear_37 : decode zo_M_clear 37 = .ok (.if_icmp .ge 16, 3) := by decide +kernel
theorem zd_M_clear_40 : decode zo_M_clear 40 = .ok (.aload_n 0, 1) := by decide +kernel
theorem zd_M_clear_41 : decode zo_M_clear 41 = .ok (.getfield 13, 3) := by decide +kernel
theorem zd_M_clear_44 : decode zo_M_clear 44 = .ok (.iload_n 2, 1) := by decide +kernel
theorem zd_M_clear_45 : decode zo_M_clear 45 = .ok (.iconst 0, 1) := by decide +kernel
theorem zd_M_clear_46 : decode zo_M_clear 46 = .ok (.iastore, 1) := by decide +kernel
theorem zd_M_clear_47 : decode zo_M_clear 47 = .ok (.iinc 2 1, 3) := by decide +kernel
theorem zd_M_clear_50 : decode zo_M_clear 50 = .ok (.goto (-16), 3) := by decide +kernel
theorem zd_M_clear_53 : decode zo_M_clear 53 = .ok (.aload_n 0, 1) := by decide +kernel
theorem zd_M_clear_54 : decode zo_M_clear 54 = .ok (.iconst 0, 1) := by decide +kernel
theorem zd_M_clear_55 : decode zo_M_clear 55 = .ok (.putfield 50, 3) := by decide +kernel
theorem zd_M_clear_58 : decode zo_M_clear 58 = .ok (.iload_n 1, 1) := by decide +kernel
theorem zd_M_clear_59 : decode zo_M_clear 59 = .ok (.ireturn, 1) := by decide +kernel
theorem zd_M_alike_0 : decode zo_M_alike 0 = .ok (.aload_n 0, 1) := by decide +kernel
theorem zd_M_alike_1 : decode zo_M_alike 1 = .ok (.invokevirtual 79, 3) := by decide +kernel
theorem zd_M_alike_4 : decode zo_M_alike 4 = .ok (.iload_n 1, 1) := by decide +kernel
theorem zd_M_alike_5 : decode zo_M_alike 5 = .ok (.invokestatic 35, 3) := by decide +kernel
theorem zd_M_alike_8 : decode zo_M_alike 8 = .ok (.ifCond .eq 23, 3) := by decide +kernel
theorem zd_M_alike_11 : decode zo_M_alike 11 = .ok (.iload_n 2, 1) := by decide +kernel
theorem zd_M_alike_12 : decode zo_M_alike 12 = .ok (.invokestatic 35, 3) := by decide +kernel
theorem zd_M_alike_15 : decode zo_M_alike 15 = .ok (.ifCond .eq 16, 3) := by decide +kernel
theorem zd_M_alike_18 : decode zo_M_alike 18 = .ok (.aload_n 0, 1) := by decide +kernel
theorem zd_M_alike_19 : decode zo_M_alike 19 = .ok (.iload_n 1, 1) := by decide +kernel
theorem zd_M_alike_20 : decode zo_M_alike 20 = .ok (.iload_n 2, 1) := by decide +kernel
theorem zd_M_alike_21 : decode zo_M_alike 21 = .ok (.invokevirtual 67, 3) := by decide +kernel
theorem zd_M_alike_24 : decode zo_M_alike 24 = .ok (.ifCond .eq 7, 3) := by decide +kernel
theorem zd_M_alike_27 : decode zo_M_alike 27 = .ok (.iconst 1, 1) := by decide +kernel
theorem zd_M_alike_28 : decode zo_M_alike 28 = .ok (.goto 4, 3) := by decide +kernel
theorem zd_M_alike_31 : decode zo_M_alike 31 = .ok (.iconst 0, 1) := by decide +kernel
theorem zd_M_alike_32 : decode zo_M_alike 32 = .ok (.ireturn, 1) := by decide +kernel
theorem zd_M_look_0 : decode zo_M_look 0 = .ok (.aload_n 0, 1) := by decide +kernel
theorem zd_M_look_1 : decode zo_M_look 1 = .ok (.getfield 50, 3) := by decide +kernel
theorem zd_M_look_4 : decode zo_M_look 4 = .ok (.ifCond .eq 4, 3) := by decide +kernel
theorem zd_M_look_7 : decode zo_M_look 7 = .ok (.return_, 1) := by decide +kernel
theorem zd_M_look_8 : decode zo_M_look 8 = .ok (.aload_n 0, 1) := by decide +kernel
theorem zd_M_look_9 : decode zo_M_look 9 = .ok (.iconst 1, 1) := by decide +kernel
theorem zd_M_look_10 : decode zo_M_look 10 = .ok (.putfield 50, 3) := by decide +kernel
theorem zd_M_look_13 : decode zo_M_look 13 = .ok (.aload_n 0, 1) := by decide +kernel
theorem zd_M_look_14 : decode zo_M_look 14 = .ok (.invokevirtual 70, 3) := by decide +kernel
theorem zd_M_look_17 : decode zo_M_look 17 = .ok (.aload_n 0, 1) := by decide +kernel
theorem zd_M_look_18 : decode zo_M_look 18 = .ok (.invokevirtual 73, 3) := by decide +kernel
theorem zd_M_look_21 : decode zo_M_look 21 = .ok (.aload_n 0, 1) := by decide +kernel
theorem zd_M_look_22 : decode zo_M_look 22 = .ok (.invokevirtual 76, 3) := by decide +kernel
theorem zd_M_look_25 : decode zo_M_look 25 = .ok (.return_, 1) := by decide +kernel
theorem zd_M_findBreaches_0 : decode zo_M_findBreaches 0 = .ok (.iconst 0, 1) := by decide +kernel
theorem zd_M_findBreaches_1 : decode zo_M_findBreaches 1 = .ok (.istore_n 1, 1) := by decide +kernel
theorem zd_M_findBreaches_2 : decode zo_M_findBreaches 2 = .ok (.iload_n 1, 1) := by decide +kernel
theorem zd_M_findBreaches_3 : decode zo_M_findBreaches 3 = .ok (.sipush 576, 3) := by decide +kernel
theorem zd_M_findBreaches_6 : decode zo_M_findBreaches 6 = .ok (.if_icmp .ge 43, 3) := by decide +kernel
theorem zd_M_findBreaches_9 : decode zo_M_findBreaches 9 = .ok (.aload_n 0, 1) := by decide +kernel
theorem zd_M_findBreaches_10 : decode zo_M_findBreaches 10 = .ok (.getfield 17, 3) := by decide +kernel
theorem zd_M_findBreaches_13 : decode zo_M_findBreaches 13 = .ok (.iload_n 1, 1) := by decide +kernel
theorem zd_M_findBreaches_14 : decode zo_M_findBreaches 14 = .ok (.aload_n 0, 1) := by decide +kernel
theorem zd_M_findBreaches_15 : decode zo_M_findBreaches 15 = .ok (.getfield 13, 3) := by decide +kernel
theorem zd_M_findBreaches_18 : decode zo_M_findBreaches 18 = .ok (.iload_n 1, 1) := by decide +kernel
theorem zd_M_findBreaches_19 : decode zo_M_findBreaches 19 = .ok (.bipush 24, 2) := by decide +kernel
theorem zd_M_findBreaches_21 : decode zo_M_findBreaches 21 = .ok (.idiv, 1) := by decide +kernel
theorem zd_M_findBreaches_22 : decode zo_M_findBreaches 22 = .ok (.iaload, 1) := by decide +kernel
theorem zd_M_findBreaches_23 : decode zo_M_findBreaches 23 = .ok (.aload_n 0, 1) := by decide +kernel
theorem zd_M_findBreaches_24 : decode zo_M_findBreaches 24 = .ok (.getfield 13, 3) := by decide +kernel
theorem zd_M_findBreaches_27 : decode zo_M_findBreaches 27 = .ok (.iload_n 1, 1) := by decide +kernel
theorem zd_M_findBreaches_28 : decode zo_M_findBreaches 28 = .ok (.bipush 24, 2) := by decide +kernel
theorem zd_M_findBreaches_30 : decode zo_M_findBreaches 30 = .ok (.irem, 1) := by decide +kernel
theorem zd_M_findBreaches_31 : decode zo_M_findBreaches 31 = .ok (.iaload, 1) := by decide +kernel
theorem zd_M_findBreaches_32 : decode zo_M_findBreaches 32 = .ok (.if_icmp .ne 9, 3) := by decide +kernel
theorem zd_M_findBreaches_35 : decode zo_M_findBreaches 35 = .ok (.sipush 1000, 3) := by decide +kernel
theorem zd_M_findBreaches_38 : decode zo_M_findBreaches 38 = .ok (.goto 4, 3) := by decide +kernel
theorem zd_M_findBreaches_41 : decode zo_M_findBreaches 41 = .ok (.iconst 0, 1) := by decide +kernel
theorem zd_M_findBreaches_42 : decode zo_M_findBreaches 42 = .ok (.iastore, 1) := by decide +kernel
theorem zd_M_findBreaches_43 : decode zo_M_findBreaches 43 = .ok (.iinc 1 1, 3) := by decide +kernel
theorem zd_M_findBreaches_46 : decode zo_M_findBreaches 46 = .ok (.goto (-44), 3) := by decide +kernel
theorem zd_M_findBreaches_49 : decode zo_M_findBreaches 49 = .ok (.iconst 1, 1) := by decide +kernel
theorem zd_M_findBreaches_50 : decode zo_M_findBreaches 50 = .ok (.istore_n 1, 1) := by decide +kernel
theorem zd_M_findBreaches_51 : decode zo_M_findBreaches 51 = .ok (.iconst 0, 1) := by decide +kernel
theorem zd_M_findBreaches_52 : decode zo_M_findBreaches 52 = .ok (.istore_n 2, 1) := by decide +kernel
theorem zd_M_findBreaches_53 : decode zo_M_findBreaches 53 = .ok (.iload_n 1, 1) := by decide +kernel
theorem zd_M_findBreaches_54 : decode zo_M_findBreaches 54 = .ok (.ifCond .eq 116, 3) := by decide +kernel
theorem zd_M_findBreaches_57 : decode zo_M_findBreaches 57 = .ok (.iconst 0, 1) := by decide +kernel
theorem zd_M_findBreaches_58 : decode zo_M_findBreaches 58 = .ok (.istore_n 1, 1) := by decide +kernel
theorem zd_M_findBreaches_59 : decode zo_M_findBreaches 59 = .ok (.iconst 0, 1) := by decide +kernel
theorem zd_M_findBreaches_60 : decode zo_M_findBreaches 60 = .ok (.istore_n 3, 1) := by decide +kernel
theorem zd_M_findBreaches_61 : decode zo_M_findBreaches 61 = .ok (.iload_n 3, 1) := by decide +kernel
theorem zd_M_findBreaches_62 : decode zo_M_findBreaches 62 = .ok (.sipush 576, 3) := by decide +kernel
theorem zd_M_findBreaches_65 : decode zo_M_findBreaches 65 = .ok (.if_icmp .ge 98, 3) := by decide +kernel
theorem zd_M_findBreaches_68 : decode zo_M_findBreaches 68 = .ok (.aload_n 0, 1) := by decide +kernel
theorem zd_M_findBreaches_69 : decode zo_M_findBreaches 69 = .ok (.getfield 17, 3) := by decide +kernel
theorem zd_M_findBreaches_72 : decode zo_M_findBreaches 72 = .ok (.iload_n 3, 1) := by decide +kernel
theorem zd_M_findBreaches_73 : decode zo_M_findBreaches 73 = .ok (.iaload, 1) := by decide +kernel
theorem zd_M_findBreaches_74 : decode zo_M_findBreaches 74 = .ok (.sipush 1000, 3) := by decide +kernel
theorem zd_M_findBreaches_77 : decode zo_M_findBreaches 77 = .ok (.if_icmp .ne 39, 3) := by decide +kernel
theorem zd_M_findBreaches_80 : decode zo_M_findBreaches 80 = .ok (.aload_n 0, 1) := by decide +kernel
theorem zd_M_findBreaches_81 : decode zo_M_findBreaches 81 = .ok (.iload_n 3, 1) := by decide +kernel
theorem zd_M_findBreaches_82 : decode zo_M_findBreaches 82 = .ok (.bipush 24, 2) := by decide +kernel
theorem zd_M_findBreaches_84 : decode zo_M_findBreaches 84 = .ok (.idiv, 1) := by decide +kernel
theorem zd_M_findBreaches_85 : decode zo_M_findBreaches 85 = .ok (.iload_n 3, 1) := by decide +kernel
theorem zd_M_findBreaches_86 : decode zo_M_findBreaches 86 = .ok (.bipush 24, 2) := by decide +kernel
theorem zd_M_findBreaches_88 : decode zo_M_findBreaches 88 = .ok (.irem, 1) := by decide +kernel
theorem zd_M_findBreaches_89 : decode zo_M_findBreaches 89 = .ok (.iload_n 2, 1) := by decide +kernel
theorem zd_M_findBreaches_90 : decode zo_M_findBreaches 90 = .ok (.invokevirtual 57, 3) := by decide +kernel
theorem zd_M_findBreaches_93 : decode zo_M_findBreaches 93 = .ok (.ifCond .eq 19, 3) := by decide +kernel
theorem zd_M_findBreaches_96 : decode zo_M_findBreaches 96 = .ok (.aload_n 0, 1) := by decide +kernel
theorem zd_M_findBreaches_97 : decode zo_M_findBreaches 97 = .ok (.iload_n 3, 1) := by decide +kernel
theorem zd_M_findBreaches_98 : decode zo_M_findBreaches 98 = .ok (.bipush 24, 2) := by decide +kernel
theorem zd_M_findBreaches_100 : decode zo_M_findBreaches 100 = .ok (.irem, 1) := by decide +kernel
theorem zd_M_findBreaches_101 : decode zo_M_findBreaches 101 = .ok (.iload_n 3, 1) := by decide +kernel
theorem zd_M_findBreaches_102 : decode zo_M_findBreaches 102 = .ok (.bipush 24, 2) := by decide +kernel
theorem zd_M_findBreaches_104 : decode zo_M_findBreaches 104 = .ok (.idiv, 1) := by decide +kernel
theorem zd_M_findBreaches_105 : decode zo_M_findBreaches 105 = .ok (.iload_n 2, 1) := by decide +kernel
theorem zd_M_findBreaches_106 : decode zo_M_findBreaches 106 = .ok (.invokevirtual 57, 3) := by decide +kernel
theorem zd_M_findBreaches_109 : decode zo_M_findBreaches 109 = .ok (.ifCond .ne 7, 3) := by decide +kernel
theorem zd_M_findBreaches_112 : decode zo_M_findBreaches 112 = .ok (.iconst 1, 1) := by decide +kernel
theorem zd_M_findBreaches_113 : decode zo_M_findBreaches 113 = .ok (.goto 4, 3) := by decide +kernel
theorem zd_M_findBreaches_116 : decode zo_M_findBreaches 116 = .ok (.iconst 0, 1) := by decide +kernel
theorem zd_M_findBreaches_117 : decode zo_M_findBreaches 117 = .ok (.istore 4, 2) := by decide +kernel
theorem zd_M_findBreaches_119 : decode zo_M_findBreaches 119 = .ok (.aload_n 0, 1) := by decide +kernel
theorem zd_M_findBreaches_120 : decode zo_M_findBreaches 120 = .ok (.getfield 17, 3) := by decide +kernel
theorem zd_M_findBreaches_123 : decode zo_M_findBreaches 123 = .ok (.iload_n 3, 1) := by decide +kernel
theorem zd_M_findBreaches_124 : decode zo_M_findBreaches 124 = .ok (.iload 4, 2) := by decide +kernel
theorem zd_M_findBreaches_126 : decode zo_M_findBreaches 126 = .ok (.ifCond .eq 9, 3) := by decide +kernel
theorem zd_M_findBreaches_129 : decode zo_M_findBreaches 129 = .ok (.iload_n 2, 1) := by decide +kernel
theorem zd_M_findBreaches_130 : decode zo_M_findBreaches 130 = .ok (.iconst 1, 1) := by decide +kernel
theorem zd_M_findBreaches_131 : decode zo_M_findBreaches 131 = .ok (.iadd, 1) := by decide +kernel
theorem zd_M_findBreaches_132 : decode zo_M_findBreaches 132 = .ok (.goto 9, 3) := by decide +kernel
theorem zd_M_findBreaches_135 : decode zo_M_findBreaches 135 = .ok (.aload_n 0, 1) := by decide +kernel
theorem zd_M_findBreaches_136 : decode zo_M_findBreaches 136 = .ok (.getfield 17, 3) := by decide +kernel
theorem zd_M_findBreaches_139 : decode zo_M_findBreaches 139 = .ok (.iload_n 3, 1) := by decide +kernel
theorem zd_M_findBreaches_140 : decode zo_M_findBreaches 140 = .ok (.iaload, 1) := by decide +kernel
theorem zd_M_findBreaches_141 : decode zo_M_findBreaches 141 = .ok (.iastore, 1) := by decide +kernel
theorem zd_M_findBreaches_142 : decode zo_M_findBreaches 142 = .ok (.iload_n 1, 1) := by decide +kernel
theorem zd_M_findBreaches_143 : decode zo_M_findBreaches 143 = .ok (.ifCond .ne 8, 3) := by decide +kernel
theorem zd_M_findBreaches_146 : decode zo_M_findBreaches 146 = .ok (.iload 4, 2) := by decide +kernel
theorem zd_M_findBreaches_148 : decode zo_M_findBreaches 148 = .ok (.ifCond .eq 7, 3) := by decide +kernel
theorem zd_M_findBreaches_151 : decode zo_M_findBreaches 151 = .ok (.iconst 1, 1) := by decide +kernel
theorem zd_M_findBreaches_152 : decode zo_M_findBreaches 152 = .ok (.goto 4, 3) := by decide +kernel
theorem zd_M_findBreaches_155 : decode zo_M_findBreaches 155 = .ok (.iconst 0, 1) := by decide +kernel
theorem zd_M_findBreaches_156 : decode zo_M_findBreaches 156 = .ok (.istore_n 1, 1) := by decide +kernel
theorem zd_M_findBreaches_157 : decode zo_M_findBreaches 157 = .ok (.iinc 3 1, 3) := by decide +kernel
theorem zd_M_findBreaches_160 : decode zo_M_findBreaches 160 = .ok (.goto (-99), 3) := by decide +kernel
theorem zd_M_findBreaches_163 : decode zo_M_findBreaches 163 = .ok (.iload_n 2, 1) := by decide +kernel
theorem zd_M_findBreaches_164 : decode zo_M_findBreaches 164 = .ok (.iconst 1, 1) := by decide +kernel
theorem zd_M_findBreaches_165 : decode zo_M_findBreaches 165 = .ok (.iadd, 1) := by decide +kernel
theorem zd_M_findBreaches_166 : decode zo_M_findBreaches 166 = .ok (.istore_n 2, 1) := by decide +kernel
theorem zd_M_findBreaches_167 : decode zo_M_findBreaches 167 = .ok (.goto (-114), 3) := by decide +kernel
theorem zd_M_findBreaches_170 : decode zo_M_findBreaches 170 = .ok (.return_, 1) := by decide +kernel
theorem zd_M_follows_0 : decode zo_M_follows 0 = .ok (.iconst 1, 1) := by decide +kernel
theorem zd_M_follows_1 : decode zo_M_follows 1 = .ok (.istore 4, 2) := by decide +kernel
theorem zd_M_follows_3 : decode zo_M_follows 3 = .ok (.iconst 0, 1) := by decide +kernel
theorem zd_M_follows_4 : decode zo_M_follows 4 = .ok (.istore 5, 2) := by decide +kernel
theorem zd_M_follows_6 : decode zo_M_follows 6 = .ok (.iload 5, 2) := by decide +kernel
theorem zd_M_follows_8 : decode zo_M_follows 8 = .ok (.bipush 96, 2) := by decide +kernel
theorem zd_M_follows_10 : decode zo_M_follows 10 = .ok (.if_icmp .ge 55, 3) := by decide +kernel
theorem zd_M_follows_13 : decode zo_M_follows 13 = .ok (.iload 4, 2) := by decide +kernel
theorem zd_M_follows_15 : decode zo_M_follows 15 = .ok (.ifCond .eq 41, 3) := by decide +kernel
theorem zd_M_follows_18 : decode zo_M_follows 18 = .ok (.aload_n 0, 1) := by decide +kernel
theorem zd_M_follows_19 : decode zo_M_follows 19 = .ok (.getfield 7, 3) := by decide +kernel
theorem zd_M_follows_22 : decode zo_M_follows 22 = .ok (.bipush 96, 2) := by decide +kernel
theorem zd_M_follows_24 : decode zo_M_follows 24 = .ok (.iload_n 1, 1) := by decide +kernel
theorem zd_M_follows_25 : decode zo_M_follows 25 = .ok (.imul, 1) := by decide +kernel
theorem zd_M_follows_26 : decode zo_M_follows 26 = .ok (.iload 5, 2) := by decide +kernel
theorem zd_M_follows_28 : decode zo_M_follows 28 = .ok (.iadd, 1) := by decide +kernel
theorem zd_M_follows_29 : decode zo_M_follows 29 = .ok (.baload, 1) := by decide +kernel
theorem zd_M_follows_30 : decode zo_M_follows 30 = .ok (.ifCond .eq 22, 3) := by decide +kernel
theorem zd_M_follows_33 : decode zo_M_follows 33 = .ok (.aload_n 0, 1) := by decide +kernel
theorem zd_M_follows_34 : decode zo_M_follows 34 = .ok (.iload_n 2, 1) := by decide +kernel
theorem zd_M_follows_35 : decode zo_M_follows 35 = .ok (.iload 5, 2) := by decide +kernel
theorem zd_M_follows_37 : decode zo_M_follows 37 = .ok (.bipush 24, 2) := by decide +kernel
theorem zd_M_follows_39 : decode zo_M_follows 39 = .ok (.idiv, 1) := by decide +kernel
theorem zd_M_follows_40 : decode zo_M_follows 40 = .ok (.iload 5, 2) := by decide +kernel
theorem zd_M_follows_42 : decode zo_M_follows 42 = .ok (.bipush 24, 2) := by decide +kernel
theorem zd_M_follows_44 : decode zo_M_follows 44 = .ok (.irem, 1) := by decide +kernel
theorem zd_M_follows_45 : decode zo_M_follows 45 = .ok (.iload_n 3, 1) := by decide +kernel
theorem zd_M_follows_46 : decode zo_M_follows 46 = .ok (.invokevirtual 54, 3) := by decide +kernel
theorem zd_M_follows_49 : decode zo_M_follows 49 = .ok (.ifCond .eq 7, 3) := by decide +kernel
theorem zd_M_follows_52 : decode zo_M_follows 52 = .ok (.iconst 1, 1) := by decide +kernel
theorem zd_M_follows_53 : decode zo_M_follows 53 = .ok (.goto 4, 3) := by decide +kernel
theorem zd_M_follows_56 : decode zo_M_follows 56 = .ok (.iconst 0, 1) := by decide +kernel
theorem zd_M_follows_57 : decode zo_M_follows 57 = .ok (.istore 4, 2) := by decide +kernel
theorem zd_M_follows_59 : decode zo_M_follows 59 = .ok (.iinc 5 1, 3) := by decide +kernel
theorem zd_M_follows_62 : decode zo_M_follows 62 = .ok (.goto (-56), 3) := by decide +kernel
theorem zd_M_follows_65 : decode zo_M_follows 65 = .ok (.iload 4, 2) := by decide +kernel
theorem zd_M_follows_67 : decode zo_M_follows 67 = .ok (.ireturn, 1) := by decide +kernel
theorem zd_M_answers_0 : decode zo_M_answers 0 = .ok (.iconst 0, 1) := by decide +kernel
theorem zd_M_answers_1 : decode zo_M_answers 1 = .ok (.istore 5, 2) := by decide +kernel
theorem zd_M_answers_3 : decode zo_M_answers 3 = .ok (.iconst 0, 1) := by decide +kernel
theorem zd_M_answers_4 : decode zo_M_answers 4 = .ok (.istore 6, 2) := by decide +kernel
theorem zd_M_answers_6 : decode zo_M_answers 6 = .ok (.iload 6, 2) := by decide +kernel
theorem zd_M_answers_8 : decode zo_M_answers 8 = .ok (.bipush 24, 2) := by decide +kernel
theorem zd_M_answers_10 : decode zo_M_answers 10 = .ok (.if_icmp .ge 49, 3) := by decide +kernel
theorem zd_M_answers_13 : decode zo_M_answers 13 = .ok (.iload 5, 2) := by decide +kernel
theorem zd_M_answers_15 : decode zo_M_answers 15 = .ok (.ifCond .ne 31, 3) := by decide +kernel
theorem zd_M_answers_18 : decode zo_M_answers 18 = .ok (.aload_n 0, 1) := by decide +kernel
theorem zd_M_answers_19 : decode zo_M_answers 19 = .ok (.iload_n 1, 1) := by decide +kernel
theorem zd_M_answers_20 : decode zo_M_answers 20 = .ok (.iload_n 2, 1) := by decide +kernel
theorem zd_M_answers_21 : decode zo_M_answers 21 = .ok (.iload 6, 2) := by decide +kernel
theorem zd_M_answers_23 : decode zo_M_answers 23 = .ok (.invokevirtual 42, 3) := by decide +kernel
theorem zd_M_answers_26 : decode zo_M_answers 26 = .ok (.ifCond .eq 24, 3) := by decide +kernel
theorem zd_M_answers_29 : decode zo_M_answers 29 = .ok (.aload_n 0, 1) := by decide +kernel
theorem zd_M_answers_30 : decode zo_M_answers 30 = .ok (.getfield 17, 3) := by decide +kernel
theorem zd_M_answers_33 : decode zo_M_answers 33 = .ok (.bipush 24, 2) := by decide +kernel
theorem zd_M_answers_35 : decode zo_M_answers 35 = .ok (.iload_n 3, 1) := by decide +kernel
theorem zd_M_answers_36 : decode zo_M_answers 36 = .ok (.imul, 1) := by decide +kernel
theorem zd_M_answers_37 : decode zo_M_answers 37 = .ok (.iload 6, 2) := by decide +kernel
theorem zd_M_answers_39 : decode zo_M_answers 39 = .ok (.iadd, 1) := by decide +kernel
theorem zd_M_answers_40 : decode zo_M_answers 40 = .ok (.iaload, 1) := by decide +kernel
theorem zd_M_answers_41 : decode zo_M_answers 41 = .ok (.iload 4, 2) := by decide +kernel
theorem zd_M_answers_43 : decode zo_M_answers 43 = .ok (.if_icmp .le 7, 3) := by decide +kernel
theorem zd_M_answers_46 : decode zo_M_answers 46 = .ok (.iconst 1, 1) := by decide +kernel
theorem zd_M_answers_47 : decode zo_M_answers 47 = .ok (.goto 4, 3) := by decide +kernel
theorem zd_M_answers_50 : decode zo_M_answers 50 = .ok (.iconst 0, 1) := by decide +kernel
theorem zd_M_answers_51 : decode zo_M_answers 51 = .ok (.istore 5, 2) := by decide +kernel
theorem zd_M_answers_53 : decode zo_M_answers 53 = .ok (.iinc 6 1, 3) := by decide +kernel
theorem zd_M_answers_56 : decode zo_M_answers 56 = .ok (.goto (-50), 3) := by decide +kernel
theorem zd_M_answers_59 : decode zo_M_answers 59 = .ok (.iload 5, 2) := by decide +kernel
theorem zd_M_answers_61 : decode zo_M_answers 61 = .ok (.ireturn, 1) := by decide +kernel
theorem zd_M_findCovers_0 : decode zo_M_findCovers 0 = .ok (.iconst 0, 1) := by decide +kernel
theorem zd_M_findCovers_1 : decode zo_M_findCovers 1 = .ok (.istore_n 1, 1) := by decide +kernel
theorem zd_M_findCovers_2 : decode zo_M_findCovers 2 = .ok (.iload_n 1, 1) := by decide +kernel
theorem zd_M_findCovers_3 : decode zo_M_findCovers 3 = .ok (.sipush 576, 3) := by decide +kernel
theorem zd_M_findCovers_6 : decode zo_M_findCovers 6 = .ok (.if_icmp .ge 41, 3) := by decide +kernel
theorem zd_M_findCovers_9 : decode zo_M_findCovers 9 = .ok (.aload_n 0, 1) := by decide +kernel
theorem zd_M_findCovers_10 : decode zo_M_findCovers 10 = .ok (.getfield 20, 3) := by decide +kernel
theorem zd_M_findCovers_13 : decode zo_M_findCovers 13 = .ok (.iload_n 1, 1) := by decide +kernel
theorem zd_M_findCovers_14 : decode zo_M_findCovers 14 = .ok (.aload_n 0, 1) := by decide +kernel
theorem zd_M_findCovers_15 : decode zo_M_findCovers 15 = .ok (.getfield 13, 3) := by decide +kernel
theorem zd_M_findCovers_18 : decode zo_M_findCovers 18 = .ok (.iload_n 1, 1) := by decide +kernel
theorem zd_M_findCovers_19 : decode zo_M_findCovers 19 = .ok (.bipush 24, 2) := by decide +kernel
theorem zd_M_findCovers_21 : decode zo_M_findCovers 21 = .ok (.idiv, 1) := by decide +kernel
theorem zd_M_findCovers_22 : decode zo_M_findCovers 22 = .ok (.iaload, 1) := by decide +kernel
theorem zd_M_findCovers_23 : decode zo_M_findCovers 23 = .ok (.aload_n 0, 1) := by decide +kernel
theorem zd_M_findCovers_24 : decode zo_M_findCovers 24 = .ok (.getfield 13, 3) := by decide +kernel
theorem zd_M_findCovers_27 : decode zo_M_findCovers 27 = .ok (.iload_n 1, 1) := by decide +kernel
theorem zd_M_findCovers_28 : decode zo_M_findCovers 28 = .ok (.bipush 24, 2) := by decide +kernel
theorem zd_M_findCovers_30 : decode zo_M_findCovers 30 = .ok (.irem, 1) := by decide +kernel
theorem zd_M_findCovers_31 : decode zo_M_findCovers 31 = .ok (.iaload, 1) := by decide +kernel
theorem zd_M_findCovers_32 : decode zo_M_findCovers 32 = .ok (.if_icmp .ne 7, 3) := by decide +kernel
theorem zd_M_findCovers_35 : decode zo_M_findCovers 35 = .ok (.iconst 1, 1) := by decide +kernel
theorem zd_M_findCovers_36 : decode zo_M_findCovers 36 = .ok (.goto 4, 3) := by decide +kernel
theorem zd_M_findCovers_39 : decode zo_M_findCovers 39 = .ok (.iconst 0, 1) := by decide +kernel
theorem zd_M_findCovers_40 : decode zo_M_findCovers 40 = .ok (.bastore, 1) := by decide +kernel
theorem zd_M_findCovers_41 : decode zo_M_findCovers 41 = .ok (.iinc 1 1, 3) := by decide +kernel
theorem zd_M_findCovers_44 : decode zo_M_findCovers 44 = .ok (.goto (-42), 3) := by decide +kernel
theorem zd_M_findCovers_47 : decode zo_M_findCovers 47 = .ok (.iconst 1, 1) := by decide +kernel
theorem zd_M_findCovers_48 : decode zo_M_findCovers 48 = .ok (.istore_n 1, 1) := by decide +kernel
theorem zd_M_findCovers_49 : decode zo_M_findCovers 49 = .ok (.iload_n 1, 1) := by decide +kernel
theorem zd_M_findCovers_50 : decode zo_M_findCovers 50 = .ok (.ifCond .eq 110, 3) := by decide +kernel
theorem zd_M_findCovers_53 : decode zo_M_findCovers 53 = .ok (.iconst 0, 1) := by decide +kernel
theorem zd_M_findCovers_54 : decode zo_M_findCovers 54 = .ok (.istore_n 1, 1) := by decide +kernel
theorem zd_M_findCovers_55 : decode zo_M_findCovers 55 = .ok (.iconst 0, 1) := by decide +kernel
theorem zd_M_findCovers_56 : decode zo_M_findCovers 56 = .ok (.istore_n 2, 1) := by decide +kernel
theorem zd_M_findCovers_57 : decode zo_M_findCovers 57 = .ok (.iload_n 2, 1) := by decide +kernel
theorem zd_M_findCovers_58 : decode zo_M_findCovers 58 = .ok (.sipush 576, 3) := by decide +kernel
theorem zd_M_findCovers_61 : decode zo_M_findCovers 61 = .ok (.if_icmp .ge 69, 3) := by decide +kernel
theorem zd_M_findCovers_64 : decode zo_M_findCovers 64 = .ok (.aload_n 0, 1) := by decide +kernel
theorem zd_M_findCovers_65 : decode zo_M_findCovers 65 = .ok (.getfield 23, 3) := by decide +kernel
theorem zd_M_findCovers_68 : decode zo_M_findCovers 68 = .ok (.iload_n 2, 1) := by decide +kernel
theorem zd_M_findCovers_69 : decode zo_M_findCovers 69 = .ok (.aload_n 0, 1) := by decide +kernel
theorem zd_M_findCovers_70 : decode zo_M_findCovers 70 = .ok (.getfield 20, 3) := by decide +kernel
theorem zd_M_findCovers_73 : decode zo_M_findCovers 73 = .ok (.iload_n 2, 1) := by decide +kernel
theorem zd_M_findCovers_74 : decode zo_M_findCovers 74 = .ok (.baload, 1) := by decide +kernel
theorem zd_M_findCovers_75 : decode zo_M_findCovers 75 = .ok (.ifCond .eq 22, 3) := by decide +kernel
theorem zd_M_findCovers_78 : decode zo_M_findCovers 78 = .ok (.aload_n 0, 1) := by decide +kernel
theorem zd_M_findCovers_79 : decode zo_M_findCovers 79 = .ok (.iload_n 2, 1) := by decide +kernel
theorem zd_M_findCovers_80 : decode zo_M_findCovers 80 = .ok (.bipush 24, 2) := by decide +kernel
theorem zd_M_findCovers_82 : decode zo_M_findCovers 82 = .ok (.idiv, 1) := by decide +kernel
theorem zd_M_findCovers_83 : decode zo_M_findCovers 83 = .ok (.iload_n 2, 1) := by decide +kernel
theorem zd_M_findCovers_84 : decode zo_M_findCovers 84 = .ok (.bipush 24, 2) := by decide +kernel
theorem zd_M_findCovers_86 : decode zo_M_findCovers 86 = .ok (.irem, 1) := by decide +kernel
theorem zd_M_findCovers_87 : decode zo_M_findCovers 87 = .ok (.invokevirtual 60, 3) := by decide +kernel
theorem zd_M_findCovers_90 : decode zo_M_findCovers 90 = .ok (.ifCond .eq 7, 3) := by decide +kernel
theorem zd_M_findCovers_93 : decode zo_M_findCovers 93 = .ok (.iconst 1, 1) := by decide +kernel
theorem zd_M_findCovers_94 : decode zo_M_findCovers 94 = .ok (.goto 4, 3) := by decide +kernel
theorem zd_M_findCovers_97 : decode zo_M_findCovers 97 = .ok (.iconst 0, 1) := by decide +kernel
theorem zd_M_findCovers_98 : decode zo_M_findCovers 98 = .ok (.bastore, 1) := by decide +kernel
theorem zd_M_findCovers_99 : decode zo_M_findCovers 99 = .ok (.iload_n 1, 1) := by decide +kernel
theorem zd_M_findCovers_100 : decode zo_M_findCovers 100 = .ok (.ifCond .ne 18, 3) := by decide +kernel
theorem zd_M_findCovers_103 : decode zo_M_findCovers 103 = .ok (.aload_n 0, 1) := by decide +kernel
theorem zd_M_findCovers_104 : decode zo_M_findCovers 104 = .ok (.getfield 23, 3) := by decide +kernel
theorem zd_M_findCovers_107 : decode zo_M_findCovers 107 = .ok (.iload_n 2, 1) := by decide +kernel
theorem zd_M_findCovers_108 : decode zo_M_findCovers 108 = .ok (.baload, 1) := by decide +kernel
theorem zd_M_findCovers_109 : decode zo_M_findCovers 109 = .ok (.aload_n 0, 1) := by decide +kernel
theorem zd_M_findCovers_110 : decode zo_M_findCovers 110 = .ok (.getfield 20, 3) := by decide +kernel
theorem zd_M_findCovers_113 : decode zo_M_findCovers 113 = .ok (.iload_n 2, 1) := by decide +kernel
theorem zd_M_findCovers_114 : decode zo_M_findCovers 114 = .ok (.baload, 1) := by decide +kernel
theorem zd_M_findCovers_115 : decode zo_M_findCovers 115 = .ok (.if_icmp .eq 7, 3) := by decide +kernel
theorem zd_M_findCovers_118 : decode zo_M_findCovers 118 = .ok (.iconst 1, 1) := by decide +kernel
theorem zd_M_findCovers_119 : decode zo_M_findCovers 119 = .ok (.goto 4, 3) := by decide +kernel
theorem zd_M_findCovers_122 : decode zo_M_findCovers 122 = .ok (.iconst 0, 1) := by decide +kernel
theorem zd_M_findCovers_123 : decode zo_M_findCovers 123 = .ok (.istore_n 1, 1) := by decide +kernel
theorem zd_M_findCovers_124 : decode zo_M_findCovers 124 = .ok (.iinc 2 1, 3) := by decide +kernel
theorem zd_M_findCovers_127 : decode zo_M_findCovers 127 = .ok (.goto (-70), 3) := by decide +kernel
theorem zd_M_findCovers_130 : decode zo_M_findCovers 130 = .ok (.iconst 0, 1) := by decide +kernel
theorem zd_M_findCovers_131 : decode zo_M_findCovers 131 = .ok (.istore_n 2, 1) := by decide +kernel
theorem zd_M_findCovers_132 : decode zo_M_findCovers 132 = .ok (.iload_n 2, 1) := by decide +kernel
theorem zd_M_findCovers_133 : decode zo_M_findCovers 133 = .ok (.sipush 576, 3) := by decide +kernel
theorem zd_M_findCovers_136 : decode zo_M_findCovers 136 = .ok (.if_icmp .ge 21, 3) := by decide +kernel
theorem zd_M_findCovers_139 : decode zo_M_findCovers 139 = .ok (.aload_n 0, 1) := by decide +kernel
theorem zd_M_findCovers_140 : decode zo_M_findCovers 140 = .ok (.getfield 20, 3) := by decide +kernel
theorem zd_M_findCovers_143 : decode zo_M_findCovers 143 = .ok (.iload_n 2, 1) := by decide +kernel
theorem zd_M_findCovers_144 : decode zo_M_findCovers 144 = .ok (.aload_n 0, 1) := by decide +kernel
theorem zd_M_findCovers_145 : decode zo_M_findCovers 145 = .ok (.getfield 23, 3) := by decide +kernel
theorem zd_M_findCovers_148 : decode zo_M_findCovers 148 = .ok (.iload_n 2, 1) := by decide +kernel
theorem zd_M_findCovers_149 : decode zo_M_findCovers 149 = .ok (.baload, 1) := by decide +kernel
theorem zd_M_findCovers_150 : decode zo_M_findCovers 150 = .ok (.bastore, 1) := by decide +kernel
theorem zd_M_findCovers_151 : decode zo_M_findCovers 151 = .ok (.iinc 2 1, 3) := by decide +kernel
theorem zd_M_findCovers_154 : decode zo_M_findCovers 154 = .ok (.goto (-22), 3) := by decide +kernel
theorem zd_M_findCovers_157 : decode zo_M_findCovers 157 = .ok (.goto (-108), 3) := by decide +kernel
theorem zd_M_findCovers_160 : decode zo_M_findCovers 160 = .ok (.return_, 1) := by decide +kernel
theorem zd_M_matches_0 : decode zo_M_matches 0 = .ok (.iconst 1, 1) := by decide +kernel
theorem zd_M_matches_1 : decode zo_M_matches 1 = .ok (.istore_n 3, 1) := by decide +kernel
theorem zd_M_matches_2 : decode zo_M_matches 2 = .ok (.iconst 0, 1) := by decide +kernel
theorem zd_M_matches_3 : decode zo_M_matches 3 = .ok (.istore 4, 2) := by decide +kernel
theorem zd_M_matches_5 : decode zo_M_matches 5 = .ok (.iload 4, 2) := by decide +kernel
theorem zd_M_matches_7 : decode zo_M_matches 7 = .ok (.bipush 96, 2) := by decide +kernel
theorem zd_M_matches_9 : decode zo_M_matches 9 = .ok (.if_icmp .ge 108, 3) := by decide +kernel
theorem zd_M_matches_12 : decode zo_M_matches 12 = .ok (.aload_n 0, 1) := by decide +kernel
theorem zd_M_matches_13 : decode zo_M_matches 13 = .ok (.getfield 7, 3) := by decide +kernel
theorem zd_M_matches_16 : decode zo_M_matches 16 = .ok (.bipush 96, 2) := by decide +kernel
theorem zd_M_matches_18 : decode zo_M_matches 18 = .ok (.iload_n 2, 1) := by decide +kernel
theorem zd_M_matches_19 : decode zo_M_matches 19 = .ok (.imul, 1) := by decide +kernel
theorem zd_M_matches_20 : decode zo_M_matches 20 = .ok (.iload 4, 2) := by decide +kernel
theorem zd_M_matches_22 : decode zo_M_matches 22 = .ok (.iadd, 1) := by decide +kernel
theorem zd_M_matches_23 : decode zo_M_matches 23 = .ok (.baload, 1) := by decide +kernel
theorem zd_M_matches_24 : decode zo_M_matches 24 = .ok (.ifCond .ne 7, 3) := by decide +kernel
theorem zd_M_matches_27 : decode zo_M_matches 27 = .ok (.iconst 1, 1) := by decide +kernel
theorem zd_M_matches_28 : decode zo_M_matches 28 = .ok (.goto 4, 3) := by decide +kernel
theorem zd_M_matches_31 : decode zo_M_matches 31 = .ok (.iconst 0, 1) := by decide +kernel
theorem zd_M_matches_32 : decode zo_M_matches 32 = .ok (.istore 5, 2) := by decide +kernel
theorem zd_M_matches_34 : decode zo_M_matches 34 = .ok (.iconst 0, 1) := by decide +kernel
theorem zd_M_matches_35 : decode zo_M_matches 35 = .ok (.istore 6, 2) := by decide +kernel
theorem zd_M_matches_37 : decode zo_M_matches 37 = .ok (.iload 6, 2) := by decide +kernel
theorem zd_M_matches_39 : decode zo_M_matches 39 = .ok (.bipush 24, 2) := by decide +kernel
theorem zd_M_matches_41 : decode zo_M_matches 41 = .ok (.if_icmp .ge 55, 3) := by decide +kernel
theorem zd_M_matches_44 : decode zo_M_matches 44 = .ok (.iload 5, 2) := by decide +kernel
theorem zd_M_matches_46 : decode zo_M_matches 46 = .ok (.ifCond .ne 50, 3) := by decide +kernel
theorem zd_M_matches_49 : decode zo_M_matches 49 = .ok (.aload_n 0, 1) := by decide +kernel
theorem zd_M_matches_50 : decode zo_M_matches 50 = .ok (.iload_n 1, 1) := by decide +kernel
theorem zd_M_matches_51 : decode zo_M_matches 51 = .ok (.iload 4, 2) := by decide +kernel
theorem zd_M_matches_53 : decode zo_M_matches 53 = .ok (.bipush 24, 2) := by decide +kernel
theorem zd_M_matches_55 : decode zo_M_matches 55 = .ok (.idiv, 1) := by decide +kernel
theorem zd_M_matches_56 : decode zo_M_matches 56 = .ok (.iload 6, 2) := by decide +kernel
theorem zd_M_matches_58 : decode zo_M_matches 58 = .ok (.invokevirtual 42, 3) := by decide +kernel
theorem zd_M_matches_61 : decode zo_M_matches 61 = .ok (.ifCond .eq 26, 3) := by decide +kernel
theorem zd_M_matches_64 : decode zo_M_matches 64 = .ok (.aload_n 0, 1) := by decide +kernel
theorem zd_M_matches_65 : decode zo_M_matches 65 = .ok (.getfield 20, 3) := by decide +kernel
theorem zd_M_matches_68 : decode zo_M_matches 68 = .ok (.bipush 24, 2) := by decide +kernel
theorem zd_M_matches_70 : decode zo_M_matches 70 = .ok (.iload 6, 2) := by decide +kernel
theorem zd_M_matches_72 : decode zo_M_matches 72 = .ok (.imul, 1) := by decide +kernel
theorem zd_M_matches_73 : decode zo_M_matches 73 = .ok (.iload 4, 2) := by decide +kernel
theorem zd_M_matches_75 : decode zo_M_matches 75 = .ok (.bipush 24, 2) := by decide +kernel
theorem zd_M_matches_77 : decode zo_M_matches 77 = .ok (.irem, 1) := by decide +kernel
theorem zd_M_matches_78 : decode zo_M_matches 78 = .ok (.iadd, 1) := by decide +kernel
theorem zd_M_matches_79 : decode zo_M_matches 79 = .ok (.baload, 1) := by decide +kernel
theorem zd_M_matches_80 : decode zo_M_matches 80 = .ok (.ifCond .eq 7, 3) := by decide +kernel
theorem zd_M_matches_83 : decode zo_M_matches 83 = .ok (.iconst 1, 1) := by decide +kernel
theorem zd_M_matches_84 : decode zo_M_matches 84 = .ok (.goto 4, 3) := by decide +kernel
theorem zd_M_matches_87 : decode zo_M_matches 87 = .ok (.iconst 0, 1) := by decide +kernel
theorem zd_M_matches_88 : decode zo_M_matches 88 = .ok (.istore 5, 2) := by decide +kernel
theorem zd_M_matches_90 : decode zo_M_matches 90 = .ok (.iinc 6 1, 3) := by decide +kernel
theorem zd_M_matches_93 : decode zo_M_matches 93 = .ok (.goto (-56), 3) := by decide +kernel
theorem zd_M_matches_96 : decode zo_M_matches 96 = .ok (.iload_n 3, 1) := by decide +kernel
theorem zd_M_matches_97 : decode zo_M_matches 97 = .ok (.ifCond .eq 12, 3) := by decide +kernel
theorem zd_M_matches_100 : decode zo_M_matches 100 = .ok (.iload 5, 2) := by decide +kernel
theorem zd_M_matches_102 : decode zo_M_matches 102 = .ok (.ifCond .eq 7, 3) := by decide +kernel
theorem zd_M_matches_105 : decode zo_M_matches 105 = .ok (.iconst 1, 1) := by decide +kernel
theorem zd_M_matches_106 : decode zo_M_matches 106 = .ok (.goto 4, 3) := by decide +kernel
theorem zd_M_matches_109 : decode zo_M_matches 109 = .ok (.iconst 0, 1) := by decide +kernel
theorem zd_M_matches_110 : decode zo_M_matches 110 = .ok (.istore_n 3, 1) := by decide +kernel
theorem zd_M_matches_111 : decode zo_M_matches 111 = .ok (.iinc 4 1, 3) := by decide +kernel
theorem zd_M_matches_114 : decode zo_M_matches 114 = .ok (.goto (-109), 3) := by decide +kernel
theorem zd_M_matches_117 : decode zo_M_matches 117 = .ok (.iload_n 3, 1) := by decide +kernel
theorem zd_M_matches_118 : decode zo_M_matches 118 = .ok (.ireturn, 1) := by decide +kernel
theorem zd_M_findKinds_0 : decode zo_M_findKinds 0 = .ok (.aload_n 0, 1) := by decide +kernel
theorem zd_M_findKinds_1 : decode zo_M_findKinds 1 = .ok (.iconst 0, 1) := by decide +kernel
theorem zd_M_findKinds_2 : decode zo_M_findKinds 2 = .ok (.putfield 64, 3) := by decide +kernel
theorem zd_M_findKinds_5 : decode zo_M_findKinds 5 = .ok (.iconst 0, 1) := by decide +kernel
theorem zd_M_findKinds_6 : decode zo_M_findKinds 6 = .ok (.istore_n 1, 1) := by decide +kernel
theorem zd_M_findKinds_7 : decode zo_M_findKinds 7 = .ok (.iload_n 1, 1) := by decide +kernel
theorem zd_M_findKinds_8 : decode zo_M_findKinds 8 = .ok (.bipush 24, 2) := by decide +kernel
theorem zd_M_findKinds_10 : decode zo_M_findKinds 10 = .ok (.if_icmp .ge 88, 3) := by decide +kernel
theorem zd_M_findKinds_13 : decode zo_M_findKinds 13 = .ok (.aload_n 0, 1) := by decide +kernel
theorem zd_M_findKinds_14 : decode zo_M_findKinds 14 = .ok (.getfield 26, 3) := by decide +kernel
theorem zd_M_findKinds_17 : decode zo_M_findKinds 17 = .ok (.iload_n 1, 1) := by decide +kernel
theorem zd_M_findKinds_18 : decode zo_M_findKinds 18 = .ok (.iconst (-1), 1) := by decide +kernel
theorem zd_M_findKinds_19 : decode zo_M_findKinds 19 = .ok (.iastore, 1) := by decide +kernel
theorem zd_M_findKinds_20 : decode zo_M_findKinds 20 = .ok (.iconst 0, 1) := by decide +kernel
theorem zd_M_findKinds_21 : decode zo_M_findKinds 21 = .ok (.istore_n 2, 1) := by decide +kernel
theorem zd_M_findKinds_22 : decode zo_M_findKinds 22 = .ok (.iload_n 2, 1) := by decide +kernel
theorem zd_M_findKinds_23 : decode zo_M_findKinds 23 = .ok (.iload_n 1, 1) := by decide +kernel
theorem zd_M_findKinds_24 : decode zo_M_findKinds 24 = .ok (.if_icmp .ge 39, 3) := by decide +kernel
theorem zd_M_findKinds_27 : decode zo_M_findKinds 27 = .ok (.aload_n 0, 1) := by decide +kernel
theorem zd_M_findKinds_28 : decode zo_M_findKinds 28 = .ok (.getfield 26, 3) := by decide +kernel
theorem zd_M_findKinds_31 : decode zo_M_findKinds 31 = .ok (.iload_n 1, 1) := by decide +kernel
theorem zd_M_findKinds_32 : decode zo_M_findKinds 32 = .ok (.aload_n 0, 1) := by decide +kernel
theorem zd_M_findKinds_33 : decode zo_M_findKinds 33 = .ok (.iload_n 1, 1) := by decide +kernel
theorem zd_M_findKinds_34 : decode zo_M_findKinds 34 = .ok (.iload_n 2, 1) := by decide +kernel
theorem zd_M_findKinds_35 : decode zo_M_findKinds 35 = .ok (.invokevirtual 67, 3) := by decide +kernel
theorem zd_M_findKinds_38 : decode zo_M_findKinds 38 = .ok (.ifCond .eq 12, 3) := by decide +kernel
theorem zd_M_findKinds_41 : decode zo_M_findKinds 41 = .ok (.aload_n 0, 1) := by decide +kernel
theorem zd_M_findKinds_42 : decode zo_M_findKinds 42 = .ok (.getfield 26, 3) := by decide +kernel
theorem zd_M_findKinds_45 : decode zo_M_findKinds 45 = .ok (.iload_n 2, 1) := by decide +kernel
theorem zd_M_findKinds_46 : decode zo_M_findKinds 46 = .ok (.iaload, 1) := by decide +kernel
theorem zd_M_findKinds_47 : decode zo_M_findKinds 47 = .ok (.goto 9, 3) := by decide +kernel
theorem zd_M_findKinds_50 : decode zo_M_findKinds 50 = .ok (.aload_n 0, 1) := by decide +kernel
theorem zd_M_findKinds_51 : decode zo_M_findKinds 51 = .ok (.getfield 26, 3) := by decide +kernel
theorem zd_M_findKinds_54 : decode zo_M_findKinds 54 = .ok (.iload_n 1, 1) := by decide +kernel
theorem zd_M_findKinds_55 : decode zo_M_findKinds 55 = .ok (.iaload, 1) := by decide +kernel
theorem zd_M_findKinds_56 : decode zo_M_findKinds 56 = .ok (.iastore, 1) := by decide +kernel
theorem zd_M_findKinds_57 : decode zo_M_findKinds 57 = .ok (.iinc 2 1, 3) := by decide +kernel
theorem zd_M_findKinds_60 : decode zo_M_findKinds 60 = .ok (.goto (-38), 3) := by decide +kernel
theorem zd_M_findKinds_63 : decode zo_M_findKinds 63 = .ok (.aload_n 0, 1) := by decide +kernel
theorem zd_M_findKinds_64 : decode zo_M_findKinds 64 = .ok (.getfield 26, 3) := by decide +kernel
theorem zd_M_findKinds_67 : decode zo_M_findKinds 67 = .ok (.iload_n 1, 1) := by decide +kernel
theorem zd_M_findKinds_68 : decode zo_M_findKinds 68 = .ok (.iaload, 1) := by decide +kernel
theorem zd_M_findKinds_69 : decode zo_M_findKinds 69 = .ok (.ifCond .ge 23, 3) := by decide +kernel
theorem zd_M_findKinds_72 : decode zo_M_findKinds 72 = .ok (.aload_n 0, 1) := by decide +kernel
theorem zd_M_findKinds_73 : decode zo_M_findKinds 73 = .ok (.getfield 26, 3) := by decide +kernel
theorem zd_M_findKinds_76 : decode zo_M_findKinds 76 = .ok (.iload_n 1, 1) := by decide +kernel
theorem zd_M_findKinds_77 : decode zo_M_findKinds 77 = .ok (.aload_n 0, 1) := by decide +kernel
theorem zd_M_findKinds_78 : decode zo_M_findKinds 78 = .ok (.getfield 64, 3) := by decide +kernel
theorem zd_M_findKinds_81 : decode zo_M_findKinds 81 = .ok (.iastore, 1) := by decide +kernel
theorem zd_M_findKinds_82 : decode zo_M_findKinds 82 = .ok (.aload_n 0, 1) := by decide +kernel
theorem zd_M_findKinds_83 : decode zo_M_findKinds 83 = .ok (.aload_n 0, 1) := by decide +kernel
theorem zd_M_findKinds_84 : decode zo_M_findKinds 84 = .ok (.getfield 64, 3) := by decide +kernel
theorem zd_M_findKinds_87 : decode zo_M_findKinds 87 = .ok (.iconst 1, 1) := by decide +kernel
theorem zd_M_findKinds_88 : decode zo_M_findKinds 88 = .ok (.iadd, 1) := by decide +kernel
theorem zd_M_findKinds_89 : decode zo_M_findKinds 89 = .ok (.putfield 64, 3) := by decide +kernel
theorem zd_M_findKinds_92 : decode zo_M_findKinds 92 = .ok (.iinc 1 1, 3) := by decide +kernel
theorem zd_M_findKinds_95 : decode zo_M_findKinds 95 = .ok (.goto (-88), 3) := by decide +kernel
theorem zd_M_findKinds_98 : decode zo_M_findKinds 98 = .ok (.return_, 1) := by decide +kernel
theorem zd_M_areAlike_0 : decode zo_M_areAlike 0 = .ok (.aload_n 0, 1) := by decide +kernel
theorem zd_M_areAlike_1 : decode zo_M_areAlike 1 = .ok (.getfield 17, 3) := by decide +kernel
theorem zd_M_areAlike_4 : decode zo_M_areAlike 4 = .ok (.bipush 24, 2) := by decide +kernel
theorem zd_M_areAlike_6 : decode zo_M_areAlike 6 = .ok (.iload_n 1, 1) := by decide +kernel
theorem zd_M_areAlike_7 : decode zo_M_areAlike 7 = .ok (.imul, 1) := by decide +kernel
theorem zd_M_areAlike_8 : decode zo_M_areAlike 8 = .ok (.iload_n 2, 1) := by decide +kernel
theorem zd_M_areAlike_9 : decode zo_M_areAlike 9 = .ok (.iadd, 1) := by decide +kernel
theorem zd_M_areAlike_10 : decode zo_M_areAlike 10 = .ok (.iaload, 1) := by decide +kernel
theorem zd_M_areAlike_11 : decode zo_M_areAlike 11 = .ok (.sipush 1000, 3) := by decide +kernel
theorem zd_M_areAlike_14 : decode zo_M_areAlike 14 = .ok (.if_icmp .ne 7, 3) := by decide +kernel
theorem zd_M_areAlike_17 : decode zo_M_areAlike 17 = .ok (.iconst 1, 1) := by decide +kernel
theorem zd_M_areAlike_18 : decode zo_M_areAlike 18 = .ok (.goto 4, 3) := by decide +kernel
theorem zd_M_areAlike_21 : decode zo_M_areAlike 21 = .ok (.iconst 0, 1) := by decide +kernel
theorem zd_M_areAlike_22 : decode zo_M_areAlike 22 = .ok (.ireturn, 1) := by decide +kernel
theorem zd_M_breach_0 : decode zo_M_breach 0 = .ok (.aload_n 0, 1) := by decide +kernel
theorem zd_M_breach_1 : decode zo_M_breach 1 = .ok (.invokevirtual 79, 3) := by decide +kernel
theorem zd_M_breach_4 : decode zo_M_breach 4 = .ok (.iload_n 1, 1) := by decide +kernel
theorem zd_M_breach_5 : decode zo_M_breach 5 = .ok (.invokestatic 35, 3) := by decide +kernel
theorem zd_M_breach_8 : decode zo_M_breach 8 = .ok (.ifCond .eq 19, 3) := by decide +kernel
theorem zd_M_breach_11 : decode zo_M_breach 11 = .ok (.iload_n 2, 1) := by decide +kernel
theorem zd_M_breach_12 : decode zo_M_breach 12 = .ok (.invokestatic 35, 3) := by decide +kernel
theorem zd_M_breach_15 : decode zo_M_breach 15 = .ok (.ifCond .eq 12, 3) := by decide +kernel
theorem zd_M_breach_18 : decode zo_M_breach 18 = .ok (.aload_n 0, 1) := by decide +kernel
theorem zd_M_breach_19 : decode zo_M_breach 19 = .ok (.iload_n 1, 1) := by decide +kernel
theorem zd_M_breach_20 : decode zo_M_breach 20 = .ok (.iload_n 2, 1) := by decide +kernel
theorem zd_M_breach_21 : decode zo_M_breach 21 = .ok (.invokevirtual 67, 3) := by decide +kernel
theorem zd_M_breach_24 : decode zo_M_breach 24 = .ok (.ifCond .eq 7, 3) := by decide +kernel
theorem zd_M_breach_27 : decode zo_M_breach 27 = .ok (.iconst (-1), 1) := by decide +kernel
theorem zd_M_breach_28 : decode zo_M_breach 28 = .ok (.goto 14, 3) := by decide +kernel
theorem zd_M_breach_31 : decode zo_M_breach 31 = .ok (.aload_n 0, 1) := by decide +kernel
theorem zd_M_breach_32 : decode zo_M_breach 32 = .ok (.getfield 17, 3) := by decide +kernel
theorem zd_M_breach_35 : decode zo_M_breach 35 = .ok (.bipush 24, 2) := by decide +kernel
theorem zd_M_breach_37 : decode zo_M_breach 37 = .ok (.iload_n 1, 1) := by decide +kernel
theorem zd_M_breach_38 : decode zo_M_breach 38 = .ok (.imul, 1) := by decide +kernel
theorem zd_M_breach_39 : decode zo_M_breach 39 = .ok (.iload_n 2, 1) := by decide +kernel
theorem zd_M_breach_40 : decode zo_M_breach 40 = .ok (.iadd, 1) := by decide +kernel
theorem zd_M_breach_41 : decode zo_M_breach 41 = .ok (.iaload, 1) := by decide +kernel
theorem zd_M_breach_42 : decode zo_M_breach 42 = .ok (.ireturn, 1) := by decide +kernel
theorem zd_M_kinds_0 : decode zo_M_kinds 0 = .ok (.aload_n 0, 1) := by decide +kernel
theorem zd_M_kinds_1 : decode zo_M_kinds 1 = .ok (.invokevirtual 79, 3) := by decide +kernel
theorem zd_M_kinds_4 : decode zo_M_kinds 4 = .ok (.aload_n 0, 1) := by decide +kernel
theorem zd_M_kinds_5 : decode zo_M_kinds 5 = .ok (.getfield 64, 3) := by decide +kernel
theorem zd_M_kinds_8 : decode zo_M_kinds 8 = .ok (.ireturn, 1) := by decide +kernel
theorem zd_M_kind_0 : decode zo_M_kind 0 = .ok (.aload_n 0, 1) := by decide +kernel
theorem zd_M_kind_1 : decode zo_M_kind 1 = .ok (.invokevirtual 79, 3) := by decide +kernel
theorem zd_M_kind_4 : decode zo_M_kind 4 = .ok (.iload_n 1, 1) := by decide +kernel
theorem zd_M_kind_5 : decode zo_M_kind 5 = .ok (.invokestatic 35, 3) := by decide +kernel
theorem zd_M_kind_8 : decode zo_M_kind 8 = .ok (.ifCond .eq 12, 3) := by decide +kernel
theorem zd_M_kind_11 : decode zo_M_kind 11 = .ok (.aload_n 0, 1) := by decide +kernel
theorem zd_M_kind_12 : decode zo_M_kind 12 = .ok (.getfield 26, 3) := by decide +kernel
theorem zd_M_kind_15 : decode zo_M_kind 15 = .ok (.iload_n 1, 1) := by decide +kernel
theorem zd_M_kind_16 : decode zo_M_kind 16 = .ok (.iaload, 1) := by decide +kernel
theorem zd_M_kind_17 : decode zo_M_kind 17 = .ok (.goto 4, 3) := by decide +kernel
theorem zd_M_kind_20 : decode zo_M_kind 20 = .ok (.iconst (-1), 1) := by decide +kernel
theorem zd_M_kind_21 : decode zo_M_kind 21 = .ok (.ireturn, 1) := by decide +kernel
theorem zd_M_size_0 : decode zo_M_size 0 = .ok (.aload_n 0, 1) := by decide +kernel
theorem zd_M_size_1 : decode zo_M_size 1 = .ok (.invokevirtual 79, 3) := by decide +kernel
theorem zd_M_size_4 : decode zo_M_size 4 = .ok (.iconst 0, 1) := by decide +kernel
theorem zd_M_size_5 : decode zo_M_size 5 = .ok (.istore_n 2, 1) := by decide +kernel
theorem zd_M_size_6 : decode zo_M_size 6 = .ok (.iconst 0, 1) := by decide +kernel
theorem zd_M_size_7 : decode zo_M_size 7 = .ok (.istore_n 3, 1) := by decide +kernel
theorem zd_M_size_8 : decode zo_M_size 8 = .ok (.iload_n 3, 1) := by decide +kernel
theorem zd_M_size_9 : decode zo_M_size 9 = .ok (.bipush 24, 2) := by decide +kernel
theorem zd_M_size_11 : decode zo_M_size 11 = .ok (.if_icmp .ge 27, 3) := by decide +kernel
theorem zd_M_size_14 : decode zo_M_size 14 = .ok (.aload_n 0, 1) := by decide +kernel
theorem zd_M_size_15 : decode zo_M_size 15 = .ok (.getfield 26, 3) := by decide +kernel
theorem zd_M_size_18 : decode zo_M_size 18 = .ok (.iload_n 3, 1) := by decide +kernel
theorem zd_M_size_19 : decode zo_M_size 19 = .ok (.iaload, 1) := by decide +kernel
theorem zd_M_size_20 : decode zo_M_size 20 = .ok (.iload_n 1, 1) := by decide +kernel
theorem zd_M_size_21 : decode zo_M_size 21 = .ok (.if_icmp .ne 9, 3) := by decide +kernel
theorem zd_M_size_24 : decode zo_M_size 24 = .ok (.iload_n 2, 1) := by decide +kernel
theorem zd_M_size_25 : decode zo_M_size 25 = .ok (.iconst 1, 1) := by decide +kernel
theorem zd_M_size_26 : decode zo_M_size 26 = .ok (.iadd, 1) := by decide +kernel
theorem zd_M_size_27 : decode zo_M_size 27 = .ok (.goto 4, 3) := by decide +kernel
theorem zd_M_size_30 : decode zo_M_size 30 = .ok (.iload_n 2, 1) := by decide +kernel
theorem zd_M_size_31 : decode zo_M_size 31 = .ok (.istore_n 2, 1) := by decide +kernel
theorem zd_M_size_32 : decode zo_M_size 32 = .ok (.iinc 3 1, 3) := by decide +kernel
theorem zd_M_size_35 : decode zo_M_size 35 = .ok (.goto (-27), 3) := by decide +kernel
theorem zd_M_size_38 : decode zo_M_size 38 = .ok (.iload_n 2, 1) := by decide +kernel
theorem zd_M_size_39 : decode zo_M_size 39 = .ok (.ireturn, 1) := by decide +kernel
theorem zd_M_reach_0 : decode zo_M_reach 0 = .ok (.aload_n 0, 1) := by decide +kernel
theorem zd_M_reach_1 : decode zo_M_reach 1 = .ok (.invokevirtual 79, 3) := by decide +kernel
theorem zd_M_reach_4 : decode zo_M_reach 4 = .ok (.iload_n 2, 1) := by decide +kernel
theorem zd_M_reach_5 : decode zo_M_reach 5 = .ok (.invokestatic 39, 3) := by decide +kernel
theorem zd_M_reach_8 : decode zo_M_reach 8 = .ok (.ifCond .eq 12, 3) := by decide +kernel
theorem zd_M_reach_11 : decode zo_M_reach 11 = .ok (.aload_n 0, 1) := by decide +kernel
theorem zd_M_reach_12 : decode zo_M_reach 12 = .ok (.iload_n 1, 1) := by decide +kernel
theorem zd_M_reach_13 : decode zo_M_reach 13 = .ok (.iload_n 2, 1) := by decide +kernel
theorem zd_M_reach_14 : decode zo_M_reach 14 = .ok (.invokevirtual 82, 3) := by decide +kernel
theorem zd_M_reach_17 : decode zo_M_reach 17 = .ok (.goto 4, 3) := by decide +kernel
theorem zd_M_reach_20 : decode zo_M_reach 20 = .ok (.iconst 0, 1) := by decide +kernel
theorem zd_M_reach_21 : decode zo_M_reach 21 = .ok (.ireturn, 1) := by decide +kernel
theorem zd_M_reachOf_0 : decode zo_M_reachOf 0 = .ok (.iconst 0, 1) := by decide +kernel
theorem zd_M_reachOf_1 : decode zo_M_reachOf 1 = .ok (.istore_n 3, 1) := by decide +kernel
theorem zd_M_reachOf_2 : decode zo_M_reachOf 2 = .ok (.iconst 0, 1) := by decide +kernel
theorem zd_M_reachOf_3 : decode zo_M_reachOf 3 = .ok (.istore 4, 2) := by decide +kernel
theorem zd_M_reachOf_5 : decode zo_M_reachOf 5 = .ok (.iload 4, 2) := by decide +kernel
theorem zd_M_reachOf_7 : decode zo_M_reachOf 7 = .ok (.bipush 24, 2) := by decide +kernel
theorem zd_M_reachOf_9 : decode zo_M_reachOf 9 = .ok (.if_icmp .ge 64, 3) := by decide +kernel
theorem zd_M_reachOf_12 : decode zo_M_reachOf 12 = .ok (.iconst 0, 1) := by decide +kernel
theorem zd_M_reachOf_13 : decode zo_M_reachOf 13 = .ok (.istore 5, 2) := by decide +kernel
theorem zd_M_reachOf_15 : decode zo_M_reachOf 15 = .ok (.iload 5, 2) := by decide +kernel
theorem zd_M_reachOf_17 : decode zo_M_reachOf 17 = .ok (.bipush 24, 2) := by decide +kernel
theorem zd_M_reachOf_19 : decode zo_M_reachOf 19 = .ok (.if_icmp .ge 48, 3) := by decide +kernel
theorem zd_M_reachOf_22 : decode zo_M_reachOf 22 = .ok (.aload_n 0, 1) := by decide +kernel
theorem zd_M_reachOf_23 : decode zo_M_reachOf 23 = .ok (.getfield 26, 3) := by decide +kernel
theorem zd_M_reachOf_26 : decode zo_M_reachOf 26 = .ok (.iload 4, 2) := by decide +kernel
theorem zd_M_reachOf_28 : decode zo_M_reachOf 28 = .ok (.iaload, 1) := by decide +kernel
theorem zd_M_reachOf_29 : decode zo_M_reachOf 29 = .ok (.iload_n 1, 1) := by decide +kernel
theorem zd_M_reachOf_30 : decode zo_M_reachOf 30 = .ok (.if_icmp .ne 29, 3) := by decide +kernel
theorem zd_M_reachOf_33 : decode zo_M_reachOf 33 = .ok (.aload_n 0, 1) := by decide +kernel
theorem zd_M_reachOf_34 : decode zo_M_reachOf 34 = .ok (.iload 4, 2) := by decide +kernel
theorem zd_M_reachOf_36 : decode zo_M_reachOf 36 = .ok (.iload_n 2, 1) := by decide +kernel
theorem zd_M_reachOf_37 : decode zo_M_reachOf 37 = .ok (.iload 5, 2) := by decide +kernel
theorem zd_M_reachOf_39 : decode zo_M_reachOf 39 = .ok (.invokevirtual 42, 3) := by decide +kernel
theorem zd_M_reachOf_42 : decode zo_M_reachOf 42 = .ok (.ifCond .eq 17, 3) := by decide +kernel
theorem zd_M_reachOf_45 : decode zo_M_reachOf 45 = .ok (.iload_n 3, 1) := by decide +kernel
theorem zd_M_reachOf_46 : decode zo_M_reachOf 46 = .ok (.iconst 1, 1) := by decide +kernel
theorem zd_M_reachOf_47 : decode zo_M_reachOf 47 = .ok (.aload_n 0, 1) := by decide +kernel
theorem zd_M_reachOf_48 : decode zo_M_reachOf 48 = .ok (.getfield 26, 3) := by decide +kernel
theorem zd_M_reachOf_51 : decode zo_M_reachOf 51 = .ok (.iload 5, 2) := by decide +kernel
theorem zd_M_reachOf_53 : decode zo_M_reachOf 53 = .ok (.iaload, 1) := by decide +kernel
theorem zd_M_reachOf_54 : decode zo_M_reachOf 54 = .ok (.ishl, 1) := by decide +kernel
theorem zd_M_reachOf_55 : decode zo_M_reachOf 55 = .ok (.ior, 1) := by decide +kernel
theorem zd_M_reachOf_56 : decode zo_M_reachOf 56 = .ok (.goto 4, 3) := by decide +kernel
theorem zd_M_reachOf_59 : decode zo_M_reachOf 59 = .ok (.iload_n 3, 1) := by decide +kernel
theorem zd_M_reachOf_60 : decode zo_M_reachOf 60 = .ok (.istore_n 3, 1) := by decide +kernel
theorem zd_M_reachOf_61 : decode zo_M_reachOf 61 = .ok (.iinc 5 1, 3) := by decide +kernel
theorem zd_M_reachOf_64 : decode zo_M_reachOf 64 = .ok (.goto (-49), 3) := by decide +kernel
theorem zd_M_reachOf_67 : decode zo_M_reachOf 67 = .ok (.iinc 4 1, 3) := by decide +kernel
theorem zd_M_reachOf_70 : decode zo_M_reachOf 70 = .ok (.goto (-65), 3) := by decide +kernel
theorem zd_M_reachOf_73 : decode zo_M_reachOf 73 = .ok (.iload_n 3, 1) := by decide +kernel
theorem zd_M_reachOf_74 : decode zo_M_reachOf 74 = .ok (.ireturn, 1) := by decide +kernel
theorem zd_M_links_0 : decode zo_M_links 0 = .ok (.aload_n 0, 1) := by decide +kernel
theorem zd_M_links_1 : decode zo_M_links 1 = .ok (.invokevirtual 79, 3) := by decide +kernel
theorem zd_M_links_4 : decode zo_M_links 4 = .ok (.iconst 0, 1) := by decide +kernel
theorem zd_M_links_5 : decode zo_M_links 5 = .ok (.istore_n 1, 1) := by decide +kernel
theorem zd_M_links_6 : decode zo_M_links 6 = .ok (.iconst 0, 1) := by decide +kernel
theorem zd_M_links_7 : decode zo_M_links 7 = .ok (.istore_n 2, 1) := by decide +kernel
theorem zd_M_links_8 : decode zo_M_links 8 = .ok (.iload_n 2, 1) := by decide +kernel
theorem zd_M_links_9 : decode zo_M_links 9 = .ok (.aload_n 0, 1) := by decide +kernel
theorem zd_M_links_10 : decode zo_M_links 10 = .ok (.getfield 64, 3) := by decide +kernel
theorem zd_M_links_13 : decode zo_M_links 13 = .ok (.if_icmp .ge 54, 3) := by decide +kernel
theorem zd_M_links_16 : decode zo_M_links 16 = .ok (.iconst 0, 1) := by decide +kernel
theorem zd_M_links_17 : decode zo_M_links 17 = .ok (.istore_n 3, 1) := by decide +kernel
theorem zd_M_links_18 : decode zo_M_links 18 = .ok (.iload_n 3, 1) := by decide +kernel
theorem zd_M_links_19 : decode zo_M_links 19 = .ok (.iconst 4, 1) := by decide +kernel
theorem zd_M_links_20 : decode zo_M_links 20 = .ok (.if_icmp .ge 41, 3) := by decide +kernel
theorem zd_M_links_23 : decode zo_M_links 23 = .ok (.iconst 0, 1) := by decide +kernel
theorem zd_M_links_24 : decode zo_M_links 24 = .ok (.istore 4, 2) := by decide +kernel
theorem zd_M_links_26 : decode zo_M_links 26 = .ok (.iload 4, 2) := by decide +kernel
theorem zd_M_links_28 : decode zo_M_links 28 = .ok (.aload_n 0, 1) := by decide +kernel
theorem zd_M_links_29 : decode zo_M_links 29 = .ok (.getfield 64, 3) := by decide +kernel
theorem zd_M_links_32 : decode zo_M_links 32 = .ok (.if_icmp .ge 23, 3) := by decide +kernel
theorem zd_M_links_35 : decode zo_M_links 35 = .ok (.iload_n 1, 1) := by decide +kernel
theorem zd_M_links_36 : decode zo_M_links 36 = .ok (.aload_n 0, 1) := by decide +kernel
theorem zd_M_links_37 : decode zo_M_links 37 = .ok (.iload_n 2, 1) := by decide +kernel
theorem zd_M_links_38 : decode zo_M_links 38 = .ok (.iload_n 3, 1) := by decide +kernel
theorem zd_M_links_39 : decode zo_M_links 39 = .ok (.invokevirtual 82, 3) := by decide +kernel
theorem zd_M_links_42 : decode zo_M_links 42 = .ok (.iload 4, 2) := by decide +kernel
theorem zd_M_links_44 : decode zo_M_links 44 = .ok (.ishr, 1) := by decide +kernel
theorem zd_M_links_45 : decode zo_M_links 45 = .ok (.iconst 1, 1) := by decide +kernel
theorem zd_M_links_46 : decode zo_M_links 46 = .ok (.iand, 1) := by decide +kernel
theorem zd_M_links_47 : decode zo_M_links 47 = .ok (.iadd, 1) := by decide +kernel
theorem zd_M_links_48 : decode zo_M_links 48 = .ok (.istore_n 1, 1) := by decide +kernel
theorem zd_M_links_49 : decode zo_M_links 49 = .ok (.iinc 4 1, 3) := by decide +kernel
theorem zd_M_links_52 : decode zo_M_links 52 = .ok (.goto (-26), 3) := by decide +kernel
theorem zd_M_links_55 : decode zo_M_links 55 = .ok (.iinc 3 1, 3) := by decide +kernel
theorem zd_M_links_58 : decode zo_M_links 58 = .ok (.goto (-40), 3) := by decide +kernel
theorem zd_M_links_61 : decode zo_M_links 61 = .ok (.iinc 2 1, 3) := by decide +kernel
theorem zd_M_links_64 : decode zo_M_links 64 = .ok (.goto (-56), 3) := by decide +kernel
theorem zd_M_links_67 : decode zo_M_links 67 = .ok (.iload_n 1, 1) := by decide +kernel
theorem zd_M_links_68 : decode zo_M_links 68 = .ok (.ireturn, 1) := by decide +kernel
theorem zd_M_covers_0 : decode zo_M_covers 0 = .ok (.aload_n 0, 1) := by decide +kernel
theorem zd_M_covers_1 : decode zo_M_covers 1 = .ok (.invokevirtual 79, 3) := by decide +kernel
theorem zd_M_covers_4 : decode zo_M_covers 4 = .ok (.iload_n 1, 1) := by decide +kernel
theorem zd_M_covers_5 : decode zo_M_covers 5 = .ok (.invokestatic 35, 3) := by decide +kernel
theorem zd_M_covers_8 : decode zo_M_covers 8 = .ok (.ifCond .eq 28, 3) := by decide +kernel
theorem zd_M_covers_11 : decode zo_M_covers 11 = .ok (.iload_n 2, 1) := by decide +kernel
theorem zd_M_covers_12 : decode zo_M_covers 12 = .ok (.invokestatic 35, 3) := by decide +kernel
theorem zd_M_covers_15 : decode zo_M_covers 15 = .ok (.ifCond .eq 21, 3) := by decide +kernel
theorem zd_M_covers_18 : decode zo_M_covers 18 = .ok (.aload_n 0, 1) := by decide +kernel
theorem zd_M_covers_19 : decode zo_M_covers 19 = .ok (.getfield 20, 3) := by decide +kernel
theorem zd_M_covers_22 : decode zo_M_covers 22 = .ok (.bipush 24, 2) := by decide +kernel
theorem zd_M_covers_24 : decode zo_M_covers 24 = .ok (.iload_n 1, 1) := by decide +kernel
theorem zd_M_covers_25 : decode zo_M_covers 25 = .ok (.imul, 1) := by decide +kernel
theorem zd_M_covers_26 : decode zo_M_covers 26 = .ok (.iload_n 2, 1) := by decide +kernel
theorem zd_M_covers_27 : decode zo_M_covers 27 = .ok (.iadd, 1) := by decide +kernel
theorem zd_M_covers_28 : decode zo_M_covers 28 = .ok (.baload, 1) := by decide +kernel
theorem zd_M_covers_29 : decode zo_M_covers 29 = .ok (.ifCond .eq 7, 3) := by decide +kernel
theorem zd_M_covers_32 : decode zo_M_covers 32 = .ok (.iconst 1, 1) := by decide +kernel
theorem zd_M_covers_33 : decode zo_M_covers 33 = .ok (.goto 4, 3) := by decide +kernel
theorem zd_M_covers_36 : decode zo_M_covers 36 = .ok (.iconst 0, 1) := by decide +kernel
theorem zd_M_covers_37 : decode zo_M_covers 37 = .ok (.ireturn, 1) := by decide +kernel
theorem zd_M_below_0 : decode zo_M_below 0 = .ok (.aload_n 0, 1) := by decide +kernel
theorem zd_M_below_1 : decode zo_M_below 1 = .ok (.invokevirtual 79, 3) := by decide +kernel
theorem zd_M_below_4 : decode zo_M_below 4 = .ok (.iload_n 1, 1) := by decide +kernel
theorem zd_M_below_5 : decode zo_M_below 5 = .ok (.invokestatic 35, 3) := by decide +kernel
theorem zd_M_below_8 : decode zo_M_below 8 = .ok (.ifCond .ne 5, 3) := by decide +kernel
theorem zd_M_below_11 : decode zo_M_below 11 = .ok (.iconst (-1), 1) := by decide +kernel
theorem zd_M_below_12 : decode zo_M_below 12 = .ok (.ireturn, 1) := by decide +kernel
theorem zd_M_below_13 : decode zo_M_below 13 = .ok (.iconst 0, 1) := by decide +kernel
theorem zd_M_below_14 : decode zo_M_below 14 = .ok (.istore_n 2, 1) := by decide +kernel
theorem zd_M_below_15 : decode zo_M_below 15 = .ok (.iconst 0, 1) := by decide +kernel
theorem zd_M_below_16 : decode zo_M_below 16 = .ok (.istore_n 3, 1) := by decide +kernel
theorem zd_M_below_17 : decode zo_M_below 17 = .ok (.iload_n 3, 1) := by decide +kernel
theorem zd_M_below_18 : decode zo_M_below 18 = .ok (.bipush 24, 2) := by decide +kernel
theorem zd_M_below_20 : decode zo_M_below 20 = .ok (.if_icmp .ge 31, 3) := by decide +kernel
theorem zd_M_below_23 : decode zo_M_below 23 = .ok (.aload_n 0, 1) := by decide +kernel
theorem zd_M_below_24 : decode zo_M_below 24 = .ok (.getfield 20, 3) := by decide +kernel
theorem zd_M_below_27 : decode zo_M_below 27 = .ok (.bipush 24, 2) := by decide +kernel
theorem zd_M_below_29 : decode zo_M_below 29 = .ok (.iload_n 1, 1) := by decide +kernel
theorem zd_M_below_30 : decode zo_M_below 30 = .ok (.imul, 1) := by decide +kernel
theorem zd_M_below_31 : decode zo_M_below 31 = .ok (.iload_n 3, 1) := by decide +kernel
theorem zd_M_below_32 : decode zo_M_below 32 = .ok (.iadd, 1) := by decide +kernel
theorem zd_M_below_33 : decode zo_M_below 33 = .ok (.baload, 1) := by decide +kernel
theorem zd_M_below_34 : decode zo_M_below 34 = .ok (.ifCond .eq 9, 3) := by decide +kernel
theorem zd_M_below_37 : decode zo_M_below 37 = .ok (.iload_n 2, 1) := by decide +kernel
theorem zd_M_below_38 : decode zo_M_below 38 = .ok (.iconst 1, 1) := by decide +kernel
theorem zd_M_below_39 : decode zo_M_below 39 = .ok (.iadd, 1) := by decide +kernel
theorem zd_M_below_40 : decode zo_M_below 40 = .ok (.goto 4, 3) := by decide +kernel
theorem zd_M_below_43 : decode zo_M_below 43 = .ok (.iload_n 2, 1) := by decide +kernel
theorem zd_M_below_44 : decode zo_M_below 44 = .ok (.istore_n 2, 1) := by decide +kernel
theorem zd_M_below_45 : decode zo_M_below 45 = .ok (.iinc 3 1, 3) := by decide +kernel
theorem zd_M_below_48 : decode zo_M_below 48 = .ok (.goto (-31), 3) := by decide +kernel
theorem zd_M_below_51 : decode zo_M_below 51 = .ok (.iload_n 2, 1) := by decide +kernel
theorem zd_M_below_52 : decode zo_M_below 52 = .ok (.ireturn, 1) := by decide +kernel
theorem zd_M_attacks_0 : decode zo_M_attacks 0 = .ok (.aload_n 0, 1) := by decide +kernel
theorem zd_M_attacks_1 : decode zo_M_attacks 1 = .ok (.invokevirtual 79, 3) := by decide +kernel
theorem zd_M_attacks_4 : decode zo_M_attacks 4 = .ok (.iconst 0, 1) := by decide +kernel
theorem zd_M_attacks_5 : decode zo_M_attacks 5 = .ok (.istore_n 3, 1) := by decide +kernel
theorem zd_M_attacks_6 : decode zo_M_attacks 6 = .ok (.iconst 0, 1) := by decide +kernel
theorem zd_M_attacks_7 : decode zo_M_attacks 7 = .ok (.istore 4, 2) := by decide +kernel
theorem zd_M_attacks_9 : decode zo_M_attacks 9 = .ok (.iload 4, 2) := by decide +kernel
theorem zd_M_attacks_11 : decode zo_M_attacks 11 = .ok (.bipush 96, 2) := by decide +kernel
theorem zd_M_attacks_13 : decode zo_M_attacks 13 = .ok (.if_icmp .ge 75, 3) := by decide +kernel
theorem zd_M_attacks_16 : decode zo_M_attacks 16 = .ok (.aload_n 0, 1) := by decide +kernel
theorem zd_M_attacks_17 : decode zo_M_attacks 17 = .ok (.iload_n 1, 1) := by decide +kernel
theorem zd_M_attacks_18 : decode zo_M_attacks 18 = .ok (.iload_n 2, 1) := by decide +kernel
theorem zd_M_attacks_19 : decode zo_M_attacks 19 = .ok (.invokevirtual 86, 3) := by decide +kernel
theorem zd_M_attacks_22 : decode zo_M_attacks 22 = .ok (.ifCond .eq 66, 3) := by decide +kernel
theorem zd_M_attacks_25 : decode zo_M_attacks 25 = .ok (.aload_n 0, 1) := by decide +kernel
theorem zd_M_attacks_26 : decode zo_M_attacks 26 = .ok (.getfield 17, 3) := by decide +kernel
theorem zd_M_attacks_29 : decode zo_M_attacks 29 = .ok (.bipush 24, 2) := by decide +kernel
theorem zd_M_attacks_31 : decode zo_M_attacks 31 = .ok (.iload_n 1, 1) := by decide +kernel
theorem zd_M_attacks_32 : decode zo_M_attacks 32 = .ok (.imul, 1) := by decide +kernel
theorem zd_M_attacks_33 : decode zo_M_attacks 33 = .ok (.iload_n 2, 1) := by decide +kernel
theorem zd_M_attacks_34 : decode zo_M_attacks 34 = .ok (.iadd, 1) := by decide +kernel
theorem zd_M_attacks_35 : decode zo_M_attacks 35 = .ok (.iaload, 1) := by decide +kernel
theorem zd_M_attacks_36 : decode zo_M_attacks 36 = .ok (.iconst 1, 1) := by decide +kernel
theorem zd_M_attacks_37 : decode zo_M_attacks 37 = .ok (.isub, 1) := by decide +kernel
theorem zd_M_attacks_38 : decode zo_M_attacks 38 = .ok (.istore 5, 2) := by decide +kernel
theorem zd_M_attacks_40 : decode zo_M_attacks 40 = .ok (.aload_n 0, 1) := by decide +kernel
theorem zd_M_attacks_41 : decode zo_M_attacks 41 = .ok (.iload_n 1, 1) := by decide +kernel
theorem zd_M_attacks_42 : decode zo_M_attacks 42 = .ok (.iload_n 2, 1) := by decide +kernel
theorem zd_M_attacks_43 : decode zo_M_attacks 43 = .ok (.iload 4, 2) := by decide +kernel
theorem zd_M_attacks_45 : decode zo_M_attacks 45 = .ok (.iload 5, 2) := by decide +kernel
theorem zd_M_attacks_47 : decode zo_M_attacks 47 = .ok (.invokevirtual 89, 3) := by decide +kernel
theorem zd_M_attacks_50 : decode zo_M_attacks 50 = .ok (.ifCond .eq 9, 3) := by decide +kernel
theorem zd_M_attacks_53 : decode zo_M_attacks 53 = .ok (.iload_n 3, 1) := by decide +kernel
theorem zd_M_attacks_54 : decode zo_M_attacks 54 = .ok (.iconst 1, 1) := by decide +kernel
theorem zd_M_attacks_55 : decode zo_M_attacks 55 = .ok (.iadd, 1) := by decide +kernel
theorem zd_M_attacks_56 : decode zo_M_attacks 56 = .ok (.goto 4, 3) := by decide +kernel
theorem zd_M_attacks_59 : decode zo_M_attacks 59 = .ok (.iload_n 3, 1) := by decide +kernel
theorem zd_M_attacks_60 : decode zo_M_attacks 60 = .ok (.istore_n 3, 1) := by decide +kernel
theorem zd_M_attacks_61 : decode zo_M_attacks 61 = .ok (.aload_n 0, 1) := by decide +kernel
theorem zd_M_attacks_62 : decode zo_M_attacks 62 = .ok (.iload_n 2, 1) := by decide +kernel
theorem zd_M_attacks_63 : decode zo_M_attacks 63 = .ok (.iload_n 1, 1) := by decide +kernel
theorem zd_M_attacks_64 : decode zo_M_attacks 64 = .ok (.iload 4, 2) := by decide +kernel
theorem zd_M_attacks_66 : decode zo_M_attacks 66 = .ok (.iload 5, 2) := by decide +kernel
theorem zd_M_attacks_68 : decode zo_M_attacks 68 = .ok (.invokevirtual 89, 3) := by decide +kernel
theorem zd_M_attacks_71 : decode zo_M_attacks 71 = .ok (.ifCond .eq 9, 3) := by decide +kernel
theorem zd_M_attacks_74 : decode zo_M_attacks 74 = .ok (.iload_n 3, 1) := by decide +kernel
theorem zd_M_attacks_75 : decode zo_M_attacks 75 = .ok (.iconst 1, 1) := by decide +kernel
theorem zd_M_attacks_76 : decode zo_M_attacks 76 = .ok (.iadd, 1) := by decide +kernel
theorem zd_M_attacks_77 : decode zo_M_attacks 77 = .ok (.goto 4, 3) := by decide +kernel
theorem zd_M_attacks_80 : decode zo_M_attacks 80 = .ok (.iload_n 3, 1) := by decide +kernel
theorem zd_M_attacks_81 : decode zo_M_attacks 81 = .ok (.istore_n 3, 1) := by decide +kernel
theorem zd_M_attacks_82 : decode zo_M_attacks 82 = .ok (.iinc 4 1, 3) := by decide +kernel
theorem zd_M_attacks_85 : decode zo_M_attacks 85 = .ok (.goto (-76), 3) := by decide +kernel
theorem zd_M_attacks_88 : decode zo_M_attacks 88 = .ok (.iload_n 3, 1) := by decide +kernel
theorem zd_M_attacks_89 : decode zo_M_attacks 89 = .ok (.ireturn, 1) := by decide +kernel
theorem zd_M_isPlayed_0 : decode zo_M_isPlayed 0 = .ok (.iload_n 1, 1) := by decide +kernel
theorem zd_M_isPlayed_1 : decode zo_M_isPlayed 1 = .ok (.invokestatic 35, 3) := by decide +kernel
theorem zd_M_isPlayed_4 : decode zo_M_isPlayed 4 = .ok (.ifCond .eq 37, 3) := by decide +kernel
theorem zd_M_isPlayed_7 : decode zo_M_isPlayed 7 = .ok (.iload_n 2, 1) := by decide +kernel
theorem zd_M_isPlayed_8 : decode zo_M_isPlayed 8 = .ok (.invokestatic 35, 3) := by decide +kernel
theorem zd_M_isPlayed_11 : decode zo_M_isPlayed 11 = .ok (.ifCond .eq 30, 3) := by decide +kernel
theorem zd_M_isPlayed_14 : decode zo_M_isPlayed 14 = .ok (.aload_n 0, 1) := by decide +kernel
theorem zd_M_isPlayed_15 : decode zo_M_isPlayed 15 = .ok (.iload_n 1, 1) := by decide +kernel
theorem zd_M_isPlayed_16 : decode zo_M_isPlayed 16 = .ok (.iload_n 2, 1) := by decide +kernel
theorem zd_M_isPlayed_17 : decode zo_M_isPlayed 17 = .ok (.invokevirtual 67, 3) := by decide +kernel
theorem zd_M_isPlayed_20 : decode zo_M_isPlayed 20 = .ok (.ifCond .ne 21, 3) := by decide +kernel
theorem zd_M_isPlayed_23 : decode zo_M_isPlayed 23 = .ok (.aload_n 0, 1) := by decide +kernel
theorem zd_M_isPlayed_24 : decode zo_M_isPlayed 24 = .ok (.getfield 17, 3) := by decide +kernel
theorem zd_M_isPlayed_27 : decode zo_M_isPlayed 27 = .ok (.bipush 24, 2) := by decide +kernel
theorem zd_M_isPlayed_29 : decode zo_M_isPlayed 29 = .ok (.iload_n 1, 1) := by decide +kernel
theorem zd_M_isPlayed_30 : decode zo_M_isPlayed 30 = .ok (.imul, 1) := by decide +kernel
theorem zd_M_isPlayed_31 : decode zo_M_isPlayed 31 = .ok (.iload_n 2, 1) := by decide +kernel
theorem zd_M_isPlayed_32 : decode zo_M_isPlayed 32 = .ok (.iadd, 1) := by decide +kernel
theorem zd_M_isPlayed_33 : decode zo_M_isPlayed 33 = .ok (.iaload, 1) := by decide +kernel
theorem zd_M_isPlayed_34 : decode zo_M_isPlayed 34 = .ok (.ifCond .le 7, 3) := by decide +kernel
theorem zd_M_isPlayed_37 : decode zo_M_isPlayed 37 = .ok (.iconst 1, 1) := by decide +kernel
theorem zd_M_isPlayed_38 : decode zo_M_isPlayed 38 = .ok (.goto 4, 3) := by decide +kernel
theorem zd_M_isPlayed_41 : decode zo_M_isPlayed 41 = .ok (.iconst 0, 1) := by decide +kernel
theorem zd_M_isPlayed_42 : decode zo_M_isPlayed 42 = .ok (.ireturn, 1) := by decide +kernel
theorem zd_M_isAttack_0 : decode zo_M_isAttack 0 = .ok (.aload_n 0, 1) := by decide +kernel
theorem zd_M_isAttack_1 : decode zo_M_isAttack 1 = .ok (.getfield 7, 3) := by decide +kernel
theorem zd_M_isAttack_4 : decode zo_M_isAttack 4 = .ok (.bipush 96, 2) := by decide +kernel
theorem zd_M_isAttack_6 : decode zo_M_isAttack 6 = .ok (.iload_n 1, 1) := by decide +kernel
theorem zd_M_isAttack_7 : decode zo_M_isAttack 7 = .ok (.imul, 1) := by decide +kernel
theorem zd_M_isAttack_8 : decode zo_M_isAttack 8 = .ok (.iload_n 3, 1) := by decide +kernel
theorem zd_M_isAttack_9 : decode zo_M_isAttack 9 = .ok (.iadd, 1) := by decide +kernel
theorem zd_M_isAttack_10 : decode zo_M_isAttack 10 = .ok (.baload, 1) := by decide +kernel
theorem zd_M_isAttack_11 : decode zo_M_isAttack 11 = .ok (.ifCond .eq 25, 3) := by decide +kernel
theorem zd_M_isAttack_14 : decode zo_M_isAttack 14 = .ok (.aload_n 0, 1) := by decide +kernel
theorem zd_M_isAttack_15 : decode zo_M_isAttack 15 = .ok (.iload_n 2, 1) := by decide +kernel
theorem zd_M_isAttack_16 : decode zo_M_isAttack 16 = .ok (.iload_n 3, 1) := by decide +kernel
theorem zd_M_isAttack_17 : decode zo_M_isAttack 17 = .ok (.bipush 24, 2) := by decide +kernel
theorem zd_M_isAttack_19 : decode zo_M_isAttack 19 = .ok (.idiv, 1) := by decide +kernel
theorem zd_M_isAttack_20 : decode zo_M_isAttack 20 = .ok (.iload_n 3, 1) := by decide +kernel
theorem zd_M_isAttack_21 : decode zo_M_isAttack 21 = .ok (.bipush 24, 2) := by decide +kernel
theorem zd_M_isAttack_23 : decode zo_M_isAttack 23 = .ok (.irem, 1) := by decide +kernel
theorem zd_M_isAttack_24 : decode zo_M_isAttack 24 = .ok (.iload 4, 2) := by decide +kernel
theorem zd_M_isAttack_26 : decode zo_M_isAttack 26 = .ok (.invokevirtual 54, 3) := by decide +kernel
theorem zd_M_isAttack_29 : decode zo_M_isAttack 29 = .ok (.ifCond .ne 7, 3) := by decide +kernel
theorem zd_M_isAttack_32 : decode zo_M_isAttack 32 = .ok (.iconst 1, 1) := by decide +kernel
theorem zd_M_isAttack_33 : decode zo_M_isAttack 33 = .ok (.goto 4, 3) := by decide +kernel
theorem zd_M_isAttack_36 : decode zo_M_isAttack 36 = .ok (.iconst 0, 1) := by decide +kernel
theorem zd_M_isAttack_37 : decode zo_M_isAttack 37 = .ok (.ireturn, 1) := by decide +kernel
theorem zd_M_play_0 : decode zo_M_play 0 = .ok (.aload_n 0, 1) := by decide +kernel
theorem zd_M_play_1 : decode zo_M_play 1 = .ok (.iload_n 1, 1) := by decide +kernel
theorem zd_M_play_2 : decode zo_M_play 2 = .ok (.iload_n 2, 1) := by decide +kernel
theorem zd_M_play_3 : decode zo_M_play 3 = .ok (.invokevirtual 102, 3) := by decide +kernel
theorem zd_M_play_6 : decode zo_M_play 6 = .ok (.aload_n 0, 1) := by decide +kernel
theorem zd_M_play_7 : decode zo_M_play 7 = .ok (.getfield 92, 3) := by decide +kernel
theorem zd_M_play_10 : decode zo_M_play 10 = .ok (.ireturn, 1) := by decide +kernel
theorem zd_M_playOn_0 : decode zo_M_playOn 0 = .ok (.aload_n 0, 1) := by decide +kernel
theorem zd_M_playOn_1 : decode zo_M_playOn 1 = .ok (.invokevirtual 79, 3) := by decide +kernel
theorem zd_M_playOn_4 : decode zo_M_playOn 4 = .ok (.aload_n 0, 1) := by decide +kernel
theorem zd_M_playOn_5 : decode zo_M_playOn 5 = .ok (.iconst 0, 1) := by decide +kernel
theorem zd_M_playOn_6 : decode zo_M_playOn 6 = .ok (.putfield 92, 3) := by decide +kernel
theorem zd_M_playOn_9 : decode zo_M_playOn 9 = .ok (.iload_n 1, 1) := by decide +kernel
theorem zd_M_playOn_10 : decode zo_M_playOn 10 = .ok (.istore_n 3, 1) := by decide +kernel
theorem zd_M_playOn_11 : decode zo_M_playOn 11 = .ok (.iload_n 2, 1) := by decide +kernel
theorem zd_M_playOn_12 : decode zo_M_playOn 12 = .ok (.istore 4, 2) := by decide +kernel
theorem zd_M_playOn_14 : decode zo_M_playOn 14 = .ok (.aload_n 0, 1) := by decide +kernel
theorem zd_M_playOn_15 : decode zo_M_playOn 15 = .ok (.iload_n 3, 1) := by decide +kernel
theorem zd_M_playOn_16 : decode zo_M_playOn 16 = .ok (.iload 4, 2) := by decide +kernel
theorem zd_M_playOn_18 : decode zo_M_playOn 18 = .ok (.invokevirtual 86, 3) := by decide +kernel
theorem zd_M_playOn_21 : decode zo_M_playOn 21 = .ok (.istore 5, 2) := by decide +kernel
theorem zd_M_playOn_23 : decode zo_M_playOn 23 = .ok (.iload 5, 2) := by decide +kernel
theorem zd_M_playOn_25 : decode zo_M_playOn 25 = .ok (.ifCond .eq 167, 3) := by decide +kernel
theorem zd_M_playOn_28 : decode zo_M_playOn 28 = .ok (.aload_n 0, 1) := by decide +kernel
theorem zd_M_playOn_29 : decode zo_M_playOn 29 = .ok (.iload_n 3, 1) := by decide +kernel
theorem zd_M_playOn_30 : decode zo_M_playOn 30 = .ok (.iload 4, 2) := by decide +kernel
theorem zd_M_playOn_32 : decode zo_M_playOn 32 = .ok (.invokevirtual 95, 3) := by decide +kernel
theorem zd_M_playOn_35 : decode zo_M_playOn 35 = .ok (.istore 6, 2) := by decide +kernel
theorem zd_M_playOn_37 : decode zo_M_playOn 37 = .ok (.iload 6, 2) := by decide +kernel
theorem zd_M_playOn_39 : decode zo_M_playOn 39 = .ok (.bipush 96, 2) := by decide +kernel
theorem zd_M_playOn_41 : decode zo_M_playOn 41 = .ok (.if_icmp .ge 7, 3) := by decide +kernel
theorem zd_M_playOn_44 : decode zo_M_playOn 44 = .ok (.iconst 1, 1) := by decide +kernel
theorem zd_M_playOn_45 : decode zo_M_playOn 45 = .ok (.goto 4, 3) := by decide +kernel
theorem zd_M_playOn_48 : decode zo_M_playOn 48 = .ok (.iconst 0, 1) := by decide +kernel
theorem zd_M_playOn_49 : decode zo_M_playOn 49 = .ok (.istore 7, 2) := by decide +kernel
theorem zd_M_playOn_51 : decode zo_M_playOn 51 = .ok (.iload 6, 2) := by decide +kernel
theorem zd_M_playOn_53 : decode zo_M_playOn 53 = .ok (.bipush 96, 2) := by decide +kernel
theorem zd_M_playOn_55 : decode zo_M_playOn 55 = .ok (.irem, 1) := by decide +kernel
theorem zd_M_playOn_56 : decode zo_M_playOn 56 = .ok (.bipush 24, 2) := by decide +kernel
theorem zd_M_playOn_58 : decode zo_M_playOn 58 = .ok (.idiv, 1) := by decide +kernel
theorem zd_M_playOn_59 : decode zo_M_playOn 59 = .ok (.istore 8, 2) := by decide +kernel
theorem zd_M_playOn_61 : decode zo_M_playOn 61 = .ok (.iload 6, 2) := by decide +kernel
theorem zd_M_playOn_63 : decode zo_M_playOn 63 = .ok (.bipush 24, 2) := by decide +kernel
theorem zd_M_playOn_65 : decode zo_M_playOn 65 = .ok (.irem, 1) := by decide +kernel
theorem zd_M_playOn_66 : decode zo_M_playOn 66 = .ok (.istore 9, 2) := by decide +kernel
theorem zd_M_playOn_68 : decode zo_M_playOn 68 = .ok (.aload_n 0, 1) := by decide +kernel
theorem zd_M_playOn_69 : decode zo_M_playOn 69 = .ok (.iload 7, 2) := by decide +kernel
theorem zd_M_playOn_71 : decode zo_M_playOn 71 = .ok (.ifCond .eq 8, 3) := by decide +kernel
theorem zd_M_playOn_74 : decode zo_M_playOn 74 = .ok (.iload 4, 2) := by decide +kernel
theorem zd_M_playOn_76 : decode zo_M_playOn 76 = .ok (.goto 4, 3) := by decide +kernel
theorem zd_M_playOn_79 : decode zo_M_playOn 79 = .ok (.iload_n 3, 1) := by decide +kernel
theorem zd_M_playOn_80 : decode zo_M_playOn 80 = .ok (.iload 8, 2) := by decide +kernel
theorem zd_M_playOn_82 : decode zo_M_playOn 82 = .ok (.iload 9, 2) := by decide +kernel
theorem zd_M_playOn_84 : decode zo_M_playOn 84 = .ok (.invokevirtual 98, 3) := by decide +kernel
theorem zd_M_playOn_87 : decode zo_M_playOn 87 = .ok (.istore 10, 2) := by decide +kernel
theorem zd_M_playOn_89 : decode zo_M_playOn 89 = .ok (.aload_n 0, 1) := by decide +kernel
theorem zd_M_playOn_90 : decode zo_M_playOn 90 = .ok (.getfield 29, 3) := by decide +kernel
theorem zd_M_playOn_93 : decode zo_M_playOn 93 = .ok (.aload_n 0, 1) := by decide +kernel
theorem zd_M_playOn_94 : decode zo_M_playOn 94 = .ok (.getfield 92, 3) := by decide +kernel
theorem zd_M_playOn_97 : decode zo_M_playOn 97 = .ok (.iload 7, 2) := by decide +kernel
theorem zd_M_playOn_99 : decode zo_M_playOn 99 = .ok (.ifCond .eq 7, 3) := by decide +kernel
theorem zd_M_playOn_102 : decode zo_M_playOn 102 = .ok (.iconst 0, 1) := by decide +kernel
theorem zd_M_playOn_103 : decode zo_M_playOn 103 = .ok (.goto 6, 3) := by decide +kernel
theorem zd_M_playOn_106 : decode zo_M_playOn 106 = .ok (.sipush 1000, 3) := by decide +kernel
theorem zd_M_playOn_109 : decode zo_M_playOn 109 = .ok (.bipush 100, 2) := by decide +kernel
theorem zd_M_playOn_111 : decode zo_M_playOn 111 = .ok (.iload 8, 2) := by decide +kernel
theorem zd_M_playOn_113 : decode zo_M_playOn 113 = .ok (.imul, 1) := by decide +kernel
theorem zd_M_playOn_114 : decode zo_M_playOn 114 = .ok (.iadd, 1) := by decide +kernel
theorem zd_M_playOn_115 : decode zo_M_playOn 115 = .ok (.iload 9, 2) := by decide +kernel
theorem zd_M_playOn_117 : decode zo_M_playOn 117 = .ok (.iadd, 1) := by decide +kernel
theorem zd_M_playOn_118 : decode zo_M_playOn 118 = .ok (.iastore, 1) := by decide +kernel
theorem zd_M_playOn_119 : decode zo_M_playOn 119 = .ok (.aload_n 0, 1) := by decide +kernel
theorem zd_M_playOn_120 : decode zo_M_playOn 120 = .ok (.getfield 32, 3) := by decide +kernel
theorem zd_M_playOn_123 : decode zo_M_playOn 123 = .ok (.aload_n 0, 1) := by decide +kernel
theorem zd_M_playOn_124 : decode zo_M_playOn 124 = .ok (.getfield 92, 3) := by decide +kernel
theorem zd_M_playOn_127 : decode zo_M_playOn 127 = .ok (.iload 10, 2) := by decide +kernel
theorem zd_M_playOn_129 : decode zo_M_playOn 129 = .ok (.iastore, 1) := by decide +kernel
theorem zd_M_playOn_130 : decode zo_M_playOn 130 = .ok (.aload_n 0, 1) := by decide +kernel
theorem zd_M_playOn_131 : decode zo_M_playOn 131 = .ok (.aload_n 0, 1) := by decide +kernel
theorem zd_M_playOn_132 : decode zo_M_playOn 132 = .ok (.getfield 92, 3) := by decide +kernel
theorem zd_M_playOn_135 : decode zo_M_playOn 135 = .ok (.iconst 1, 1) := by decide +kernel
theorem zd_M_playOn_136 : decode zo_M_playOn 136 = .ok (.iadd, 1) := by decide +kernel
theorem zd_M_playOn_137 : decode zo_M_playOn 137 = .ok (.putfield 92, 3) := by decide +kernel
theorem zd_M_playOn_140 : decode zo_M_playOn 140 = .ok (.iload 7, 2) := by decide +kernel
theorem zd_M_playOn_142 : decode zo_M_playOn 142 = .ok (.ifCond .eq 8, 3) := by decide +kernel
theorem zd_M_playOn_145 : decode zo_M_playOn 145 = .ok (.iload 9, 2) := by decide +kernel
theorem zd_M_playOn_147 : decode zo_M_playOn 147 = .ok (.goto 5, 3) := by decide +kernel
theorem zd_M_playOn_150 : decode zo_M_playOn 150 = .ok (.iload 10, 2) := by decide +kernel
theorem zd_M_playOn_152 : decode zo_M_playOn 152 = .ok (.istore_n 3, 1) := by decide +kernel
theorem zd_M_playOn_153 : decode zo_M_playOn 153 = .ok (.iload 7, 2) := by decide +kernel
theorem zd_M_playOn_155 : decode zo_M_playOn 155 = .ok (.ifCond .eq 8, 3) := by decide +kernel
theorem zd_M_playOn_158 : decode zo_M_playOn 158 = .ok (.iload 10, 2) := by decide +kernel
theorem zd_M_playOn_160 : decode zo_M_playOn 160 = .ok (.goto 5, 3) := by decide +kernel
theorem zd_M_playOn_163 : decode zo_M_playOn 163 = .ok (.iload 9, 2) := by decide +kernel
theorem zd_M_playOn_165 : decode zo_M_playOn 165 = .ok (.istore 4, 2) := by decide +kernel
theorem zd_M_playOn_167 : decode zo_M_playOn 167 = .ok (.iload 10, 2) := by decide +kernel
theorem zd_M_playOn_169 : decode zo_M_playOn 169 = .ok (.ifCond .lt 17, 3) := by decide +kernel
theorem zd_M_playOn_172 : decode zo_M_playOn 172 = .ok (.aload_n 0, 1) := by decide +kernel
theorem zd_M_playOn_173 : decode zo_M_playOn 173 = .ok (.iload_n 3, 1) := by decide +kernel
theorem zd_M_playOn_174 : decode zo_M_playOn 174 = .ok (.iload 4, 2) := by decide +kernel
theorem zd_M_playOn_176 : decode zo_M_playOn 176 = .ok (.invokevirtual 86, 3) := by decide +kernel
theorem zd_M_playOn_179 : decode zo_M_playOn 179 = .ok (.ifCond .eq 7, 3) := by decide +kernel
theorem zd_M_playOn_182 : decode zo_M_playOn 182 = .ok (.iconst 1, 1) := by decide +kernel
theorem zd_M_playOn_183 : decode zo_M_playOn 183 = .ok (.goto 4, 3) := by decide +kernel
theorem zd_M_playOn_186 : decode zo_M_playOn 186 = .ok (.iconst 0, 1) := by decide +kernel
theorem zd_M_playOn_187 : decode zo_M_playOn 187 = .ok (.istore 5, 2) := by decide +kernel
theorem zd_M_playOn_189 : decode zo_M_playOn 189 = .ok (.goto (-166), 3) := by decide +kernel
theorem zd_M_playOn_192 : decode zo_M_playOn 192 = .ok (.return_, 1) := by decide +kernel
theorem zd_M_firstAttack_0 : decode zo_M_firstAttack 0 = .ok (.aload_n 0, 1) := by decide +kernel
theorem zd_M_firstAttack_1 : decode zo_M_firstAttack 1 = .ok (.getfield 17, 3) := by decide +kernel
theorem zd_M_firstAttack_4 : decode zo_M_firstAttack 4 = .ok (.bipush 24, 2) := by decide +kernel
theorem zd_M_firstAttack_6 : decode zo_M_firstAttack 6 = .ok (.iload_n 1, 1) := by decide +kernel
theorem zd_M_firstAttack_7 : decode zo_M_firstAttack 7 = .ok (.imul, 1) := by decide +kernel
theorem zd_M_firstAttack_8 : decode zo_M_firstAttack 8 = .ok (.iload_n 2, 1) := by decide +kernel
theorem zd_M_firstAttack_9 : decode zo_M_firstAttack 9 = .ok (.iadd, 1) := by decide +kernel
theorem zd_M_firstAttack_10 : decode zo_M_firstAttack 10 = .ok (.iaload, 1) := by decide +kernel
theorem zd_M_firstAttack_11 : decode zo_M_firstAttack 11 = .ok (.iconst 1, 1) := by decide +kernel
theorem zd_M_firstAttack_12 : decode zo_M_firstAttack 12 = .ok (.isub, 1) := by decide +kernel
theorem zd_M_firstAttack_13 : decode zo_M_firstAttack 13 = .ok (.istore_n 3, 1) := by decide +kernel
theorem zd_M_firstAttack_14 : decode zo_M_firstAttack 14 = .ok (.iconst 0, 1) := by decide +kernel
theorem zd_M_firstAttack_15 : decode zo_M_firstAttack 15 = .ok (.istore 4, 2) := by decide +kernel
theorem zd_M_firstAttack_17 : decode zo_M_firstAttack 17 = .ok (.iload 4, 2) := by decide +kernel
theorem zd_M_firstAttack_19 : decode zo_M_firstAttack 19 = .ok (.sipush 192, 3) := by decide +kernel
theorem zd_M_firstAttack_22 : decode zo_M_firstAttack 22 = .ok (.if_icmp .ge 49, 3) := by decide +kernel
theorem zd_M_firstAttack_25 : decode zo_M_firstAttack 25 = .ok (.iload 4, 2) := by decide +kernel
theorem zd_M_firstAttack_27 : decode zo_M_firstAttack 27 = .ok (.bipush 96, 2) := by decide +kernel
theorem zd_M_firstAttack_29 : decode zo_M_firstAttack 29 = .ok (.if_icmp .ge 18, 3) := by decide +kernel
theorem zd_M_firstAttack_32 : decode zo_M_firstAttack 32 = .ok (.aload_n 0, 1) := by decide +kernel
theorem zd_M_firstAttack_33 : decode zo_M_firstAttack 33 = .ok (.iload_n 1, 1) := by decide +kernel
theorem zd_M_firstAttack_34 : decode zo_M_firstAttack 34 = .ok (.iload_n 2, 1) := by decide +kernel
theorem zd_M_firstAttack_35 : decode zo_M_firstAttack 35 = .ok (.iload 4, 2) := by decide +kernel
theorem zd_M_firstAttack_37 : decode zo_M_firstAttack 37 = .ok (.iload_n 3, 1) := by decide +kernel
theorem zd_M_firstAttack_38 : decode zo_M_firstAttack 38 = .ok (.invokevirtual 89, 3) := by decide +kernel
theorem zd_M_firstAttack_41 : decode zo_M_firstAttack 41 = .ok (.ifCond .eq 21, 3) := by decide +kernel
theorem zd_M_firstAttack_44 : decode zo_M_firstAttack 44 = .ok (.goto 27, 3) := by decide +kernel
theorem zd_M_firstAttack_47 : decode zo_M_firstAttack 47 = .ok (.aload_n 0, 1) := by decide +kernel
theorem zd_M_firstAttack_48 : decode zo_M_firstAttack 48 = .ok (.iload_n 2, 1) := by decide +kernel
theorem zd_M_firstAttack_49 : decode zo_M_firstAttack 49 = .ok (.iload_n 1, 1) := by decide +kernel
theorem zd_M_firstAttack_50 : decode zo_M_firstAttack 50 = .ok (.iload 4, 2) := by decide +kernel
theorem zd_M_firstAttack_52 : decode zo_M_firstAttack 52 = .ok (.bipush 96, 2) := by decide +kernel
theorem zd_M_firstAttack_54 : decode zo_M_firstAttack 54 = .ok (.isub, 1) := by decide +kernel
theorem zd_M_firstAttack_55 : decode zo_M_firstAttack 55 = .ok (.iload_n 3, 1) := by decide +kernel
theorem zd_M_firstAttack_56 : decode zo_M_firstAttack 56 = .ok (.invokevirtual 89, 3) := by decide +kernel
theorem zd_M_firstAttack_59 : decode zo_M_firstAttack 59 = .ok (.ifCond .ne 12, 3) := by decide +kernel
theorem zd_M_firstAttack_62 : decode zo_M_firstAttack 62 = .ok (.iload 4, 2) := by decide +kernel
theorem zd_M_firstAttack_64 : decode zo_M_firstAttack 64 = .ok (.iconst 1, 1) := by decide +kernel
theorem zd_M_firstAttack_65 : decode zo_M_firstAttack 65 = .ok (.iadd, 1) := by decide +kernel
theorem zd_M_firstAttack_66 : decode zo_M_firstAttack 66 = .ok (.istore 4, 2) := by decide +kernel
theorem zd_M_firstAttack_68 : decode zo_M_firstAttack 68 = .ok (.goto (-51), 3) := by decide +kernel
theorem zd_M_firstAttack_71 : decode zo_M_firstAttack 71 = .ok (.iload 4, 2) := by decide +kernel
theorem zd_M_firstAttack_73 : decode zo_M_firstAttack 73 = .ok (.ireturn, 1) := by decide +kernel
theorem zd_M_answerOf_0 : decode zo_M_answerOf 0 = .ok (.iconst (-1), 1) := by decide +kernel
theorem zd_M_answerOf_1 : decode zo_M_answerOf 1 = .ok (.istore 4, 2) := by decide +kernel
theorem zd_M_answerOf_3 : decode zo_M_answerOf 3 = .ok (.iconst 0, 1) := by decide +kernel
theorem zd_M_answerOf_4 : decode zo_M_answerOf 4 = .ok (.istore 5, 2) := by decide +kernel
theorem zd_M_answerOf_6 : decode zo_M_answerOf 6 = .ok (.iload 5, 2) := by decide +kernel
theorem zd_M_answerOf_8 : decode zo_M_answerOf 8 = .ok (.bipush 24, 2) := by decide +kernel
theorem zd_M_answerOf_10 : decode zo_M_answerOf 10 = .ok (.if_icmp .ge 73, 3) := by decide +kernel
theorem zd_M_answerOf_13 : decode zo_M_answerOf 13 = .ok (.aload_n 0, 1) := by decide +kernel
theorem zd_M_answerOf_14 : decode zo_M_answerOf 14 = .ok (.iload_n 1, 1) := by decide +kernel
theorem zd_M_answerOf_15 : decode zo_M_answerOf 15 = .ok (.iload_n 2, 1) := by decide +kernel
theorem zd_M_answerOf_16 : decode zo_M_answerOf 16 = .ok (.iload 5, 2) := by decide +kernel
theorem zd_M_answerOf_18 : decode zo_M_answerOf 18 = .ok (.invokevirtual 42, 3) := by decide +kernel
theorem zd_M_answerOf_21 : decode zo_M_answerOf 21 = .ok (.ifCond .eq 39, 3) := by decide +kernel
theorem zd_M_answerOf_24 : decode zo_M_answerOf 24 = .ok (.iload 4, 2) := by decide +kernel
theorem zd_M_answerOf_26 : decode zo_M_answerOf 26 = .ok (.ifCond .lt 30, 3) := by decide +kernel
theorem zd_M_answerOf_29 : decode zo_M_answerOf 29 = .ok (.aload_n 0, 1) := by decide +kernel
theorem zd_M_answerOf_30 : decode zo_M_answerOf 30 = .ok (.getfield 17, 3) := by decide +kernel
theorem zd_M_answerOf_33 : decode zo_M_answerOf 33 = .ok (.bipush 24, 2) := by decide +kernel
theorem zd_M_answerOf_35 : decode zo_M_answerOf 35 = .ok (.iload_n 3, 1) := by decide +kernel
theorem zd_M_answerOf_36 : decode zo_M_answerOf 36 = .ok (.imul, 1) := by decide +kernel
theorem zd_M_answerOf_37 : decode zo_M_answerOf 37 = .ok (.iload 5, 2) := by decide +kernel
theorem zd_M_answerOf_39 : decode zo_M_answerOf 39 = .ok (.iadd, 1) := by decide +kernel
theorem zd_M_answerOf_40 : decode zo_M_answerOf 40 = .ok (.iaload, 1) := by decide +kernel
theorem zd_M_answerOf_41 : decode zo_M_answerOf 41 = .ok (.aload_n 0, 1) := by decide +kernel
theorem zd_M_answerOf_42 : decode zo_M_answerOf 42 = .ok (.getfield 17, 3) := by decide +kernel
theorem zd_M_answerOf_45 : decode zo_M_answerOf 45 = .ok (.bipush 24, 2) := by decide +kernel
theorem zd_M_answerOf_47 : decode zo_M_answerOf 47 = .ok (.iload_n 3, 1) := by decide +kernel
theorem zd_M_answerOf_48 : decode zo_M_answerOf 48 = .ok (.imul, 1) := by decide +kernel
theorem zd_M_answerOf_49 : decode zo_M_answerOf 49 = .ok (.iload 4, 2) := by decide +kernel
theorem zd_M_answerOf_51 : decode zo_M_answerOf 51 = .ok (.iadd, 1) := by decide +kernel
theorem zd_M_answerOf_52 : decode zo_M_answerOf 52 = .ok (.iaload, 1) := by decide +kernel
theorem zd_M_answerOf_53 : decode zo_M_answerOf 53 = .ok (.if_icmp .le 7, 3) := by decide +kernel
theorem zd_M_answerOf_56 : decode zo_M_answerOf 56 = .ok (.iconst 1, 1) := by decide +kernel
theorem zd_M_answerOf_57 : decode zo_M_answerOf 57 = .ok (.goto 4, 3) := by decide +kernel
theorem zd_M_answerOf_60 : decode zo_M_answerOf 60 = .ok (.iconst 0, 1) := by decide +kernel
theorem zd_M_answerOf_61 : decode zo_M_answerOf 61 = .ok (.istore 6, 2) := by decide +kernel
theorem zd_M_answerOf_63 : decode zo_M_answerOf 63 = .ok (.iload 6, 2) := by decide +kernel
theorem zd_M_answerOf_65 : decode zo_M_answerOf 65 = .ok (.ifCond .eq 8, 3) := by decide +kernel
theorem zd_M_answerOf_68 : decode zo_M_answerOf 68 = .ok (.iload 5, 2) := by decide +kernel
theorem zd_M_answerOf_70 : decode zo_M_answerOf 70 = .ok (.goto 5, 3) := by decide +kernel
theorem zd_M_answerOf_73 : decode zo_M_answerOf 73 = .ok (.iload 4, 2) := by decide +kernel
theorem zd_M_answerOf_75 : decode zo_M_answerOf 75 = .ok (.istore 4, 2) := by decide +kernel
theorem zd_M_answerOf_77 : decode zo_M_answerOf 77 = .ok (.iinc 5 1, 3) := by decide +kernel
theorem zd_M_answerOf_80 : decode zo_M_answerOf 80 = .ok (.goto (-74), 3) := by decide +kernel
theorem zd_M_answerOf_83 : decode zo_M_answerOf 83 = .ok (.iload 4, 2) := by decide +kernel
theorem zd_M_answerOf_85 : decode zo_M_answerOf 85 = .ok (.ireturn, 1) := by decide +kernel
theorem zd_M_attack_0 : decode zo_M_attack 0 = .ok (.aload_n 0, 1) := by decide +kernel
theorem zd_M_attack_1 : decode zo_M_attack 1 = .ok (.iload_n 1, 1) := by decide +kernel
theorem zd_M_attack_2 : decode zo_M_attack 2 = .ok (.iload_n 2, 1) := by decide +kernel
theorem zd_M_attack_3 : decode zo_M_attack 3 = .ok (.invokevirtual 102, 3) := by decide +kernel
theorem zd_M_attack_6 : decode zo_M_attack 6 = .ok (.iload_n 3, 1) := by decide +kernel
theorem zd_M_attack_7 : decode zo_M_attack 7 = .ok (.ifCond .lt 20, 3) := by decide +kernel
theorem zd_M_attack_10 : decode zo_M_attack 10 = .ok (.iload_n 3, 1) := by decide +kernel
theorem zd_M_attack_11 : decode zo_M_attack 11 = .ok (.aload_n 0, 1) := by decide +kernel
theorem zd_M_attack_12 : decode zo_M_attack 12 = .ok (.getfield 92, 3) := by decide +kernel
theorem zd_M_attack_15 : decode zo_M_attack 15 = .ok (.if_icmp .ge 12, 3) := by decide +kernel
theorem zd_M_attack_18 : decode zo_M_attack 18 = .ok (.aload_n 0, 1) := by decide +kernel
theorem zd_M_attack_19 : decode zo_M_attack 19 = .ok (.getfield 29, 3) := by decide +kernel
theorem zd_M_attack_22 : decode zo_M_attack 22 = .ok (.iload_n 3, 1) := by decide +kernel
theorem zd_M_attack_23 : decode zo_M_attack 23 = .ok (.iaload, 1) := by decide +kernel
theorem zd_M_attack_24 : decode zo_M_attack 24 = .ok (.goto 4, 3) := by decide +kernel
theorem zd_M_attack_27 : decode zo_M_attack 27 = .ok (.iconst (-1), 1) := by decide +kernel
theorem zd_M_attack_28 : decode zo_M_attack 28 = .ok (.ireturn, 1) := by decide +kernel
theorem zd_M_answer_0 : decode zo_M_answer 0 = .ok (.aload_n 0, 1) := by decide +kernel
theorem zd_M_answer_1 : decode zo_M_answer 1 = .ok (.iload_n 1, 1) := by decide +kernel
theorem zd_M_answer_2 : decode zo_M_answer 2 = .ok (.iload_n 2, 1) := by decide +kernel
theorem zd_M_answer_3 : decode zo_M_answer 3 = .ok (.invokevirtual 102, 3) := by decide +kernel
theorem zd_M_answer_6 : decode zo_M_answer 6 = .ok (.iload_n 3, 1) := by decide +kernel
theorem zd_M_answer_7 : decode zo_M_answer 7 = .ok (.ifCond .lt 20, 3) := by decide +kernel
theorem zd_M_answer_10 : decode zo_M_answer 10 = .ok (.iload_n 3, 1) := by decide +kernel
theorem zd_M_answer_11 : decode zo_M_answer 11 = .ok (.aload_n 0, 1) := by decide +kernel
theorem zd_M_answer_12 : decode zo_M_answer 12 = .ok (.getfield 92, 3) := by decide +kernel
theorem zd_M_answer_15 : decode zo_M_answer 15 = .ok (.if_icmp .ge 12, 3) := by decide +kernel
theorem zd_M_answer_18 : decode zo_M_answer 18 = .ok (.aload_n 0, 1) := by decide +kernel
theorem zd_M_answer_19 : decode zo_M_answer 19 = .ok (.getfield 32, 3) := by decide +kernel
theorem zd_M_answer_22 : decode zo_M_answer 22 = .ok (.iload_n 3, 1) := by decide +kernel
theorem zd_M_answer_23 : decode zo_M_answer 23 = .ok (.iaload, 1) := by decide +kernel
theorem zd_M_answer_24 : decode zo_M_answer 24 = .ok (.goto 4, 3) := by decide +kernel
theorem zd_M_answer_27 : decode zo_M_answer 27 = .ok (.iconst (-1), 1) := by decide +kernel
theorem zd_M_answer_28 : decode zo_M_answer 28 = .ok (.ireturn, 1) := by decide +kernel
