theorem zd_X_init_0 : decode zo_X_init 0 = .ok (.aload_n 0, 1) := by decide +kernel
theorem zd_X_init_1 : decode zo_X_init 1 = .ok (.invokespecial 1, 3) := by decide +kernel
theorem zd_X_init_4 : decode zo_X_init 4 = .ok (.aload_n 0, 1) := by decide +kernel
theorem zd_X_init_5 : decode zo_X_init 5 = .ok (.new 7, 3) := by decide +kernel
theorem zd_X_init_8 : decode zo_X_init 8 = .ok (.dup, 1) := by decide +kernel
theorem zd_X_init_9 : decode zo_X_init 9 = .ok (.invokespecial 9, 3) := by decide +kernel
theorem zd_X_init_12 : decode zo_X_init 12 = .ok (.putfield 10, 3) := by decide +kernel
theorem zd_X_init_15 : decode zo_X_init 15 = .ok (.aload_n 0, 1) := by decide +kernel
theorem zd_X_init_16 : decode zo_X_init 16 = .ok (.new 16, 3) := by decide +kernel
theorem zd_X_init_19 : decode zo_X_init 19 = .ok (.dup, 1) := by decide +kernel
theorem zd_X_init_20 : decode zo_X_init 20 = .ok (.aload_n 0, 1) := by decide +kernel
theorem zd_X_init_21 : decode zo_X_init 21 = .ok (.getfield 10, 3) := by decide +kernel
theorem zd_X_init_24 : decode zo_X_init 24 = .ok (.invokespecial 18, 3) := by decide +kernel
theorem zd_X_init_27 : decode zo_X_init 27 = .ok (.putfield 21, 3) := by decide +kernel
theorem zd_X_init_30 : decode zo_X_init 30 = .ok (.aload_n 0, 1) := by decide +kernel
theorem zd_X_init_31 : decode zo_X_init 31 = .ok (.new 25, 3) := by decide +kernel
theorem zd_X_init_34 : decode zo_X_init 34 = .ok (.dup, 1) := by decide +kernel
theorem zd_X_init_35 : decode zo_X_init 35 = .ok (.aload_n 0, 1) := by decide +kernel
theorem zd_X_init_36 : decode zo_X_init 36 = .ok (.getfield 10, 3) := by decide +kernel
theorem zd_X_init_39 : decode zo_X_init 39 = .ok (.invokespecial 27, 3) := by decide +kernel
theorem zd_X_init_42 : decode zo_X_init 42 = .ok (.putfield 28, 3) := by decide +kernel
theorem zd_X_init_45 : decode zo_X_init 45 = .ok (.aload_n 0, 1) := by decide +kernel
theorem zd_X_init_46 : decode zo_X_init 46 = .ok (.new 32, 3) := by decide +kernel
theorem zd_X_init_49 : decode zo_X_init 49 = .ok (.dup, 1) := by decide +kernel
theorem zd_X_init_50 : decode zo_X_init 50 = .ok (.aload_n 0, 1) := by decide +kernel
theorem zd_X_init_51 : decode zo_X_init 51 = .ok (.getfield 10, 3) := by decide +kernel
theorem zd_X_init_54 : decode zo_X_init 54 = .ok (.aload_n 0, 1) := by decide +kernel
theorem zd_X_init_55 : decode zo_X_init 55 = .ok (.getfield 21, 3) := by decide +kernel
theorem zd_X_init_58 : decode zo_X_init 58 = .ok (.invokespecial 34, 3) := by decide +kernel
theorem zd_X_init_61 : decode zo_X_init 61 = .ok (.putfield 37, 3) := by decide +kernel
theorem zd_X_init_64 : decode zo_X_init 64 = .ok (.return_, 1) := by decide +kernel
theorem zd_X_move_0 : decode zo_X_move 0 = .ok (.iload_n 1, 1) := by decide +kernel
theorem zd_X_move_1 : decode zo_X_move 1 = .ok (.iload_n 2, 1) := by decide +kernel
theorem zd_X_move_2 : decode zo_X_move 2 = .ok (.iload_n 3, 1) := by decide +kernel
theorem zd_X_move_3 : decode zo_X_move 3 = .ok (.invokestatic 41, 3) := by decide +kernel
theorem zd_X_move_6 : decode zo_X_move 6 = .ok (.ifCond .eq 28, 3) := by decide +kernel
theorem zd_X_move_9 : decode zo_X_move 9 = .ok (.aload_n 0, 1) := by decide +kernel
theorem zd_X_move_10 : decode zo_X_move 10 = .ok (.getfield 10, 3) := by decide +kernel
theorem zd_X_move_13 : decode zo_X_move 13 = .ok (.iload_n 1, 1) := by decide +kernel
theorem zd_X_move_14 : decode zo_X_move 14 = .ok (.iload_n 2, 1) := by decide +kernel
theorem zd_X_move_15 : decode zo_X_move 15 = .ok (.iload_n 3, 1) := by decide +kernel
theorem zd_X_move_16 : decode zo_X_move 16 = .ok (.invokevirtual 45, 3) := by decide +kernel
theorem zd_X_move_19 : decode zo_X_move 19 = .ok (.ifCond .ne 15, 3) := by decide +kernel
theorem zd_X_move_22 : decode zo_X_move 22 = .ok (.aload_n 0, 1) := by decide +kernel
theorem zd_X_move_23 : decode zo_X_move 23 = .ok (.getfield 10, 3) := by decide +kernel
theorem zd_X_move_26 : decode zo_X_move 26 = .ok (.invokevirtual 48, 3) := by decide +kernel
theorem zd_X_move_29 : decode zo_X_move 29 = .ok (.bipush 120, 2) := by decide +kernel
theorem zd_X_move_31 : decode zo_X_move 31 = .ok (.if_icmp .lt 5, 3) := by decide +kernel
theorem zd_X_move_34 : decode zo_X_move 34 = .ok (.iconst 0, 1) := by decide +kernel
theorem zd_X_move_35 : decode zo_X_move 35 = .ok (.ireturn, 1) := by decide +kernel
theorem zd_X_move_36 : decode zo_X_move 36 = .ok (.aload_n 0, 1) := by decide +kernel
theorem zd_X_move_37 : decode zo_X_move 37 = .ok (.getfield 10, 3) := by decide +kernel
theorem zd_X_move_40 : decode zo_X_move 40 = .ok (.iload_n 1, 1) := by decide +kernel
theorem zd_X_move_41 : decode zo_X_move 41 = .ok (.iload_n 2, 1) := by decide +kernel
theorem zd_X_move_42 : decode zo_X_move 42 = .ok (.iload_n 3, 1) := by decide +kernel
theorem zd_X_move_43 : decode zo_X_move 43 = .ok (.invokevirtual 52, 3) := by decide +kernel
theorem zd_X_move_46 : decode zo_X_move 46 = .ok (.aload_n 0, 1) := by decide +kernel
theorem zd_X_move_47 : decode zo_X_move 47 = .ok (.invokevirtual 56, 3) := by decide +kernel
theorem zd_X_move_50 : decode zo_X_move 50 = .ok (.iconst 1, 1) := by decide +kernel
theorem zd_X_move_51 : decode zo_X_move 51 = .ok (.ireturn, 1) := by decide +kernel
theorem zd_X_isMove_0 : decode zo_X_isMove 0 = .ok (.iload_n 0, 1) := by decide +kernel
theorem zd_X_isMove_1 : decode zo_X_isMove 1 = .ok (.iload_n 2, 1) := by decide +kernel
theorem zd_X_isMove_2 : decode zo_X_isMove 2 = .ok (.invokestatic 73, 3) := by decide +kernel
theorem zd_X_isMove_5 : decode zo_X_isMove 5 = .ok (.ifCond .eq 14, 3) := by decide +kernel
theorem zd_X_isMove_8 : decode zo_X_isMove 8 = .ok (.iload_n 1, 1) := by decide +kernel
theorem zd_X_isMove_9 : decode zo_X_isMove 9 = .ok (.invokestatic 95, 3) := by decide +kernel
theorem zd_X_isMove_12 : decode zo_X_isMove 12 = .ok (.ifCond .eq 7, 3) := by decide +kernel
theorem zd_X_isMove_15 : decode zo_X_isMove 15 = .ok (.iconst 1, 1) := by decide +kernel
theorem zd_X_isMove_16 : decode zo_X_isMove 16 = .ok (.goto 4, 3) := by decide +kernel
theorem zd_X_isMove_19 : decode zo_X_isMove 19 = .ok (.iconst 0, 1) := by decide +kernel
theorem zd_X_isMove_20 : decode zo_X_isMove 20 = .ok (.ireturn, 1) := by decide +kernel
theorem zd_X_areStates_0 : decode zo_X_areStates 0 = .ok (.iload_n 0, 1) := by decide +kernel
theorem zd_X_areStates_1 : decode zo_X_areStates 1 = .ok (.invokestatic 62, 3) := by decide +kernel
theorem zd_X_areStates_4 : decode zo_X_areStates 4 = .ok (.ifCond .eq 14, 3) := by decide +kernel
theorem zd_X_areStates_7 : decode zo_X_areStates 7 = .ok (.iload_n 1, 1) := by decide +kernel
theorem zd_X_areStates_8 : decode zo_X_areStates 8 = .ok (.invokestatic 62, 3) := by decide +kernel
theorem zd_X_areStates_11 : decode zo_X_areStates 11 = .ok (.ifCond .eq 7, 3) := by decide +kernel
theorem zd_X_areStates_14 : decode zo_X_areStates 14 = .ok (.iconst 1, 1) := by decide +kernel
theorem zd_X_areStates_15 : decode zo_X_areStates 15 = .ok (.goto 4, 3) := by decide +kernel
theorem zd_X_areStates_18 : decode zo_X_areStates 18 = .ok (.iconst 0, 1) := by decide +kernel
theorem zd_X_areStates_19 : decode zo_X_areStates 19 = .ok (.ireturn, 1) := by decide +kernel
theorem zd_X_isState_0 : decode zo_X_isState 0 = .ok (.iload_n 0, 1) := by decide +kernel
theorem zd_X_isState_1 : decode zo_X_isState 1 = .ok (.ifCond .lt 13, 3) := by decide +kernel
theorem zd_X_isState_4 : decode zo_X_isState 4 = .ok (.iload_n 0, 1) := by decide +kernel
theorem zd_X_isState_5 : decode zo_X_isState 5 = .ok (.bipush 24, 2) := by decide +kernel
theorem zd_X_isState_7 : decode zo_X_isState 7 = .ok (.if_icmp .ge 7, 3) := by decide +kernel
theorem zd_X_isState_10 : decode zo_X_isState 10 = .ok (.iconst 1, 1) := by decide +kernel
theorem zd_X_isState_11 : decode zo_X_isState 11 = .ok (.goto 4, 3) := by decide +kernel
theorem zd_X_isState_14 : decode zo_X_isState 14 = .ok (.iconst 0, 1) := by decide +kernel
theorem zd_X_isState_15 : decode zo_X_isState 15 = .ok (.ireturn, 1) := by decide +kernel
theorem zd_X_isLabel_0 : decode zo_X_isLabel 0 = .ok (.iload_n 0, 1) := by decide +kernel
theorem zd_X_isLabel_1 : decode zo_X_isLabel 1 = .ok (.ifCond .lt 12, 3) := by decide +kernel
theorem zd_X_isLabel_4 : decode zo_X_isLabel 4 = .ok (.iload_n 0, 1) := by decide +kernel
theorem zd_X_isLabel_5 : decode zo_X_isLabel 5 = .ok (.iconst 4, 1) := by decide +kernel
theorem zd_X_isLabel_6 : decode zo_X_isLabel 6 = .ok (.if_icmp .ge 7, 3) := by decide +kernel
theorem zd_X_isLabel_9 : decode zo_X_isLabel 9 = .ok (.iconst 1, 1) := by decide +kernel
theorem zd_X_isLabel_10 : decode zo_X_isLabel 10 = .ok (.goto 4, 3) := by decide +kernel
theorem zd_X_isLabel_13 : decode zo_X_isLabel 13 = .ok (.iconst 0, 1) := by decide +kernel
theorem zd_X_isLabel_14 : decode zo_X_isLabel 14 = .ok (.ireturn, 1) := by decide +kernel
theorem zd_X_hasBit_0 : decode zo_X_hasBit 0 = .ok (.iload_n 0, 1) := by decide +kernel
theorem zd_X_hasBit_1 : decode zo_X_hasBit 1 = .ok (.iload_n 1, 1) := by decide +kernel
theorem zd_X_hasBit_2 : decode zo_X_hasBit 2 = .ok (.ishr, 1) := by decide +kernel
theorem zd_X_hasBit_3 : decode zo_X_hasBit 3 = .ok (.iconst 1, 1) := by decide +kernel
theorem zd_X_hasBit_4 : decode zo_X_hasBit 4 = .ok (.iand, 1) := by decide +kernel
theorem zd_X_hasBit_5 : decode zo_X_hasBit 5 = .ok (.ifCond .eq 7, 3) := by decide +kernel
theorem zd_X_hasBit_8 : decode zo_X_hasBit 8 = .ok (.iconst 1, 1) := by decide +kernel
theorem zd_X_hasBit_9 : decode zo_X_hasBit 9 = .ok (.goto 4, 3) := by decide +kernel
theorem zd_X_hasBit_12 : decode zo_X_hasBit 12 = .ok (.iconst 0, 1) := by decide +kernel
theorem zd_X_hasBit_13 : decode zo_X_hasBit 13 = .ok (.ireturn, 1) := by decide +kernel
theorem zd_X_forgetAnswers_0 : decode zo_X_forgetAnswers 0 = .ok (.aload_n 0, 1) := by decide +kernel
theorem zd_X_forgetAnswers_1 : decode zo_X_forgetAnswers 1 = .ok (.getfield 21, 3) := by decide +kernel
theorem zd_X_forgetAnswers_4 : decode zo_X_forgetAnswers 4 = .ok (.invokevirtual 137, 3) := by decide +kernel
theorem zd_X_forgetAnswers_7 : decode zo_X_forgetAnswers 7 = .ok (.aload_n 0, 1) := by decide +kernel
theorem zd_X_forgetAnswers_8 : decode zo_X_forgetAnswers 8 = .ok (.getfield 28, 3) := by decide +kernel
theorem zd_X_forgetAnswers_11 : decode zo_X_forgetAnswers 11 = .ok (.invokevirtual 140, 3) := by decide +kernel
theorem zd_X_forgetAnswers_14 : decode zo_X_forgetAnswers 14 = .ok (.return_, 1) := by decide +kernel
theorem zd_X_drop_0 : decode zo_X_drop 0 = .ok (.iload_n 1, 1) := by decide +kernel
theorem zd_X_drop_1 : decode zo_X_drop 1 = .ok (.iload_n 2, 1) := by decide +kernel
theorem zd_X_drop_2 : decode zo_X_drop 2 = .ok (.iload_n 3, 1) := by decide +kernel
theorem zd_X_drop_3 : decode zo_X_drop 3 = .ok (.invokestatic 41, 3) := by decide +kernel
theorem zd_X_drop_6 : decode zo_X_drop 6 = .ok (.ifCond .eq 16, 3) := by decide +kernel
theorem zd_X_drop_9 : decode zo_X_drop 9 = .ok (.aload_n 0, 1) := by decide +kernel
theorem zd_X_drop_10 : decode zo_X_drop 10 = .ok (.getfield 10, 3) := by decide +kernel
theorem zd_X_drop_13 : decode zo_X_drop 13 = .ok (.iload_n 1, 1) := by decide +kernel
theorem zd_X_drop_14 : decode zo_X_drop 14 = .ok (.iload_n 2, 1) := by decide +kernel
theorem zd_X_drop_15 : decode zo_X_drop 15 = .ok (.iload_n 3, 1) := by decide +kernel
theorem zd_X_drop_16 : decode zo_X_drop 16 = .ok (.invokevirtual 45, 3) := by decide +kernel
theorem zd_X_drop_19 : decode zo_X_drop 19 = .ok (.ifCond .ne 5, 3) := by decide +kernel
theorem zd_X_drop_22 : decode zo_X_drop 22 = .ok (.iconst 0, 1) := by decide +kernel
theorem zd_X_drop_23 : decode zo_X_drop 23 = .ok (.ireturn, 1) := by decide +kernel
theorem zd_X_drop_24 : decode zo_X_drop 24 = .ok (.aload_n 0, 1) := by decide +kernel
theorem zd_X_drop_25 : decode zo_X_drop 25 = .ok (.getfield 10, 3) := by decide +kernel
theorem zd_X_drop_28 : decode zo_X_drop 28 = .ok (.iload_n 1, 1) := by decide +kernel
theorem zd_X_drop_29 : decode zo_X_drop 29 = .ok (.iload_n 2, 1) := by decide +kernel
theorem zd_X_drop_30 : decode zo_X_drop 30 = .ok (.iload_n 3, 1) := by decide +kernel
theorem zd_X_drop_31 : decode zo_X_drop 31 = .ok (.invokevirtual 59, 3) := by decide +kernel
theorem zd_X_drop_34 : decode zo_X_drop 34 = .ok (.aload_n 0, 1) := by decide +kernel
theorem zd_X_drop_35 : decode zo_X_drop 35 = .ok (.invokevirtual 56, 3) := by decide +kernel
theorem zd_X_drop_38 : decode zo_X_drop 38 = .ok (.iconst 1, 1) := by decide +kernel
theorem zd_X_drop_39 : decode zo_X_drop 39 = .ok (.ireturn, 1) := by decide +kernel
theorem zd_X_colour_0 : decode zo_X_colour 0 = .ok (.iload_n 1, 1) := by decide +kernel
theorem zd_X_colour_1 : decode zo_X_colour 1 = .ok (.invokestatic 62, 3) := by decide +kernel
theorem zd_X_colour_4 : decode zo_X_colour 4 = .ok (.ifCond .ne 5, 3) := by decide +kernel
theorem zd_X_colour_7 : decode zo_X_colour 7 = .ok (.iconst 0, 1) := by decide +kernel
theorem zd_X_colour_8 : decode zo_X_colour 8 = .ok (.ireturn, 1) := by decide +kernel
theorem zd_X_colour_9 : decode zo_X_colour 9 = .ok (.aload_n 0, 1) := by decide +kernel
theorem zd_X_colour_10 : decode zo_X_colour 10 = .ok (.getfield 10, 3) := by decide +kernel
theorem zd_X_colour_13 : decode zo_X_colour 13 = .ok (.iload_n 1, 1) := by decide +kernel
theorem zd_X_colour_14 : decode zo_X_colour 14 = .ok (.iload_n 2, 1) := by decide +kernel
theorem zd_X_colour_15 : decode zo_X_colour 15 = .ok (.invokevirtual 66, 3) := by decide +kernel
theorem zd_X_colour_18 : decode zo_X_colour 18 = .ok (.aload_n 0, 1) := by decide +kernel
theorem zd_X_colour_19 : decode zo_X_colour 19 = .ok (.invokevirtual 56, 3) := by decide +kernel
theorem zd_X_colour_22 : decode zo_X_colour 22 = .ok (.iconst 1, 1) := by decide +kernel
theorem zd_X_colour_23 : decode zo_X_colour 23 = .ok (.ireturn, 1) := by decide +kernel
theorem zd_X_moves_0 : decode zo_X_moves 0 = .ok (.aload_n 0, 1) := by decide +kernel
theorem zd_X_moves_1 : decode zo_X_moves 1 = .ok (.getfield 10, 3) := by decide +kernel
theorem zd_X_moves_4 : decode zo_X_moves 4 = .ok (.invokevirtual 48, 3) := by decide +kernel
theorem zd_X_moves_7 : decode zo_X_moves 7 = .ok (.ireturn, 1) := by decide +kernel
theorem zd_X_clear_0 : decode zo_X_clear 0 = .ok (.aload_n 0, 1) := by decide +kernel
theorem zd_X_clear_1 : decode zo_X_clear 1 = .ok (.getfield 10, 3) := by decide +kernel
theorem zd_X_clear_4 : decode zo_X_clear 4 = .ok (.invokevirtual 48, 3) := by decide +kernel
theorem zd_X_clear_7 : decode zo_X_clear 7 = .ok (.istore_n 1, 1) := by decide +kernel
theorem zd_X_clear_8 : decode zo_X_clear 8 = .ok (.aload_n 0, 1) := by decide +kernel
theorem zd_X_clear_9 : decode zo_X_clear 9 = .ok (.getfield 10, 3) := by decide +kernel
theorem zd_X_clear_12 : decode zo_X_clear 12 = .ok (.invokevirtual 70, 3) := by decide +kernel
theorem zd_X_clear_15 : decode zo_X_clear 15 = .ok (.aload_n 0, 1) := by decide +kernel
theorem zd_X_clear_16 : decode zo_X_clear 16 = .ok (.invokevirtual 56, 3) := by decide +kernel
theorem zd_X_clear_19 : decode zo_X_clear 19 = .ok (.iload_n 1, 1) := by decide +kernel
theorem zd_X_clear_20 : decode zo_X_clear 20 = .ok (.ireturn, 1) := by decide +kernel
theorem zd_X_alike_0 : decode zo_X_alike 0 = .ok (.iload_n 1, 1) := by decide +kernel
theorem zd_X_alike_1 : decode zo_X_alike 1 = .ok (.iload_n 2, 1) := by decide +kernel
theorem zd_X_alike_2 : decode zo_X_alike 2 = .ok (.invokestatic 73, 3) := by decide +kernel
theorem zd_X_alike_5 : decode zo_X_alike 5 = .ok (.ifCond .eq 20, 3) := by decide +kernel
theorem zd_X_alike_8 : decode zo_X_alike 8 = .ok (.aload_n 0, 1) := by decide +kernel
theorem zd_X_alike_9 : decode zo_X_alike 9 = .ok (.invokevirtual 77, 3) := by decide +kernel
theorem zd_X_alike_12 : decode zo_X_alike 12 = .ok (.iload_n 1, 1) := by decide +kernel
theorem zd_X_alike_13 : decode zo_X_alike 13 = .ok (.iload_n 2, 1) := by decide +kernel
theorem zd_X_alike_14 : decode zo_X_alike 14 = .ok (.invokevirtual 81, 3) := by decide +kernel
theorem zd_X_alike_17 : decode zo_X_alike 17 = .ok (.iconst (-1), 1) := by decide +kernel
theorem zd_X_alike_18 : decode zo_X_alike 18 = .ok (.if_icmp .ne 7, 3) := by decide +kernel
theorem zd_X_alike_21 : decode zo_X_alike 21 = .ok (.iconst 1, 1) := by decide +kernel
theorem zd_X_alike_22 : decode zo_X_alike 22 = .ok (.goto 4, 3) := by decide +kernel
theorem zd_X_alike_25 : decode zo_X_alike 25 = .ok (.iconst 0, 1) := by decide +kernel
theorem zd_X_alike_26 : decode zo_X_alike 26 = .ok (.ireturn, 1) := by decide +kernel
theorem zd_X_settledLikeness_0 : decode zo_X_settledLikeness 0 = .ok (.aload_n 0, 1) := by decide +kernel
theorem zd_X_settledLikeness_1 : decode zo_X_settledLikeness 1 = .ok (.getfield 21, 3) := by decide +kernel
theorem zd_X_settledLikeness_4 : decode zo_X_settledLikeness 4 = .ok (.invokevirtual 119, 3) := by decide +kernel
theorem zd_X_settledLikeness_7 : decode zo_X_settledLikeness 7 = .ok (.aload_n 0, 1) := by decide +kernel
theorem zd_X_settledLikeness_8 : decode zo_X_settledLikeness 8 = .ok (.getfield 21, 3) := by decide +kernel
theorem zd_X_settledLikeness_11 : decode zo_X_settledLikeness 11 = .ok (.areturn, 1) := by decide +kernel
theorem zd_X_breach_0 : decode zo_X_breach 0 = .ok (.iload_n 1, 1) := by decide +kernel
theorem zd_X_breach_1 : decode zo_X_breach 1 = .ok (.iload_n 2, 1) := by decide +kernel
theorem zd_X_breach_2 : decode zo_X_breach 2 = .ok (.invokestatic 73, 3) := by decide +kernel
theorem zd_X_breach_5 : decode zo_X_breach 5 = .ok (.ifCond .eq 15, 3) := by decide +kernel
theorem zd_X_breach_8 : decode zo_X_breach 8 = .ok (.aload_n 0, 1) := by decide +kernel
theorem zd_X_breach_9 : decode zo_X_breach 9 = .ok (.invokevirtual 77, 3) := by decide +kernel
theorem zd_X_breach_12 : decode zo_X_breach 12 = .ok (.iload_n 1, 1) := by decide +kernel
theorem zd_X_breach_13 : decode zo_X_breach 13 = .ok (.iload_n 2, 1) := by decide +kernel
theorem zd_X_breach_14 : decode zo_X_breach 14 = .ok (.invokevirtual 81, 3) := by decide +kernel
theorem zd_X_breach_17 : decode zo_X_breach 17 = .ok (.goto 4, 3) := by decide +kernel
theorem zd_X_breach_20 : decode zo_X_breach 20 = .ok (.iconst (-1), 1) := by decide +kernel
theorem zd_X_breach_21 : decode zo_X_breach 21 = .ok (.ireturn, 1) := by decide +kernel
theorem zd_X_kinds_0 : decode zo_X_kinds 0 = .ok (.aload_n 0, 1) := by decide +kernel
theorem zd_X_kinds_1 : decode zo_X_kinds 1 = .ok (.invokevirtual 77, 3) := by decide +kernel
theorem zd_X_kinds_4 : decode zo_X_kinds 4 = .ok (.invokevirtual 85, 3) := by decide +kernel
theorem zd_X_kinds_7 : decode zo_X_kinds 7 = .ok (.ireturn, 1) := by decide +kernel
theorem zd_X_kind_0 : decode zo_X_kind 0 = .ok (.iload_n 1, 1) := by decide +kernel
theorem zd_X_kind_1 : decode zo_X_kind 1 = .ok (.invokestatic 62, 3) := by decide +kernel
theorem zd_X_kind_4 : decode zo_X_kind 4 = .ok (.ifCond .eq 14, 3) := by decide +kernel
theorem zd_X_kind_7 : decode zo_X_kind 7 = .ok (.aload_n 0, 1) := by decide +kernel
theorem zd_X_kind_8 : decode zo_X_kind 8 = .ok (.invokevirtual 77, 3) := by decide +kernel
theorem zd_X_kind_11 : decode zo_X_kind 11 = .ok (.iload_n 1, 1) := by decide +kernel
theorem zd_X_kind_12 : decode zo_X_kind 12 = .ok (.invokevirtual 88, 3) := by decide +kernel
theorem zd_X_kind_15 : decode zo_X_kind 15 = .ok (.goto 4, 3) := by decide +kernel
theorem zd_X_kind_18 : decode zo_X_kind 18 = .ok (.iconst (-1), 1) := by decide +kernel
theorem zd_X_kind_19 : decode zo_X_kind 19 = .ok (.ireturn, 1) := by decide +kernel
theorem zd_X_size_0 : decode zo_X_size 0 = .ok (.aload_n 0, 1) := by decide +kernel
theorem zd_X_size_1 : decode zo_X_size 1 = .ok (.invokevirtual 77, 3) := by decide +kernel
theorem zd_X_size_4 : decode zo_X_size 4 = .ok (.iload_n 1, 1) := by decide +kernel
theorem zd_X_size_5 : decode zo_X_size 5 = .ok (.invokevirtual 92, 3) := by decide +kernel
theorem zd_X_size_8 : decode zo_X_size 8 = .ok (.ireturn, 1) := by decide +kernel
theorem zd_X_reach_0 : decode zo_X_reach 0 = .ok (.iload_n 2, 1) := by decide +kernel
theorem zd_X_reach_1 : decode zo_X_reach 1 = .ok (.invokestatic 95, 3) := by decide +kernel
theorem zd_X_reach_4 : decode zo_X_reach 4 = .ok (.ifCond .eq 15, 3) := by decide +kernel
theorem zd_X_reach_7 : decode zo_X_reach 7 = .ok (.aload_n 0, 1) := by decide +kernel
theorem zd_X_reach_8 : decode zo_X_reach 8 = .ok (.invokevirtual 77, 3) := by decide +kernel
theorem zd_X_reach_11 : decode zo_X_reach 11 = .ok (.iload_n 1, 1) := by decide +kernel
theorem zd_X_reach_12 : decode zo_X_reach 12 = .ok (.iload_n 2, 1) := by decide +kernel
theorem zd_X_reach_13 : decode zo_X_reach 13 = .ok (.invokevirtual 98, 3) := by decide +kernel
theorem zd_X_reach_16 : decode zo_X_reach 16 = .ok (.goto 4, 3) := by decide +kernel
theorem zd_X_reach_19 : decode zo_X_reach 19 = .ok (.iconst 0, 1) := by decide +kernel
theorem zd_X_reach_20 : decode zo_X_reach 20 = .ok (.ireturn, 1) := by decide +kernel
theorem zd_X_links_0 : decode zo_X_links 0 = .ok (.aload_n 0, 1) := by decide +kernel
theorem zd_X_links_1 : decode zo_X_links 1 = .ok (.invokevirtual 77, 3) := by decide +kernel
theorem zd_X_links_4 : decode zo_X_links 4 = .ok (.invokevirtual 101, 3) := by decide +kernel
theorem zd_X_links_7 : decode zo_X_links 7 = .ok (.ireturn, 1) := by decide +kernel
theorem zd_X_covers_0 : decode zo_X_covers 0 = .ok (.iload_n 1, 1) := by decide +kernel
theorem zd_X_covers_1 : decode zo_X_covers 1 = .ok (.iload_n 2, 1) := by decide +kernel
theorem zd_X_covers_2 : decode zo_X_covers 2 = .ok (.invokestatic 73, 3) := by decide +kernel
theorem zd_X_covers_5 : decode zo_X_covers 5 = .ok (.ifCond .eq 22, 3) := by decide +kernel
theorem zd_X_covers_8 : decode zo_X_covers 8 = .ok (.aload_n 0, 1) := by decide +kernel
theorem zd_X_covers_9 : decode zo_X_covers 9 = .ok (.invokevirtual 104, 3) := by decide +kernel
theorem zd_X_covers_12 : decode zo_X_covers 12 = .ok (.iload_n 1, 1) := by decide +kernel
theorem zd_X_covers_13 : decode zo_X_covers 13 = .ok (.invokevirtual 108, 3) := by decide +kernel
theorem zd_X_covers_16 : decode zo_X_covers 16 = .ok (.iload_n 2, 1) := by decide +kernel
theorem zd_X_covers_17 : decode zo_X_covers 17 = .ok (.invokestatic 111, 3) := by decide +kernel
theorem zd_X_covers_20 : decode zo_X_covers 20 = .ok (.ifCond .eq 7, 3) := by decide +kernel
theorem zd_X_covers_23 : decode zo_X_covers 23 = .ok (.iconst 1, 1) := by decide +kernel
theorem zd_X_covers_24 : decode zo_X_covers 24 = .ok (.goto 4, 3) := by decide +kernel
theorem zd_X_covers_27 : decode zo_X_covers 27 = .ok (.iconst 0, 1) := by decide +kernel
theorem zd_X_covers_28 : decode zo_X_covers 28 = .ok (.ireturn, 1) := by decide +kernel
theorem zd_X_settledCover_0 : decode zo_X_settledCover 0 = .ok (.aload_n 0, 1) := by decide +kernel
theorem zd_X_settledCover_1 : decode zo_X_settledCover 1 = .ok (.getfield 28, 3) := by decide +kernel
theorem zd_X_settledCover_4 : decode zo_X_settledCover 4 = .ok (.invokevirtual 141, 3) := by decide +kernel
theorem zd_X_settledCover_7 : decode zo_X_settledCover 7 = .ok (.aload_n 0, 1) := by decide +kernel
theorem zd_X_settledCover_8 : decode zo_X_settledCover 8 = .ok (.getfield 28, 3) := by decide +kernel
theorem zd_X_settledCover_11 : decode zo_X_settledCover 11 = .ok (.areturn, 1) := by decide +kernel
theorem zd_X_below_0 : decode zo_X_below 0 = .ok (.iload_n 1, 1) := by decide +kernel
theorem zd_X_below_1 : decode zo_X_below 1 = .ok (.invokestatic 62, 3) := by decide +kernel
theorem zd_X_below_4 : decode zo_X_below 4 = .ok (.ifCond .eq 17, 3) := by decide +kernel
theorem zd_X_below_7 : decode zo_X_below 7 = .ok (.aload_n 0, 1) := by decide +kernel
theorem zd_X_below_8 : decode zo_X_below 8 = .ok (.invokevirtual 104, 3) := by decide +kernel
theorem zd_X_below_11 : decode zo_X_below 11 = .ok (.iload_n 1, 1) := by decide +kernel
theorem zd_X_below_12 : decode zo_X_below 12 = .ok (.invokevirtual 108, 3) := by decide +kernel
theorem zd_X_below_15 : decode zo_X_below 15 = .ok (.invokestatic 114, 3) := by decide +kernel
theorem zd_X_below_18 : decode zo_X_below 18 = .ok (.goto 4, 3) := by decide +kernel
theorem zd_X_below_21 : decode zo_X_below 21 = .ok (.iconst (-1), 1) := by decide +kernel
theorem zd_X_below_22 : decode zo_X_below 22 = .ok (.ireturn, 1) := by decide +kernel
theorem zd_X_attacks_0 : decode zo_X_attacks 0 = .ok (.iload_n 1, 1) := by decide +kernel
theorem zd_X_attacks_1 : decode zo_X_attacks 1 = .ok (.iload_n 2, 1) := by decide +kernel
theorem zd_X_attacks_2 : decode zo_X_attacks 2 = .ok (.invokestatic 73, 3) := by decide +kernel
theorem zd_X_attacks_5 : decode zo_X_attacks 5 = .ok (.ifCond .ne 5, 3) := by decide +kernel
theorem zd_X_attacks_8 : decode zo_X_attacks 8 = .ok (.iconst 0, 1) := by decide +kernel
theorem zd_X_attacks_9 : decode zo_X_attacks 9 = .ok (.ireturn, 1) := by decide +kernel
theorem zd_X_attacks_10 : decode zo_X_attacks 10 = .ok (.aload_n 0, 1) := by decide +kernel
theorem zd_X_attacks_11 : decode zo_X_attacks 11 = .ok (.getfield 21, 3) := by decide +kernel
theorem zd_X_attacks_14 : decode zo_X_attacks 14 = .ok (.invokevirtual 119, 3) := by decide +kernel
theorem zd_X_attacks_17 : decode zo_X_attacks 17 = .ok (.aload_n 0, 1) := by decide +kernel
theorem zd_X_attacks_18 : decode zo_X_attacks 18 = .ok (.getfield 37, 3) := by decide +kernel
theorem zd_X_attacks_21 : decode zo_X_attacks 21 = .ok (.iload_n 1, 1) := by decide +kernel
theorem zd_X_attacks_22 : decode zo_X_attacks 22 = .ok (.iload_n 2, 1) := by decide +kernel
theorem zd_X_attacks_23 : decode zo_X_attacks 23 = .ok (.invokevirtual 122, 3) := by decide +kernel
theorem zd_X_attacks_26 : decode zo_X_attacks 26 = .ok (.ireturn, 1) := by decide +kernel
theorem zd_X_play_0 : decode zo_X_play 0 = .ok (.aload_n 0, 1) := by decide +kernel
theorem zd_X_play_1 : decode zo_X_play 1 = .ok (.iload_n 1, 1) := by decide +kernel
theorem zd_X_play_2 : decode zo_X_play 2 = .ok (.iload_n 2, 1) := by decide +kernel
theorem zd_X_play_3 : decode zo_X_play 3 = .ok (.invokevirtual 125, 3) := by decide +kernel
theorem zd_X_play_6 : decode zo_X_play 6 = .ok (.ireturn, 1) := by decide +kernel
theorem zd_X_playedAttacks_0 : decode zo_X_playedAttacks 0 = .ok (.iload_n 1, 1) := by decide +kernel
theorem zd_X_playedAttacks_1 : decode zo_X_playedAttacks 1 = .ok (.iload_n 2, 1) := by decide +kernel
theorem zd_X_playedAttacks_2 : decode zo_X_playedAttacks 2 = .ok (.invokestatic 73, 3) := by decide +kernel
theorem zd_X_playedAttacks_5 : decode zo_X_playedAttacks 5 = .ok (.ifCond .ne 5, 3) := by decide +kernel
theorem zd_X_playedAttacks_8 : decode zo_X_playedAttacks 8 = .ok (.iconst 0, 1) := by decide +kernel
theorem zd_X_playedAttacks_9 : decode zo_X_playedAttacks 9 = .ok (.ireturn, 1) := by decide +kernel
theorem zd_X_playedAttacks_10 : decode zo_X_playedAttacks 10 = .ok (.aload_n 0, 1) := by decide +kernel
theorem zd_X_playedAttacks_11 : decode zo_X_playedAttacks 11 = .ok (.getfield 21, 3) := by decide +kernel
theorem zd_X_playedAttacks_14 : decode zo_X_playedAttacks 14 = .ok (.invokevirtual 119, 3) := by decide +kernel
theorem zd_X_playedAttacks_17 : decode zo_X_playedAttacks 17 = .ok (.aload_n 0, 1) := by decide +kernel
theorem zd_X_playedAttacks_18 : decode zo_X_playedAttacks 18 = .ok (.getfield 37, 3) := by decide +kernel
theorem zd_X_playedAttacks_21 : decode zo_X_playedAttacks 21 = .ok (.iload_n 1, 1) := by decide +kernel
theorem zd_X_playedAttacks_22 : decode zo_X_playedAttacks 22 = .ok (.iload_n 2, 1) := by decide +kernel
theorem zd_X_playedAttacks_23 : decode zo_X_playedAttacks 23 = .ok (.invokevirtual 134, 3) := by decide +kernel
theorem zd_X_playedAttacks_26 : decode zo_X_playedAttacks 26 = .ok (.ireturn, 1) := by decide +kernel
theorem zd_X_attack_0 : decode zo_X_attack 0 = .ok (.iload_n 3, 1) := by decide +kernel
theorem zd_X_attack_1 : decode zo_X_attack 1 = .ok (.ifCond .lt 24, 3) := by decide +kernel
theorem zd_X_attack_4 : decode zo_X_attack 4 = .ok (.iload_n 3, 1) := by decide +kernel
theorem zd_X_attack_5 : decode zo_X_attack 5 = .ok (.aload_n 0, 1) := by decide +kernel
theorem zd_X_attack_6 : decode zo_X_attack 6 = .ok (.iload_n 1, 1) := by decide +kernel
theorem zd_X_attack_7 : decode zo_X_attack 7 = .ok (.iload_n 2, 1) := by decide +kernel
theorem zd_X_attack_8 : decode zo_X_attack 8 = .ok (.invokevirtual 125, 3) := by decide +kernel
theorem zd_X_attack_11 : decode zo_X_attack 11 = .ok (.if_icmp .ge 14, 3) := by decide +kernel
theorem zd_X_attack_14 : decode zo_X_attack 14 = .ok (.aload_n 0, 1) := by decide +kernel
theorem zd_X_attack_15 : decode zo_X_attack 15 = .ok (.getfield 37, 3) := by decide +kernel
theorem zd_X_attack_18 : decode zo_X_attack 18 = .ok (.iload_n 3, 1) := by decide +kernel
theorem zd_X_attack_19 : decode zo_X_attack 19 = .ok (.invokevirtual 128, 3) := by decide +kernel
theorem zd_X_attack_22 : decode zo_X_attack 22 = .ok (.goto 4, 3) := by decide +kernel
theorem zd_X_attack_25 : decode zo_X_attack 25 = .ok (.iconst (-1), 1) := by decide +kernel
theorem zd_X_attack_26 : decode zo_X_attack 26 = .ok (.ireturn, 1) := by decide +kernel
theorem zd_X_answer_0 : decode zo_X_answer 0 = .ok (.iload_n 3, 1) := by decide +kernel
theorem zd_X_answer_1 : decode zo_X_answer 1 = .ok (.ifCond .lt 24, 3) := by decide +kernel
theorem zd_X_answer_4 : decode zo_X_answer 4 = .ok (.iload_n 3, 1) := by decide +kernel
theorem zd_X_answer_5 : decode zo_X_answer 5 = .ok (.aload_n 0, 1) := by decide +kernel
theorem zd_X_answer_6 : decode zo_X_answer 6 = .ok (.iload_n 1, 1) := by decide +kernel
theorem zd_X_answer_7 : decode zo_X_answer 7 = .ok (.iload_n 2, 1) := by decide +kernel
theorem zd_X_answer_8 : decode zo_X_answer 8 = .ok (.invokevirtual 125, 3) := by decide +kernel
theorem zd_X_answer_11 : decode zo_X_answer 11 = .ok (.if_icmp .ge 14, 3) := by decide +kernel
theorem zd_X_answer_14 : decode zo_X_answer 14 = .ok (.aload_n 0, 1) := by decide +kernel
theorem zd_X_answer_15 : decode zo_X_answer 15 = .ok (.getfield 37, 3) := by decide +kernel
theorem zd_X_answer_18 : decode zo_X_answer 18 = .ok (.iload_n 3, 1) := by decide +kernel
theorem zd_X_answer_19 : decode zo_X_answer 19 = .ok (.invokevirtual 131, 3) := by decide +kernel
theorem zd_X_answer_22 : decode zo_X_answer 22 = .ok (.goto 4, 3) := by decide +kernel
theorem zd_X_answer_25 : decode zo_X_answer 25 = .ok (.iconst (-1), 1) := by decide +kernel
theorem zd_X_answer_26 : decode zo_X_answer 26 = .ok (.ireturn, 1) := by decide +kernel
