theorem zd_M_move_0 : decode zo_M_move 0 = .ok (.iload_n 1, 1) := by decide +kernel
theorem zd_M_move_1 : decode zo_M_move 1 = .ok (.invokestatic 35, 3) := by decide +kernel
theorem zd_M_move_4 : decode zo_M_move 4 = .ok (.ifCond .eq 36, 3) := by decide +kernel
theorem zd_M_move_7 : decode zo_M_move 7 = .ok (.iload_n 2, 1) := by decide +kernel
theorem zd_M_move_8 : decode zo_M_move 8 = .ok (.invokestatic 39, 3) := by decide +kernel
theorem zd_M_move_11 : decode zo_M_move 11 = .ok (.ifCond .eq 29, 3) := by decide +kernel
theorem zd_M_move_14 : decode zo_M_move 14 = .ok (.iload_n 3, 1) := by decide +kernel
theorem zd_M_move_15 : decode zo_M_move 15 = .ok (.invokestatic 35, 3) := by decide +kernel
theorem zd_M_move_18 : decode zo_M_move 18 = .ok (.ifCond .eq 22, 3) := by decide +kernel
theorem zd_M_move_21 : decode zo_M_move 21 = .ok (.aload_n 0, 1) := by decide +kernel
theorem zd_M_move_22 : decode zo_M_move 22 = .ok (.iload_n 1, 1) := by decide +kernel
theorem zd_M_move_23 : decode zo_M_move 23 = .ok (.iload_n 2, 1) := by decide +kernel
theorem zd_M_move_24 : decode zo_M_move 24 = .ok (.iload_n 3, 1) := by decide +kernel
theorem zd_M_move_25 : decode zo_M_move 25 = .ok (.invokevirtual 42, 3) := by decide +kernel
theorem zd_M_move_28 : decode zo_M_move 28 = .ok (.ifCond .ne 12, 3) := by decide +kernel
theorem zd_M_move_31 : decode zo_M_move 31 = .ok (.aload_n 0, 1) := by decide +kernel
theorem zd_M_move_32 : decode zo_M_move 32 = .ok (.getfield 46, 3) := by decide +kernel
theorem zd_M_move_35 : decode zo_M_move 35 = .ok (.bipush 120, 2) := by decide +kernel
theorem zd_M_move_37 : decode zo_M_move 37 = .ok (.if_icmp .ne 5, 3) := by decide +kernel
theorem zd_M_move_40 : decode zo_M_move 40 = .ok (.iconst 0, 1) := by decide +kernel
theorem zd_M_move_41 : decode zo_M_move 41 = .ok (.ireturn, 1) := by decide +kernel
theorem zd_M_move_42 : decode zo_M_move 42 = .ok (.aload_n 0, 1) := by decide +kernel
theorem zd_M_move_43 : decode zo_M_move 43 = .ok (.getfield 7, 3) := by decide +kernel
theorem zd_M_move_46 : decode zo_M_move 46 = .ok (.bipush 96, 2) := by decide +kernel
theorem zd_M_move_48 : decode zo_M_move 48 = .ok (.iload_n 1, 1) := by decide +kernel
theorem zd_M_move_49 : decode zo_M_move 49 = .ok (.imul, 1) := by decide +kernel
theorem zd_M_move_50 : decode zo_M_move 50 = .ok (.bipush 24, 2) := by decide +kernel
theorem zd_M_move_52 : decode zo_M_move 52 = .ok (.iload_n 2, 1) := by decide +kernel
theorem zd_M_move_53 : decode zo_M_move 53 = .ok (.imul, 1) := by decide +kernel
theorem zd_M_move_54 : decode zo_M_move 54 = .ok (.iadd, 1) := by decide +kernel
theorem zd_M_move_55 : decode zo_M_move 55 = .ok (.iload_n 3, 1) := by decide +kernel
theorem zd_M_move_56 : decode zo_M_move 56 = .ok (.iadd, 1) := by decide +kernel
theorem zd_M_move_57 : decode zo_M_move 57 = .ok (.iconst 1, 1) := by decide +kernel
theorem zd_M_move_58 : decode zo_M_move 58 = .ok (.bastore, 1) := by decide +kernel
theorem zd_M_move_59 : decode zo_M_move 59 = .ok (.aload_n 0, 1) := by decide +kernel
theorem zd_M_move_60 : decode zo_M_move 60 = .ok (.aload_n 0, 1) := by decide +kernel
theorem zd_M_move_61 : decode zo_M_move 61 = .ok (.getfield 46, 3) := by decide +kernel
theorem zd_M_move_64 : decode zo_M_move 64 = .ok (.iconst 1, 1) := by decide +kernel
theorem zd_M_move_65 : decode zo_M_move 65 = .ok (.iadd, 1) := by decide +kernel
theorem zd_M_move_66 : decode zo_M_move 66 = .ok (.putfield 46, 3) := by decide +kernel
theorem zd_M_move_69 : decode zo_M_move 69 = .ok (.aload_n 0, 1) := by decide +kernel
theorem zd_M_move_70 : decode zo_M_move 70 = .ok (.iconst 0, 1) := by decide +kernel
theorem zd_M_move_71 : decode zo_M_move 71 = .ok (.putfield 50, 3) := by decide +kernel
theorem zd_M_move_74 : decode zo_M_move 74 = .ok (.iconst 1, 1) := by decide +kernel
theorem zd_M_move_75 : decode zo_M_move 75 = .ok (.ireturn, 1) := by decide +kernel
theorem zd_M_drop_0 : decode zo_M_drop 0 = .ok (.iload_n 1, 1) := by decide +kernel
theorem zd_M_drop_1 : decode zo_M_drop 1 = .ok (.invokestatic 35, 3) := by decide +kernel
theorem zd_M_drop_4 : decode zo_M_drop 4 = .ok (.ifCond .eq 27, 3) := by decide +kernel
theorem zd_M_drop_7 : decode zo_M_drop 7 = .ok (.iload_n 2, 1) := by decide +kernel
theorem zd_M_drop_8 : decode zo_M_drop 8 = .ok (.invokestatic 39, 3) := by decide +kernel
theorem zd_M_drop_11 : decode zo_M_drop 11 = .ok (.ifCond .eq 20, 3) := by decide +kernel
theorem zd_M_drop_14 : decode zo_M_drop 14 = .ok (.iload_n 3, 1) := by decide +kernel
theorem zd_M_drop_15 : decode zo_M_drop 15 = .ok (.invokestatic 35, 3) := by decide +kernel
theorem zd_M_drop_18 : decode zo_M_drop 18 = .ok (.ifCond .eq 13, 3) := by decide +kernel
theorem zd_M_drop_21 : decode zo_M_drop 21 = .ok (.aload_n 0, 1) := by decide +kernel
theorem zd_M_drop_22 : decode zo_M_drop 22 = .ok (.iload_n 1, 1) := by decide +kernel
theorem zd_M_drop_23 : decode zo_M_drop 23 = .ok (.iload_n 2, 1) := by decide +kernel
theorem zd_M_drop_24 : decode zo_M_drop 24 = .ok (.iload_n 3, 1) := by decide +kernel
theorem zd_M_drop_25 : decode zo_M_drop 25 = .ok (.invokevirtual 42, 3) := by decide +kernel
theorem zd_M_drop_28 : decode zo_M_drop 28 = .ok (.ifCond .ne 5, 3) := by decide +kernel
theorem zd_M_drop_31 : decode zo_M_drop 31 = .ok (.iconst 0, 1) := by decide +kernel
theorem zd_M_drop_32 : decode zo_M_drop 32 = .ok (.ireturn, 1) := by decide +kernel
theorem zd_M_drop_33 : decode zo_M_drop 33 = .ok (.aload_n 0, 1) := by decide +kernel
theorem zd_M_drop_34 : decode zo_M_drop 34 = .ok (.getfield 7, 3) := by decide +kernel
theorem zd_M_drop_37 : decode zo_M_drop 37 = .ok (.bipush 96, 2) := by decide +kernel
theorem zd_M_drop_39 : decode zo_M_drop 39 = .ok (.iload_n 1, 1) := by decide +kernel
theorem zd_M_drop_40 : decode zo_M_drop 40 = .ok (.imul, 1) := by decide +kernel
theorem zd_M_drop_41 : decode zo_M_drop 41 = .ok (.bipush 24, 2) := by decide +kernel
theorem zd_M_drop_43 : decode zo_M_drop 43 = .ok (.iload_n 2, 1) := by decide +kernel
theorem zd_M_drop_44 : decode zo_M_drop 44 = .ok (.imul, 1) := by decide +kernel
theorem zd_M_drop_45 : decode zo_M_drop 45 = .ok (.iadd, 1) := by decide +kernel
theorem zd_M_drop_46 : decode zo_M_drop 46 = .ok (.iload_n 3, 1) := by decide +kernel
theorem zd_M_drop_47 : decode zo_M_drop 47 = .ok (.iadd, 1) := by decide +kernel
theorem zd_M_drop_48 : decode zo_M_drop 48 = .ok (.iconst 0, 1) := by decide +kernel
theorem zd_M_drop_49 : decode zo_M_drop 49 = .ok (.bastore, 1) := by decide +kernel
theorem zd_M_drop_50 : decode zo_M_drop 50 = .ok (.aload_n 0, 1) := by decide +kernel
theorem zd_M_drop_51 : decode zo_M_drop 51 = .ok (.aload_n 0, 1) := by decide +kernel
theorem zd_M_drop_52 : decode zo_M_drop 52 = .ok (.getfield 46, 3) := by decide +kernel
theorem zd_M_drop_55 : decode zo_M_drop 55 = .ok (.iconst 1, 1) := by decide +kernel
theorem zd_M_drop_56 : decode zo_M_drop 56 = .ok (.isub, 1) := by decide +kernel
theorem zd_M_drop_57 : decode zo_M_drop 57 = .ok (.putfield 46, 3) := by decide +kernel
theorem zd_M_drop_60 : decode zo_M_drop 60 = .ok (.aload_n 0, 1) := by decide +kernel
theorem zd_M_drop_61 : decode zo_M_drop 61 = .ok (.iconst 0, 1) := by decide +kernel
theorem zd_M_drop_62 : decode zo_M_drop 62 = .ok (.putfield 50, 3) := by decide +kernel
theorem zd_M_drop_65 : decode zo_M_drop 65 = .ok (.iconst 1, 1) := by decide +kernel
theorem zd_M_drop_66 : decode zo_M_drop 66 = .ok (.ireturn, 1) := by decide +kernel
theorem zd_M_colour_0 : decode zo_M_colour 0 = .ok (.iload_n 1, 1) := by decide +kernel
theorem zd_M_colour_1 : decode zo_M_colour 1 = .ok (.invokestatic 35, 3) := by decide +kernel
theorem zd_M_colour_4 : decode zo_M_colour 4 = .ok (.ifCond .ne 5, 3) := by decide +kernel
theorem zd_M_colour_7 : decode zo_M_colour 7 = .ok (.iconst 0, 1) := by decide +kernel
theorem zd_M_colour_8 : decode zo_M_colour 8 = .ok (.ireturn, 1) := by decide +kernel
theorem zd_M_colour_9 : decode zo_M_colour 9 = .ok (.aload_n 0, 1) := by decide +kernel
theorem zd_M_colour_10 : decode zo_M_colour 10 = .ok (.getfield 13, 3) := by decide +kernel
theorem zd_M_colour_13 : decode zo_M_colour 13 = .ok (.iload_n 1, 1) := by decide +kernel
theorem zd_M_colour_14 : decode zo_M_colour 14 = .ok (.iload_n 2, 1) := by decide +kernel
theorem zd_M_colour_15 : decode zo_M_colour 15 = .ok (.iastore, 1) := by decide +kernel
theorem zd_M_colour_16 : decode zo_M_colour 16 = .ok (.aload_n 0, 1) := by decide +kernel
theorem zd_M_colour_17 : decode zo_M_colour 17 = .ok (.iconst 0, 1) := by decide +kernel
theorem zd_M_colour_18 : decode zo_M_colour 18 = .ok (.putfield 50, 3) := by decide +kernel
theorem zd_M_colour_21 : decode zo_M_colour 21 = .ok (.iconst 1, 1) := by decide +kernel
theorem zd_M_colour_22 : decode zo_M_colour 22 = .ok (.ireturn, 1) := by decide +kernel
theorem zd_M_clear_0 : decode zo_M_clear 0 = .ok (.aload_n 0, 1) := by decide +kernel
theorem zd_M_clear_1 : decode zo_M_clear 1 = .ok (.getfield 46, 3) := by decide +kernel
theorem zd_M_clear_4 : decode zo_M_clear 4 = .ok (.istore_n 1, 1) := by decide +kernel
theorem zd_M_clear_5 : decode zo_M_clear 5 = .ok (.aload_n 0, 1) := by decide +kernel
theorem zd_M_clear_6 : decode zo_M_clear 6 = .ok (.iconst 0, 1) := by decide +kernel
theorem zd_M_clear_7 : decode zo_M_clear 7 = .ok (.putfield 46, 3) := by decide +kernel
theorem zd_M_clear_10 : decode zo_M_clear 10 = .ok (.iconst 0, 1) := by decide +kernel
theorem zd_M_clear_11 : decode zo_M_clear 11 = .ok (.istore_n 2, 1) := by decide +kernel
theorem zd_M_clear_12 : decode zo_M_clear 12 = .ok (.iload_n 2, 1) := by decide +kernel
theorem zd_M_clear_13 : decode zo_M_clear 13 = .ok (.sipush 2304, 3) := by decide +kernel
theorem zd_M_clear_16 : decode zo_M_clear 16 = .ok (.if_icmp .ge 16, 3) := by decide +kernel
theorem zd_M_clear_19 : decode zo_M_clear 19 = .ok (.aload_n 0, 1) := by decide +kernel
theorem zd_M_clear_20 : decode zo_M_clear 20 = .ok (.getfield 7, 3) := by decide +kernel
theorem zd_M_clear_23 : decode zo_M_clear 23 = .ok (.iload_n 2, 1) := by decide +kernel
theorem zd_M_clear_24 : decode zo_M_clear 24 = .ok (.iconst 0, 1) := by decide +kernel
theorem zd_M_clear_25 : decode zo_M_clear 25 = .ok (.bastore, 1) := by decide +kernel
theorem zd_M_clear_26 : decode zo_M_clear 26 = .ok (.iinc 2 1, 3) := by decide +kernel
theorem zd_M_clear_29 : decode zo_M_clear 29 = .ok (.goto (-17), 3) := by decide +kernel
theorem zd_M_clear_32 : decode zo_M_clear 32 = .ok (.iconst 0, 1) := by decide +kernel
theorem zd_M_clear_33 : decode zo_M_clear 33 = .ok (.istore_n 2, 1) := by decide +kernel
theorem zd_M_clear_34 : decode zo_M_clear 34 = .ok (.iload_n 2, 1) := by decide +kernel
theorem zd_M_clear_35 : decode zo_M_clear 35 = .ok (.bipush 24, 2) := by decide +kernel
theorem zd_M_clear_37 : decode zo_M_clear 37 = .ok (.if_icmp .ge 16, 3) := by decide +kernel
theorem zd_M_clear_40 : decode zo_M_clear 40 = .ok (.aload_n 0, 1) := by decide +kernel
theorem zd_M_clear_41 : decode zo_M_clear 41 = .ok (.getfield 13, 3) := by decide +kernel
theorem zd_M_clear_44 : decode zo_M_clear 44 = .ok (.iload_n 2, 1) := by decide +kernel
theorem zd_M_clear_45 : decode zo_M_clear 45 = .ok (.iconst 0, 1) := by decide +kernel
theorem zd_M_clear_46 : decode zo_M_clear 46 = .ok (.iastore, 1) := by decide +kernel
theorem zd_M_clear_47 : decode zo_M_clear 47 = .ok (.iinc 2 1, 3) := by decide +kernel
theorem zd_M_clear_50 : decode zo_M_clear 50 = .ok (.goto (-16), 3) := by decide +kernel
theorem zd_M_clear_53 : decode zo_M_clear 53 = .ok (.aload_n 0, 1) := by decide +kernel
theorem zd_M_clear_54 : decode zo_M_clear 54 = .ok (.iconst 0, 1) := by decide +kernel
theorem zd_M_clear_55 : decode zo_M_clear 55 = .ok (.putfield 50, 3) := by decide +kernel
theorem zd_M_clear_58 : decode zo_M_clear 58 = .ok (.iload_n 1, 1) := by decide +kernel
theorem zd_M_clear_59 : decode zo_M_clear 59 = .ok (.ireturn, 1) := by decide +kernel
