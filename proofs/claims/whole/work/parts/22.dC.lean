theorem zd_C_init_0 : decode zo_C_init 0 = .ok (.aload_n 0, 1) := by decide +kernel
theorem zd_C_init_1 : decode zo_C_init 1 = .ok (.invokespecial 3, 3) := by decide +kernel
theorem zd_C_init_4 : decode zo_C_init 4 = .ok (.aload_n 0, 1) := by decide +kernel
theorem zd_C_init_5 : decode zo_C_init 5 = .ok (.aload_n 1, 1) := by decide +kernel
theorem zd_C_init_6 : decode zo_C_init 6 = .ok (.putfield 9, 3) := by decide +kernel
theorem zd_C_init_9 : decode zo_C_init 9 = .ok (.aload_n 0, 1) := by decide +kernel
theorem zd_C_init_10 : decode zo_C_init 10 = .ok (.bipush 24, 2) := by decide +kernel
theorem zd_C_init_12 : decode zo_C_init 12 = .ok (.newarray .int, 2) := by decide +kernel
theorem zd_C_init_14 : decode zo_C_init 14 = .ok (.putfield 15, 3) := by decide +kernel
theorem zd_C_init_17 : decode zo_C_init 17 = .ok (.aload_n 0, 1) := by decide +kernel
theorem zd_C_init_18 : decode zo_C_init 18 = .ok (.bipush 96, 2) := by decide +kernel
theorem zd_C_init_20 : decode zo_C_init 20 = .ok (.newarray .int, 2) := by decide +kernel
theorem zd_C_init_22 : decode zo_C_init 22 = .ok (.putfield 19, 3) := by decide +kernel
theorem zd_C_init_25 : decode zo_C_init 25 = .ok (.return_, 1) := by decide +kernel
theorem zd_C_forget_0 : decode zo_C_forget 0 = .ok (.aload_n 0, 1) := by decide +kernel
theorem zd_C_forget_1 : decode zo_C_forget 1 = .ok (.iconst 0, 1) := by decide +kernel
theorem zd_C_forget_2 : decode zo_C_forget 2 = .ok (.putfield 22, 3) := by decide +kernel
theorem zd_C_forget_5 : decode zo_C_forget 5 = .ok (.return_, 1) := by decide +kernel
theorem zd_C_settle_0 : decode zo_C_settle 0 = .ok (.aload_n 0, 1) := by decide +kernel
theorem zd_C_settle_1 : decode zo_C_settle 1 = .ok (.getfield 22, 3) := by decide +kernel
theorem zd_C_settle_4 : decode zo_C_settle 4 = .ok (.ifCond .eq 4, 3) := by decide +kernel
theorem zd_C_settle_7 : decode zo_C_settle 7 = .ok (.return_, 1) := by decide +kernel
theorem zd_C_settle_8 : decode zo_C_settle 8 = .ok (.aload_n 0, 1) := by decide +kernel
theorem zd_C_settle_9 : decode zo_C_settle 9 = .ok (.getfield 9, 3) := by decide +kernel
theorem zd_C_settle_12 : decode zo_C_settle 12 = .ok (.aload_n 0, 1) := by decide +kernel
theorem zd_C_settle_13 : decode zo_C_settle 13 = .ok (.getfield 15, 3) := by decide +kernel
theorem zd_C_settle_16 : decode zo_C_settle 16 = .ok (.invokevirtual 26, 3) := by decide +kernel
theorem zd_C_settle_19 : decode zo_C_settle 19 = .ok (.iconst 1, 1) := by decide +kernel
theorem zd_C_settle_20 : decode zo_C_settle 20 = .ok (.istore_n 1, 1) := by decide +kernel
theorem zd_C_settle_21 : decode zo_C_settle 21 = .ok (.iconst 0, 1) := by decide +kernel
theorem zd_C_settle_22 : decode zo_C_settle 22 = .ok (.istore_n 2, 1) := by decide +kernel
theorem zd_C_settle_23 : decode zo_C_settle 23 = .ok (.iload_n 2, 1) := by decide +kernel
theorem zd_C_settle_24 : decode zo_C_settle 24 = .ok (.sipush 576, 3) := by decide +kernel
theorem zd_C_settle_27 : decode zo_C_settle 27 = .ok (.if_icmp .ge 18, 3) := by decide +kernel
theorem zd_C_settle_30 : decode zo_C_settle 30 = .ok (.iload_n 1, 1) := by decide +kernel
theorem zd_C_settle_31 : decode zo_C_settle 31 = .ok (.ifCond .eq 14, 3) := by decide +kernel
theorem zd_C_settle_34 : decode zo_C_settle 34 = .ok (.aload_n 0, 1) := by decide +kernel
theorem zd_C_settle_35 : decode zo_C_settle 35 = .ok (.invokevirtual 32, 3) := by decide +kernel
theorem zd_C_settle_38 : decode zo_C_settle 38 = .ok (.istore_n 1, 1) := by decide +kernel
theorem zd_C_settle_39 : decode zo_C_settle 39 = .ok (.iinc 2 1, 3) := by decide +kernel
theorem zd_C_settle_42 : decode zo_C_settle 42 = .ok (.goto (-19), 3) := by decide +kernel
theorem zd_C_settle_45 : decode zo_C_settle 45 = .ok (.aload_n 0, 1) := by decide +kernel
theorem zd_C_settle_46 : decode zo_C_settle 46 = .ok (.iconst 1, 1) := by decide +kernel
theorem zd_C_settle_47 : decode zo_C_settle 47 = .ok (.putfield 22, 3) := by decide +kernel
theorem zd_C_settle_50 : decode zo_C_settle 50 = .ok (.return_, 1) := by decide +kernel
theorem zd_C_shrinks_0 : decode zo_C_shrinks 0 = .ok (.aload_n 0, 1) := by decide +kernel
theorem zd_C_shrinks_1 : decode zo_C_shrinks 1 = .ok (.getfield 9, 3) := by decide +kernel
theorem zd_C_shrinks_4 : decode zo_C_shrinks 4 = .ok (.aload_n 0, 1) := by decide +kernel
theorem zd_C_shrinks_5 : decode zo_C_shrinks 5 = .ok (.getfield 15, 3) := by decide +kernel
theorem zd_C_shrinks_8 : decode zo_C_shrinks 8 = .ok (.iconst 0, 1) := by decide +kernel
theorem zd_C_shrinks_9 : decode zo_C_shrinks 9 = .ok (.aload_n 0, 1) := by decide +kernel
theorem zd_C_shrinks_10 : decode zo_C_shrinks 10 = .ok (.getfield 19, 3) := by decide +kernel
theorem zd_C_shrinks_13 : decode zo_C_shrinks 13 = .ok (.invokevirtual 36, 3) := by decide +kernel
theorem zd_C_shrinks_16 : decode zo_C_shrinks 16 = .ok (.iconst 0, 1) := by decide +kernel
theorem zd_C_shrinks_17 : decode zo_C_shrinks 17 = .ok (.istore_n 1, 1) := by decide +kernel
theorem zd_C_shrinks_18 : decode zo_C_shrinks 18 = .ok (.iconst 0, 1) := by decide +kernel
theorem zd_C_shrinks_19 : decode zo_C_shrinks 19 = .ok (.istore_n 2, 1) := by decide +kernel
theorem zd_C_shrinks_20 : decode zo_C_shrinks 20 = .ok (.iload_n 2, 1) := by decide +kernel
theorem zd_C_shrinks_21 : decode zo_C_shrinks 21 = .ok (.bipush 24, 2) := by decide +kernel
theorem zd_C_shrinks_23 : decode zo_C_shrinks 23 = .ok (.if_icmp .ge 40, 3) := by decide +kernel
theorem zd_C_shrinks_26 : decode zo_C_shrinks 26 = .ok (.aload_n 0, 1) := by decide +kernel
theorem zd_C_shrinks_27 : decode zo_C_shrinks 27 = .ok (.iload_n 2, 1) := by decide +kernel
theorem zd_C_shrinks_28 : decode zo_C_shrinks 28 = .ok (.invokevirtual 40, 3) := by decide +kernel
theorem zd_C_shrinks_31 : decode zo_C_shrinks 31 = .ok (.istore_n 3, 1) := by decide +kernel
theorem zd_C_shrinks_32 : decode zo_C_shrinks 32 = .ok (.iload_n 1, 1) := by decide +kernel
theorem zd_C_shrinks_33 : decode zo_C_shrinks 33 = .ok (.iload_n 3, 1) := by decide +kernel
theorem zd_C_shrinks_34 : decode zo_C_shrinks 34 = .ok (.aload_n 0, 1) := by decide +kernel
theorem zd_C_shrinks_35 : decode zo_C_shrinks 35 = .ok (.getfield 15, 3) := by decide +kernel
theorem zd_C_shrinks_38 : decode zo_C_shrinks 38 = .ok (.iload_n 2, 1) := by decide +kernel
theorem zd_C_shrinks_39 : decode zo_C_shrinks 39 = .ok (.iaload, 1) := by decide +kernel
theorem zd_C_shrinks_40 : decode zo_C_shrinks 40 = .ok (.if_icmp .eq 7, 3) := by decide +kernel
theorem zd_C_shrinks_43 : decode zo_C_shrinks 43 = .ok (.iconst 1, 1) := by decide +kernel
theorem zd_C_shrinks_44 : decode zo_C_shrinks 44 = .ok (.goto 4, 3) := by decide +kernel
theorem zd_C_shrinks_47 : decode zo_C_shrinks 47 = .ok (.iconst 0, 1) := by decide +kernel
theorem zd_C_shrinks_48 : decode zo_C_shrinks 48 = .ok (.ior, 1) := by decide +kernel
theorem zd_C_shrinks_49 : decode zo_C_shrinks 49 = .ok (.istore_n 1, 1) := by decide +kernel
theorem zd_C_shrinks_50 : decode zo_C_shrinks 50 = .ok (.aload_n 0, 1) := by decide +kernel
theorem zd_C_shrinks_51 : decode zo_C_shrinks 51 = .ok (.getfield 15, 3) := by decide +kernel
theorem zd_C_shrinks_54 : decode zo_C_shrinks 54 = .ok (.iload_n 2, 1) := by decide +kernel
theorem zd_C_shrinks_55 : decode zo_C_shrinks 55 = .ok (.iload_n 3, 1) := by decide +kernel
theorem zd_C_shrinks_56 : decode zo_C_shrinks 56 = .ok (.iastore, 1) := by decide +kernel
theorem zd_C_shrinks_57 : decode zo_C_shrinks 57 = .ok (.iinc 2 1, 3) := by decide +kernel
theorem zd_C_shrinks_60 : decode zo_C_shrinks 60 = .ok (.goto (-40), 3) := by decide +kernel
theorem zd_C_shrinks_63 : decode zo_C_shrinks 63 = .ok (.iload_n 1, 1) := by decide +kernel
theorem zd_C_shrinks_64 : decode zo_C_shrinks 64 = .ok (.ireturn, 1) := by decide +kernel
theorem zd_C_stillBelow_0 : decode zo_C_stillBelow 0 = .ok (.iconst 0, 1) := by decide +kernel
theorem zd_C_stillBelow_1 : decode zo_C_stillBelow 1 = .ok (.istore_n 2, 1) := by decide +kernel
theorem zd_C_stillBelow_2 : decode zo_C_stillBelow 2 = .ok (.iconst 0, 1) := by decide +kernel
theorem zd_C_stillBelow_3 : decode zo_C_stillBelow 3 = .ok (.istore_n 3, 1) := by decide +kernel
theorem zd_C_stillBelow_4 : decode zo_C_stillBelow 4 = .ok (.iload_n 3, 1) := by decide +kernel
theorem zd_C_stillBelow_5 : decode zo_C_stillBelow 5 = .ok (.bipush 24, 2) := by decide +kernel
theorem zd_C_stillBelow_7 : decode zo_C_stillBelow 7 = .ok (.if_icmp .ge 37, 3) := by decide +kernel
theorem zd_C_stillBelow_10 : decode zo_C_stillBelow 10 = .ok (.aload_n 0, 1) := by decide +kernel
theorem zd_C_stillBelow_11 : decode zo_C_stillBelow 11 = .ok (.getfield 15, 3) := by decide +kernel
theorem zd_C_stillBelow_14 : decode zo_C_stillBelow 14 = .ok (.iload_n 1, 1) := by decide +kernel
theorem zd_C_stillBelow_15 : decode zo_C_stillBelow 15 = .ok (.iaload, 1) := by decide +kernel
theorem zd_C_stillBelow_16 : decode zo_C_stillBelow 16 = .ok (.iload_n 3, 1) := by decide +kernel
theorem zd_C_stillBelow_17 : decode zo_C_stillBelow 17 = .ok (.invokestatic 44, 3) := by decide +kernel
theorem zd_C_stillBelow_20 : decode zo_C_stillBelow 20 = .ok (.ifCond .eq 18, 3) := by decide +kernel
theorem zd_C_stillBelow_23 : decode zo_C_stillBelow 23 = .ok (.aload_n 0, 1) := by decide +kernel
theorem zd_C_stillBelow_24 : decode zo_C_stillBelow 24 = .ok (.iload_n 1, 1) := by decide +kernel
theorem zd_C_stillBelow_25 : decode zo_C_stillBelow 25 = .ok (.iload_n 3, 1) := by decide +kernel
theorem zd_C_stillBelow_26 : decode zo_C_stillBelow 26 = .ok (.invokevirtual 48, 3) := by decide +kernel
theorem zd_C_stillBelow_29 : decode zo_C_stillBelow 29 = .ok (.ifCond .eq 9, 3) := by decide +kernel
theorem zd_C_stillBelow_32 : decode zo_C_stillBelow 32 = .ok (.iload_n 2, 1) := by decide +kernel
theorem zd_C_stillBelow_33 : decode zo_C_stillBelow 33 = .ok (.iconst 1, 1) := by decide +kernel
theorem zd_C_stillBelow_34 : decode zo_C_stillBelow 34 = .ok (.iload_n 3, 1) := by decide +kernel
theorem zd_C_stillBelow_35 : decode zo_C_stillBelow 35 = .ok (.ishl, 1) := by decide +kernel
theorem zd_C_stillBelow_36 : decode zo_C_stillBelow 36 = .ok (.ior, 1) := by decide +kernel
theorem zd_C_stillBelow_37 : decode zo_C_stillBelow 37 = .ok (.istore_n 2, 1) := by decide +kernel
theorem zd_C_stillBelow_38 : decode zo_C_stillBelow 38 = .ok (.iinc 3 1, 3) := by decide +kernel
theorem zd_C_stillBelow_41 : decode zo_C_stillBelow 41 = .ok (.goto (-37), 3) := by decide +kernel
theorem zd_C_stillBelow_44 : decode zo_C_stillBelow 44 = .ok (.iload_n 2, 1) := by decide +kernel
theorem zd_C_stillBelow_45 : decode zo_C_stillBelow 45 = .ok (.ireturn, 1) := by decide +kernel
theorem zd_C_canFollow_0 : decode zo_C_canFollow 0 = .ok (.iconst 0, 1) := by decide +kernel
theorem zd_C_canFollow_1 : decode zo_C_canFollow 1 = .ok (.istore_n 3, 1) := by decide +kernel
theorem zd_C_canFollow_2 : decode zo_C_canFollow 2 = .ok (.iload_n 3, 1) := by decide +kernel
theorem zd_C_canFollow_3 : decode zo_C_canFollow 3 = .ok (.iconst 4, 1) := by decide +kernel
theorem zd_C_canFollow_4 : decode zo_C_canFollow 4 = .ok (.if_icmp .ge 36, 3) := by decide +kernel
theorem zd_C_canFollow_7 : decode zo_C_canFollow 7 = .ok (.aload_n 0, 1) := by decide +kernel
theorem zd_C_canFollow_8 : decode zo_C_canFollow 8 = .ok (.getfield 9, 3) := by decide +kernel
theorem zd_C_canFollow_11 : decode zo_C_canFollow 11 = .ok (.iload_n 2, 1) := by decide +kernel
theorem zd_C_canFollow_12 : decode zo_C_canFollow 12 = .ok (.iload_n 3, 1) := by decide +kernel
theorem zd_C_canFollow_13 : decode zo_C_canFollow 13 = .ok (.invokevirtual 51, 3) := by decide +kernel
theorem zd_C_canFollow_16 : decode zo_C_canFollow 16 = .ok (.aload_n 0, 1) := by decide +kernel
theorem zd_C_canFollow_17 : decode zo_C_canFollow 17 = .ok (.getfield 19, 3) := by decide +kernel
theorem zd_C_canFollow_20 : decode zo_C_canFollow 20 = .ok (.iload_n 1, 1) := by decide +kernel
theorem zd_C_canFollow_21 : decode zo_C_canFollow 21 = .ok (.iconst 4, 1) := by decide +kernel
theorem zd_C_canFollow_22 : decode zo_C_canFollow 22 = .ok (.imul, 1) := by decide +kernel
theorem zd_C_canFollow_23 : decode zo_C_canFollow 23 = .ok (.iload_n 3, 1) := by decide +kernel
theorem zd_C_canFollow_24 : decode zo_C_canFollow 24 = .ok (.iadd, 1) := by decide +kernel
theorem zd_C_canFollow_25 : decode zo_C_canFollow 25 = .ok (.iaload, 1) := by decide +kernel
theorem zd_C_canFollow_26 : decode zo_C_canFollow 26 = .ok (.iconst (-1), 1) := by decide +kernel
theorem zd_C_canFollow_27 : decode zo_C_canFollow 27 = .ok (.ixor, 1) := by decide +kernel
theorem zd_C_canFollow_28 : decode zo_C_canFollow 28 = .ok (.iand, 1) := by decide +kernel
theorem zd_C_canFollow_29 : decode zo_C_canFollow 29 = .ok (.ifCond .eq 5, 3) := by decide +kernel
theorem zd_C_canFollow_32 : decode zo_C_canFollow 32 = .ok (.iconst 0, 1) := by decide +kernel
theorem zd_C_canFollow_33 : decode zo_C_canFollow 33 = .ok (.ireturn, 1) := by decide +kernel
theorem zd_C_canFollow_34 : decode zo_C_canFollow 34 = .ok (.iinc 3 1, 3) := by decide +kernel
theorem zd_C_canFollow_37 : decode zo_C_canFollow 37 = .ok (.goto (-35), 3) := by decide +kernel
theorem zd_C_canFollow_40 : decode zo_C_canFollow 40 = .ok (.iconst 1, 1) := by decide +kernel
theorem zd_C_canFollow_41 : decode zo_C_canFollow 41 = .ok (.ireturn, 1) := by decide +kernel
theorem zd_C_belowOf_0 : decode zo_C_belowOf 0 = .ok (.aload_n 0, 1) := by decide +kernel
theorem zd_C_belowOf_1 : decode zo_C_belowOf 1 = .ok (.getfield 15, 3) := by decide +kernel
theorem zd_C_belowOf_4 : decode zo_C_belowOf 4 = .ok (.iload_n 1, 1) := by decide +kernel
theorem zd_C_belowOf_5 : decode zo_C_belowOf 5 = .ok (.iaload, 1) := by decide +kernel
theorem zd_C_belowOf_6 : decode zo_C_belowOf 6 = .ok (.ireturn, 1) := by decide +kernel
