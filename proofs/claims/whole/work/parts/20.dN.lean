theorem zd_N_init_0 : decode zo_N_init 0 = .ok (.aload_n 0, 1) := by decide +kernel
theorem zd_N_init_1 : decode zo_N_init 1 = .ok (.invokespecial 3, 3) := by decide +kernel
theorem zd_N_init_4 : decode zo_N_init 4 = .ok (.aload_n 0, 1) := by decide +kernel
theorem zd_N_init_5 : decode zo_N_init 5 = .ok (.bipush 96, 2) := by decide +kernel
theorem zd_N_init_7 : decode zo_N_init 7 = .ok (.newarray .int, 2) := by decide +kernel
theorem zd_N_init_9 : decode zo_N_init 9 = .ok (.putfield 9, 3) := by decide +kernel
theorem zd_N_init_12 : decode zo_N_init 12 = .ok (.aload_n 0, 1) := by decide +kernel
theorem zd_N_init_13 : decode zo_N_init 13 = .ok (.bipush 24, 2) := by decide +kernel
theorem zd_N_init_15 : decode zo_N_init 15 = .ok (.newarray .int, 2) := by decide +kernel
theorem zd_N_init_17 : decode zo_N_init 17 = .ok (.putfield 15, 3) := by decide +kernel
theorem zd_N_init_20 : decode zo_N_init 20 = .ok (.return_, 1) := by decide +kernel
theorem zd_N_holds_0 : decode zo_N_holds 0 = .ok (.aload_n 0, 1) := by decide +kernel
theorem zd_N_holds_1 : decode zo_N_holds 1 = .ok (.iload_n 1, 1) := by decide +kernel
theorem zd_N_holds_2 : decode zo_N_holds 2 = .ok (.iload_n 2, 1) := by decide +kernel
theorem zd_N_holds_3 : decode zo_N_holds 3 = .ok (.invokevirtual 22, 3) := by decide +kernel
theorem zd_N_holds_6 : decode zo_N_holds 6 = .ok (.iload_n 3, 1) := by decide +kernel
theorem zd_N_holds_7 : decode zo_N_holds 7 = .ok (.invokestatic 26, 3) := by decide +kernel
theorem zd_N_holds_10 : decode zo_N_holds 10 = .ok (.ireturn, 1) := by decide +kernel
theorem zd_N_targetsOf_0 : decode zo_N_targetsOf 0 = .ok (.aload_n 0, 1) := by decide +kernel
theorem zd_N_targetsOf_1 : decode zo_N_targetsOf 1 = .ok (.getfield 9, 3) := by decide +kernel
theorem zd_N_targetsOf_4 : decode zo_N_targetsOf 4 = .ok (.iload_n 1, 1) := by decide +kernel
theorem zd_N_targetsOf_5 : decode zo_N_targetsOf 5 = .ok (.iconst 4, 1) := by decide +kernel
theorem zd_N_targetsOf_6 : decode zo_N_targetsOf 6 = .ok (.imul, 1) := by decide +kernel
theorem zd_N_targetsOf_7 : decode zo_N_targetsOf 7 = .ok (.iload_n 2, 1) := by decide +kernel
theorem zd_N_targetsOf_8 : decode zo_N_targetsOf 8 = .ok (.iadd, 1) := by decide +kernel
theorem zd_N_targetsOf_9 : decode zo_N_targetsOf 9 = .ok (.iaload, 1) := by decide +kernel
theorem zd_N_targetsOf_10 : decode zo_N_targetsOf 10 = .ok (.ireturn, 1) := by decide +kernel
theorem zd_N_count_0 : decode zo_N_count 0 = .ok (.aload_n 0, 1) := by decide +kernel
theorem zd_N_count_1 : decode zo_N_count 1 = .ok (.getfield 18, 3) := by decide +kernel
theorem zd_N_count_4 : decode zo_N_count 4 = .ok (.ireturn, 1) := by decide +kernel
theorem zd_N_put_0 : decode zo_N_put 0 = .ok (.aload_n 0, 1) := by decide +kernel
theorem zd_N_put_1 : decode zo_N_put 1 = .ok (.getfield 9, 3) := by decide +kernel
theorem zd_N_put_4 : decode zo_N_put 4 = .ok (.iload_n 1, 1) := by decide +kernel
theorem zd_N_put_5 : decode zo_N_put 5 = .ok (.iconst 4, 1) := by decide +kernel
theorem zd_N_put_6 : decode zo_N_put 6 = .ok (.imul, 1) := by decide +kernel
theorem zd_N_put_7 : decode zo_N_put 7 = .ok (.iload_n 2, 1) := by decide +kernel
theorem zd_N_put_8 : decode zo_N_put 8 = .ok (.iadd, 1) := by decide +kernel
theorem zd_N_put_9 : decode zo_N_put 9 = .ok (.dup2, 1) := by decide +kernel
theorem zd_N_put_10 : decode zo_N_put 10 = .ok (.iaload, 1) := by decide +kernel
theorem zd_N_put_11 : decode zo_N_put 11 = .ok (.iconst 1, 1) := by decide +kernel
theorem zd_N_put_12 : decode zo_N_put 12 = .ok (.iload_n 3, 1) := by decide +kernel
theorem zd_N_put_13 : decode zo_N_put 13 = .ok (.ishl, 1) := by decide +kernel
theorem zd_N_put_14 : decode zo_N_put 14 = .ok (.ior, 1) := by decide +kernel
theorem zd_N_put_15 : decode zo_N_put 15 = .ok (.iastore, 1) := by decide +kernel
theorem zd_N_put_16 : decode zo_N_put 16 = .ok (.aload_n 0, 1) := by decide +kernel
theorem zd_N_put_17 : decode zo_N_put 17 = .ok (.dup, 1) := by decide +kernel
theorem zd_N_put_18 : decode zo_N_put 18 = .ok (.getfield 18, 3) := by decide +kernel
theorem zd_N_put_21 : decode zo_N_put 21 = .ok (.iconst 1, 1) := by decide +kernel
theorem zd_N_put_22 : decode zo_N_put 22 = .ok (.iadd, 1) := by decide +kernel
theorem zd_N_put_23 : decode zo_N_put 23 = .ok (.putfield 18, 3) := by decide +kernel
theorem zd_N_put_26 : decode zo_N_put 26 = .ok (.return_, 1) := by decide +kernel
theorem zd_N_take_0 : decode zo_N_take 0 = .ok (.aload_n 0, 1) := by decide +kernel
theorem zd_N_take_1 : decode zo_N_take 1 = .ok (.getfield 9, 3) := by decide +kernel
theorem zd_N_take_4 : decode zo_N_take 4 = .ok (.iload_n 1, 1) := by decide +kernel
theorem zd_N_take_5 : decode zo_N_take 5 = .ok (.iconst 4, 1) := by decide +kernel
theorem zd_N_take_6 : decode zo_N_take 6 = .ok (.imul, 1) := by decide +kernel
theorem zd_N_take_7 : decode zo_N_take 7 = .ok (.iload_n 2, 1) := by decide +kernel
theorem zd_N_take_8 : decode zo_N_take 8 = .ok (.iadd, 1) := by decide +kernel
theorem zd_N_take_9 : decode zo_N_take 9 = .ok (.dup2, 1) := by decide +kernel
theorem zd_N_take_10 : decode zo_N_take 10 = .ok (.iaload, 1) := by decide +kernel
theorem zd_N_take_11 : decode zo_N_take 11 = .ok (.iconst 1, 1) := by decide +kernel
theorem zd_N_take_12 : decode zo_N_take 12 = .ok (.iload_n 3, 1) := by decide +kernel
theorem zd_N_take_13 : decode zo_N_take 13 = .ok (.ishl, 1) := by decide +kernel
theorem zd_N_take_14 : decode zo_N_take 14 = .ok (.iconst (-1), 1) := by decide +kernel
theorem zd_N_take_15 : decode zo_N_take 15 = .ok (.ixor, 1) := by decide +kernel
theorem zd_N_take_16 : decode zo_N_take 16 = .ok (.iand, 1) := by decide +kernel
theorem zd_N_take_17 : decode zo_N_take 17 = .ok (.iastore, 1) := by decide +kernel
theorem zd_N_take_18 : decode zo_N_take 18 = .ok (.aload_n 0, 1) := by decide +kernel
theorem zd_N_take_19 : decode zo_N_take 19 = .ok (.dup, 1) := by decide +kernel
theorem zd_N_take_20 : decode zo_N_take 20 = .ok (.getfield 18, 3) := by decide +kernel
theorem zd_N_take_23 : decode zo_N_take 23 = .ok (.iconst 1, 1) := by decide +kernel
theorem zd_N_take_24 : decode zo_N_take 24 = .ok (.isub, 1) := by decide +kernel
theorem zd_N_take_25 : decode zo_N_take 25 = .ok (.putfield 18, 3) := by decide +kernel
theorem zd_N_take_28 : decode zo_N_take 28 = .ok (.return_, 1) := by decide +kernel
theorem zd_N_paint_0 : decode zo_N_paint 0 = .ok (.aload_n 0, 1) := by decide +kernel
theorem zd_N_paint_1 : decode zo_N_paint 1 = .ok (.getfield 15, 3) := by decide +kernel
theorem zd_N_paint_4 : decode zo_N_paint 4 = .ok (.iload_n 1, 1) := by decide +kernel
theorem zd_N_paint_5 : decode zo_N_paint 5 = .ok (.iload_n 2, 1) := by decide +kernel
theorem zd_N_paint_6 : decode zo_N_paint 6 = .ok (.iastore, 1) := by decide +kernel
theorem zd_N_paint_7 : decode zo_N_paint 7 = .ok (.return_, 1) := by decide +kernel
theorem zd_N_wipe_0 : decode zo_N_wipe 0 = .ok (.iconst 0, 1) := by decide +kernel
theorem zd_N_wipe_1 : decode zo_N_wipe 1 = .ok (.istore_n 1, 1) := by decide +kernel
theorem zd_N_wipe_2 : decode zo_N_wipe 2 = .ok (.iload_n 1, 1) := by decide +kernel
theorem zd_N_wipe_3 : decode zo_N_wipe 3 = .ok (.aload_n 0, 1) := by decide +kernel
theorem zd_N_wipe_4 : decode zo_N_wipe 4 = .ok (.getfield 9, 3) := by decide +kernel
theorem zd_N_wipe_7 : decode zo_N_wipe 7 = .ok (.arraylength, 1) := by decide +kernel
theorem zd_N_wipe_8 : decode zo_N_wipe 8 = .ok (.if_icmp .ge 16, 3) := by decide +kernel
theorem zd_N_wipe_11 : decode zo_N_wipe 11 = .ok (.aload_n 0, 1) := by decide +kernel
theorem zd_N_wipe_12 : decode zo_N_wipe 12 = .ok (.getfield 9, 3) := by decide +kernel
theorem zd_N_wipe_15 : decode zo_N_wipe 15 = .ok (.iload_n 1, 1) := by decide +kernel
theorem zd_N_wipe_16 : decode zo_N_wipe 16 = .ok (.iconst 0, 1) := by decide +kernel
theorem zd_N_wipe_17 : decode zo_N_wipe 17 = .ok (.iastore, 1) := by decide +kernel
theorem zd_N_wipe_18 : decode zo_N_wipe 18 = .ok (.iinc 1 1, 3) := by decide +kernel
theorem zd_N_wipe_21 : decode zo_N_wipe 21 = .ok (.goto (-19), 3) := by decide +kernel
theorem zd_N_wipe_24 : decode zo_N_wipe 24 = .ok (.iconst 0, 1) := by decide +kernel
theorem zd_N_wipe_25 : decode zo_N_wipe 25 = .ok (.istore_n 1, 1) := by decide +kernel
theorem zd_N_wipe_26 : decode zo_N_wipe 26 = .ok (.iload_n 1, 1) := by decide +kernel
theorem zd_N_wipe_27 : decode zo_N_wipe 27 = .ok (.bipush 24, 2) := by decide +kernel
theorem zd_N_wipe_29 : decode zo_N_wipe 29 = .ok (.if_icmp .ge 16, 3) := by decide +kernel
theorem zd_N_wipe_32 : decode zo_N_wipe 32 = .ok (.aload_n 0, 1) := by decide +kernel
theorem zd_N_wipe_33 : decode zo_N_wipe 33 = .ok (.getfield 15, 3) := by decide +kernel
theorem zd_N_wipe_36 : decode zo_N_wipe 36 = .ok (.iload_n 1, 1) := by decide +kernel
theorem zd_N_wipe_37 : decode zo_N_wipe 37 = .ok (.iconst 0, 1) := by decide +kernel
theorem zd_N_wipe_38 : decode zo_N_wipe 38 = .ok (.iastore, 1) := by decide +kernel
theorem zd_N_wipe_39 : decode zo_N_wipe 39 = .ok (.iinc 1 1, 3) := by decide +kernel
theorem zd_N_wipe_42 : decode zo_N_wipe 42 = .ok (.goto (-16), 3) := by decide +kernel
theorem zd_N_wipe_45 : decode zo_N_wipe 45 = .ok (.aload_n 0, 1) := by decide +kernel
theorem zd_N_wipe_46 : decode zo_N_wipe 46 = .ok (.iconst 0, 1) := by decide +kernel
theorem zd_N_wipe_47 : decode zo_N_wipe 47 = .ok (.putfield 18, 3) := by decide +kernel
theorem zd_N_wipe_50 : decode zo_N_wipe 50 = .ok (.return_, 1) := by decide +kernel
theorem zd_N_groupByColour_0 : decode zo_N_groupByColour 0 = .ok (.iconst 0, 1) := by decide +kernel
theorem zd_N_groupByColour_1 : decode zo_N_groupByColour 1 = .ok (.istore_n 2, 1) := by decide +kernel
theorem zd_N_groupByColour_2 : decode zo_N_groupByColour 2 = .ok (.iload_n 2, 1) := by decide +kernel
theorem zd_N_groupByColour_3 : decode zo_N_groupByColour 3 = .ok (.bipush 24, 2) := by decide +kernel
theorem zd_N_groupByColour_5 : decode zo_N_groupByColour 5 = .ok (.if_icmp .ge 17, 3) := by decide +kernel
theorem zd_N_groupByColour_8 : decode zo_N_groupByColour 8 = .ok (.aload_n 1, 1) := by decide +kernel
theorem zd_N_groupByColour_9 : decode zo_N_groupByColour 9 = .ok (.iload_n 2, 1) := by decide +kernel
theorem zd_N_groupByColour_10 : decode zo_N_groupByColour 10 = .ok (.aload_n 0, 1) := by decide +kernel
theorem zd_N_groupByColour_11 : decode zo_N_groupByColour 11 = .ok (.iload_n 2, 1) := by decide +kernel
theorem zd_N_groupByColour_12 : decode zo_N_groupByColour 12 = .ok (.invokevirtual 30, 3) := by decide +kernel
theorem zd_N_groupByColour_15 : decode zo_N_groupByColour 15 = .ok (.iastore, 1) := by decide +kernel
theorem zd_N_groupByColour_16 : decode zo_N_groupByColour 16 = .ok (.iinc 2 1, 3) := by decide +kernel
theorem zd_N_groupByColour_19 : decode zo_N_groupByColour 19 = .ok (.goto (-17), 3) := by decide +kernel
theorem zd_N_groupByColour_22 : decode zo_N_groupByColour 22 = .ok (.return_, 1) := by decide +kernel
theorem zd_N_sameColour_0 : decode zo_N_sameColour 0 = .ok (.iconst 0, 1) := by decide +kernel
theorem zd_N_sameColour_1 : decode zo_N_sameColour 1 = .ok (.istore_n 2, 1) := by decide +kernel
theorem zd_N_sameColour_2 : decode zo_N_sameColour 2 = .ok (.iconst 0, 1) := by decide +kernel
theorem zd_N_sameColour_3 : decode zo_N_sameColour 3 = .ok (.istore_n 3, 1) := by decide +kernel
theorem zd_N_sameColour_4 : decode zo_N_sameColour 4 = .ok (.iload_n 3, 1) := by decide +kernel
theorem zd_N_sameColour_5 : decode zo_N_sameColour 5 = .ok (.bipush 24, 2) := by decide +kernel
theorem zd_N_sameColour_7 : decode zo_N_sameColour 7 = .ok (.if_icmp .ge 30, 3) := by decide +kernel
theorem zd_N_sameColour_10 : decode zo_N_sameColour 10 = .ok (.aload_n 0, 1) := by decide +kernel
theorem zd_N_sameColour_11 : decode zo_N_sameColour 11 = .ok (.getfield 15, 3) := by decide +kernel
theorem zd_N_sameColour_14 : decode zo_N_sameColour 14 = .ok (.iload_n 3, 1) := by decide +kernel
theorem zd_N_sameColour_15 : decode zo_N_sameColour 15 = .ok (.iaload, 1) := by decide +kernel
theorem zd_N_sameColour_16 : decode zo_N_sameColour 16 = .ok (.aload_n 0, 1) := by decide +kernel
theorem zd_N_sameColour_17 : decode zo_N_sameColour 17 = .ok (.getfield 15, 3) := by decide +kernel
theorem zd_N_sameColour_20 : decode zo_N_sameColour 20 = .ok (.iload_n 1, 1) := by decide +kernel
theorem zd_N_sameColour_21 : decode zo_N_sameColour 21 = .ok (.iaload, 1) := by decide +kernel
theorem zd_N_sameColour_22 : decode zo_N_sameColour 22 = .ok (.if_icmp .ne 9, 3) := by decide +kernel
theorem zd_N_sameColour_25 : decode zo_N_sameColour 25 = .ok (.iload_n 2, 1) := by decide +kernel
theorem zd_N_sameColour_26 : decode zo_N_sameColour 26 = .ok (.iconst 1, 1) := by decide +kernel
theorem zd_N_sameColour_27 : decode zo_N_sameColour 27 = .ok (.iload_n 3, 1) := by decide +kernel
theorem zd_N_sameColour_28 : decode zo_N_sameColour 28 = .ok (.ishl, 1) := by decide +kernel
theorem zd_N_sameColour_29 : decode zo_N_sameColour 29 = .ok (.ior, 1) := by decide +kernel
theorem zd_N_sameColour_30 : decode zo_N_sameColour 30 = .ok (.istore_n 2, 1) := by decide +kernel
theorem zd_N_sameColour_31 : decode zo_N_sameColour 31 = .ok (.iinc 3 1, 3) := by decide +kernel
theorem zd_N_sameColour_34 : decode zo_N_sameColour 34 = .ok (.goto (-30), 3) := by decide +kernel
theorem zd_N_sameColour_37 : decode zo_N_sameColour 37 = .ok (.iload_n 2, 1) := by decide +kernel
theorem zd_N_sameColour_38 : decode zo_N_sameColour 38 = .ok (.ireturn, 1) := by decide +kernel
theorem zd_N_unite_0 : decode zo_N_unite 0 = .ok (.iconst 0, 1) := by decide +kernel
theorem zd_N_unite_1 : decode zo_N_unite 1 = .ok (.istore 4, 2) := by decide +kernel
theorem zd_N_unite_3 : decode zo_N_unite 3 = .ok (.iload 4, 2) := by decide +kernel
theorem zd_N_unite_5 : decode zo_N_unite 5 = .ok (.aload_n 0, 1) := by decide +kernel
theorem zd_N_unite_6 : decode zo_N_unite 6 = .ok (.getfield 9, 3) := by decide +kernel
theorem zd_N_unite_9 : decode zo_N_unite 9 = .ok (.arraylength, 1) := by decide +kernel
theorem zd_N_unite_10 : decode zo_N_unite 10 = .ok (.if_icmp .ge 39, 3) := by decide +kernel
theorem zd_N_unite_13 : decode zo_N_unite 13 = .ok (.aload_n 3, 1) := by decide +kernel
theorem zd_N_unite_14 : decode zo_N_unite 14 = .ok (.iload 4, 2) := by decide +kernel
theorem zd_N_unite_16 : decode zo_N_unite 16 = .ok (.aload_n 0, 1) := by decide +kernel
theorem zd_N_unite_17 : decode zo_N_unite 17 = .ok (.getfield 9, 3) := by decide +kernel
theorem zd_N_unite_20 : decode zo_N_unite 20 = .ok (.iload 4, 2) := by decide +kernel
theorem zd_N_unite_22 : decode zo_N_unite 22 = .ok (.iaload, 1) := by decide +kernel
theorem zd_N_unite_23 : decode zo_N_unite 23 = .ok (.ifCond .ne 7, 3) := by decide +kernel
theorem zd_N_unite_26 : decode zo_N_unite 26 = .ok (.iconst 0, 1) := by decide +kernel
theorem zd_N_unite_27 : decode zo_N_unite 27 = .ok (.goto 15, 3) := by decide +kernel
theorem zd_N_unite_30 : decode zo_N_unite 30 = .ok (.aload_n 0, 1) := by decide +kernel
theorem zd_N_unite_31 : decode zo_N_unite 31 = .ok (.getfield 9, 3) := by decide +kernel
theorem zd_N_unite_34 : decode zo_N_unite 34 = .ok (.iload 4, 2) := by decide +kernel
theorem zd_N_unite_36 : decode zo_N_unite 36 = .ok (.iaload, 1) := by decide +kernel
theorem zd_N_unite_37 : decode zo_N_unite 37 = .ok (.aload_n 1, 1) := by decide +kernel
theorem zd_N_unite_38 : decode zo_N_unite 38 = .ok (.iload_n 2, 1) := by decide +kernel
theorem zd_N_unite_39 : decode zo_N_unite 39 = .ok (.invokestatic 34, 3) := by decide +kernel
theorem zd_N_unite_42 : decode zo_N_unite 42 = .ok (.iastore, 1) := by decide +kernel
theorem zd_N_unite_43 : decode zo_N_unite 43 = .ok (.iinc 4 1, 3) := by decide +kernel
theorem zd_N_unite_46 : decode zo_N_unite 46 = .ok (.goto (-43), 3) := by decide +kernel
theorem zd_N_unite_49 : decode zo_N_unite 49 = .ok (.return_, 1) := by decide +kernel
theorem zd_N_union_0 : decode zo_N_union 0 = .ok (.iconst 0, 1) := by decide +kernel
theorem zd_N_union_1 : decode zo_N_union 1 = .ok (.istore_n 3, 1) := by decide +kernel
theorem zd_N_union_2 : decode zo_N_union 2 = .ok (.iconst 0, 1) := by decide +kernel
theorem zd_N_union_3 : decode zo_N_union 3 = .ok (.istore 4, 2) := by decide +kernel
theorem zd_N_union_5 : decode zo_N_union 5 = .ok (.iload 4, 2) := by decide +kernel
theorem zd_N_union_7 : decode zo_N_union 7 = .ok (.bipush 24, 2) := by decide +kernel
theorem zd_N_union_9 : decode zo_N_union 9 = .ok (.if_icmp .ge 27, 3) := by decide +kernel
theorem zd_N_union_12 : decode zo_N_union 12 = .ok (.iload_n 0, 1) := by decide +kernel
theorem zd_N_union_13 : decode zo_N_union 13 = .ok (.iload 4, 2) := by decide +kernel
theorem zd_N_union_15 : decode zo_N_union 15 = .ok (.invokestatic 26, 3) := by decide +kernel
theorem zd_N_union_18 : decode zo_N_union 18 = .ok (.ifCond .eq 12, 3) := by decide +kernel
theorem zd_N_union_21 : decode zo_N_union 21 = .ok (.iload_n 3, 1) := by decide +kernel
theorem zd_N_union_22 : decode zo_N_union 22 = .ok (.aload_n 1, 1) := by decide +kernel
theorem zd_N_union_23 : decode zo_N_union 23 = .ok (.iload_n 2, 1) := by decide +kernel
theorem zd_N_union_24 : decode zo_N_union 24 = .ok (.iload 4, 2) := by decide +kernel
theorem zd_N_union_26 : decode zo_N_union 26 = .ok (.iadd, 1) := by decide +kernel
theorem zd_N_union_27 : decode zo_N_union 27 = .ok (.iaload, 1) := by decide +kernel
theorem zd_N_union_28 : decode zo_N_union 28 = .ok (.ior, 1) := by decide +kernel
theorem zd_N_union_29 : decode zo_N_union 29 = .ok (.istore_n 3, 1) := by decide +kernel
theorem zd_N_union_30 : decode zo_N_union 30 = .ok (.iinc 4 1, 3) := by decide +kernel
theorem zd_N_union_33 : decode zo_N_union 33 = .ok (.goto (-28), 3) := by decide +kernel
theorem zd_N_union_36 : decode zo_N_union 36 = .ok (.iload_n 3, 1) := by decide +kernel
theorem zd_N_union_37 : decode zo_N_union 37 = .ok (.ireturn, 1) := by decide +kernel
