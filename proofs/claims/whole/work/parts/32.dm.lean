theorem zd_M_alike_0 : decode zo_M_alike 0 = .ok (.aload_n 0, 1) := by decide +kernel
theorem zd_M_alike_1 : decode zo_M_alike 1 = .ok (.invokevirtual 79, 3) := by decide +kernel
theorem zd_M_alike_4 : decode zo_M_alike 4 = .ok (.iload_n 1, 1) := by decide +kernel
theorem zd_M_alike_5 : decode zo_M_alike 5 = .ok (.invokestatic 35, 3) := by decide +kernel
theorem zd_M_alike_8 : decode zo_M_alike 8 = .ok (.ifCond .eq 23, 3) := by decide +kernel
theorem zd_M_alike_11 : decode zo_M_alike 11 = .ok (.iload_n 2, 1) := by decide +kernel
theorem zd_M_alike_12 : decode zo_M_alike 12 = .ok (.invokestatic 35, 3) := by decide +kernel
theorem zd_M_alike_15 : decode zo_M_alike 15 = .ok (.ifCond .eq 16, 3) := by decide +kernel
theorem zd_M_alike_18 : decode zo_M_alike 18 = .ok (.aload_n 0, 1) := by decide +kernel
theorem zd_M_alike_19 : decode zo_M_alike 19 = .ok (.iload_n 1, 1) := by decide +kernel
theorem zd_M_alike_20 : decode zo_M_alike 20 = .ok (.iload_n 2, 1) := by decide +kernel
theorem zd_M_alike_21 : decode zo_M_alike 21 = .ok (.invokevirtual 67, 3) := by decide +kernel
theorem zd_M_alike_24 : decode zo_M_alike 24 = .ok (.ifCond .eq 7, 3) := by decide +kernel
theorem zd_M_alike_27 : decode zo_M_alike 27 = .ok (.iconst 1, 1) := by decide +kernel
theorem zd_M_alike_28 : decode zo_M_alike 28 = .ok (.goto 4, 3) := by decide +kernel
theorem zd_M_alike_31 : decode zo_M_alike 31 = .ok (.iconst 0, 1) := by decide +kernel
theorem zd_M_alike_32 : decode zo_M_alike 32 = .ok (.ireturn, 1) := by decide +kernel
theorem zd_M_breach_0 : decode zo_M_breach 0 = .ok (.aload_n 0, 1) := by decide +kernel
theorem zd_M_breach_1 : decode zo_M_breach 1 = .ok (.invokevirtual 79, 3) := by decide +kernel
theorem zd_M_breach_4 : decode zo_M_breach 4 = .ok (.iload_n 1, 1) := by decide +kernel
theorem zd_M_breach_5 : decode zo_M_breach 5 = .ok (.invokestatic 35, 3) := by decide +kernel
theorem zd_M_breach_8 : decode zo_M_breach 8 = .ok (.ifCond .eq 19, 3) := by decide +kernel
theorem zd_M_breach_11 : decode zo_M_breach 11 = .ok (.iload_n 2, 1) := by decide +kernel
theorem zd_M_breach_12 : decode zo_M_breach 12 = .ok (.invokestatic 35, 3) := by decide +kernel
theorem zd_M_breach_15 : decode zo_M_breach 15 = .ok (.ifCond .eq 12, 3) := by decide +kernel
theorem zd_M_breach_18 : decode zo_M_breach 18 = .ok (.aload_n 0, 1) := by decide +kernel
theorem zd_M_breach_19 : decode zo_M_breach 19 = .ok (.iload_n 1, 1) := by decide +kernel
theorem zd_M_breach_20 : decode zo_M_breach 20 = .ok (.iload_n 2, 1) := by decide +kernel
theorem zd_M_breach_21 : decode zo_M_breach 21 = .ok (.invokevirtual 67, 3) := by decide +kernel
theorem zd_M_breach_24 : decode zo_M_breach 24 = .ok (.ifCond .eq 7, 3) := by decide +kernel
theorem zd_M_breach_27 : decode zo_M_breach 27 = .ok (.iconst (-1), 1) := by decide +kernel
theorem zd_M_breach_28 : decode zo_M_breach 28 = .ok (.goto 14, 3) := by decide +kernel
theorem zd_M_breach_31 : decode zo_M_breach 31 = .ok (.aload_n 0, 1) := by decide +kernel
theorem zd_M_breach_32 : decode zo_M_breach 32 = .ok (.getfield 17, 3) := by decide +kernel
theorem zd_M_breach_35 : decode zo_M_breach 35 = .ok (.bipush 24, 2) := by decide +kernel
theorem zd_M_breach_37 : decode zo_M_breach 37 = .ok (.iload_n 1, 1) := by decide +kernel
theorem zd_M_breach_38 : decode zo_M_breach 38 = .ok (.imul, 1) := by decide +kernel
theorem zd_M_breach_39 : decode zo_M_breach 39 = .ok (.iload_n 2, 1) := by decide +kernel
theorem zd_M_breach_40 : decode zo_M_breach 40 = .ok (.iadd, 1) := by decide +kernel
theorem zd_M_breach_41 : decode zo_M_breach 41 = .ok (.iaload, 1) := by decide +kernel
theorem zd_M_breach_42 : decode zo_M_breach 42 = .ok (.ireturn, 1) := by decide +kernel
theorem zd_M_kinds_0 : decode zo_M_kinds 0 = .ok (.aload_n 0, 1) := by decide +kernel
theorem zd_M_kinds_1 : decode zo_M_kinds 1 = .ok (.invokevirtual 79, 3) := by decide +kernel
theorem zd_M_kinds_4 : decode zo_M_kinds 4 = .ok (.aload_n 0, 1) := by decide +kernel
theorem zd_M_kinds_5 : decode zo_M_kinds 5 = .ok (.getfield 64, 3) := by decide +kernel
theorem zd_M_kinds_8 : decode zo_M_kinds 8 = .ok (.ireturn, 1) := by decide +kernel
theorem zd_M_kind_0 : decode zo_M_kind 0 = .ok (.aload_n 0, 1) := by decide +kernel
theorem zd_M_kind_1 : decode zo_M_kind 1 = .ok (.invokevirtual 79, 3) := by decide +kernel
theorem zd_M_kind_4 : decode zo_M_kind 4 = .ok (.iload_n 1, 1) := by decide +kernel
theorem zd_M_kind_5 : decode zo_M_kind 5 = .ok (.invokestatic 35, 3) := by decide +kernel
theorem zd_M_kind_8 : decode zo_M_kind 8 = .ok (.ifCond .eq 12, 3) := by decide +kernel
theorem zd_M_kind_11 : decode zo_M_kind 11 = .ok (.aload_n 0, 1) := by decide +kernel
theorem zd_M_kind_12 : decode zo_M_kind 12 = .ok (.getfield 26, 3) := by decide +kernel
theorem zd_M_kind_15 : decode zo_M_kind 15 = .ok (.iload_n 1, 1) := by decide +kernel
theorem zd_M_kind_16 : decode zo_M_kind 16 = .ok (.iaload, 1) := by decide +kernel
theorem zd_M_kind_17 : decode zo_M_kind 17 = .ok (.goto 4, 3) := by decide +kernel
theorem zd_M_kind_20 : decode zo_M_kind 20 = .ok (.iconst (-1), 1) := by decide +kernel
theorem zd_M_kind_21 : decode zo_M_kind 21 = .ok (.ireturn, 1) := by decide +kernel
theorem zd_M_size_0 : decode zo_M_size 0 = .ok (.aload_n 0, 1) := by decide +kernel
theorem zd_M_size_1 : decode zo_M_size 1 = .ok (.invokevirtual 79, 3) := by decide +kernel
theorem zd_M_size_4 : decode zo_M_size 4 = .ok (.iconst 0, 1) := by decide +kernel
theorem zd_M_size_5 : decode zo_M_size 5 = .ok (.istore_n 2, 1) := by decide +kernel
theorem zd_M_size_6 : decode zo_M_size 6 = .ok (.iconst 0, 1) := by decide +kernel
theorem zd_M_size_7 : decode zo_M_size 7 = .ok (.istore_n 3, 1) := by decide +kernel
theorem zd_M_size_8 : decode zo_M_size 8 = .ok (.iload_n 3, 1) := by decide +kernel
theorem zd_M_size_9 : decode zo_M_size 9 = .ok (.bipush 24, 2) := by decide +kernel
theorem zd_M_size_11 : decode zo_M_size 11 = .ok (.if_icmp .ge 27, 3) := by decide +kernel
theorem zd_M_size_14 : decode zo_M_size 14 = .ok (.aload_n 0, 1) := by decide +kernel
theorem zd_M_size_15 : decode zo_M_size 15 = .ok (.getfield 26, 3) := by decide +kernel
theorem zd_M_size_18 : decode zo_M_size 18 = .ok (.iload_n 3, 1) := by decide +kernel
theorem zd_M_size_19 : decode zo_M_size 19 = .ok (.iaload, 1) := by decide +kernel
theorem zd_M_size_20 : decode zo_M_size 20 = .ok (.iload_n 1, 1) := by decide +kernel
theorem zd_M_size_21 : decode zo_M_size 21 = .ok (.if_icmp .ne 9, 3) := by decide +kernel
theorem zd_M_size_24 : decode zo_M_size 24 = .ok (.iload_n 2, 1) := by decide +kernel
theorem zd_M_size_25 : decode zo_M_size 25 = .ok (.iconst 1, 1) := by decide +kernel
theorem zd_M_size_26 : decode zo_M_size 26 = .ok (.iadd, 1) := by decide +kernel
theorem zd_M_size_27 : decode zo_M_size 27 = .ok (.goto 4, 3) := by decide +kernel
theorem zd_M_size_30 : decode zo_M_size 30 = .ok (.iload_n 2, 1) := by decide +kernel
theorem zd_M_size_31 : decode zo_M_size 31 = .ok (.istore_n 2, 1) := by decide +kernel
theorem zd_M_size_32 : decode zo_M_size 32 = .ok (.iinc 3 1, 3) := by decide +kernel
theorem zd_M_size_35 : decode zo_M_size 35 = .ok (.goto (-27), 3) := by decide +kernel
theorem zd_M_size_38 : decode zo_M_size 38 = .ok (.iload_n 2, 1) := by decide +kernel
theorem zd_M_size_39 : decode zo_M_size 39 = .ok (.ireturn, 1) := by decide +kernel
theorem zd_M_reach_0 : decode zo_M_reach 0 = .ok (.aload_n 0, 1) := by decide +kernel
theorem zd_M_reach_1 : decode zo_M_reach 1 = .ok (.invokevirtual 79, 3) := by decide +kernel
theorem zd_M_reach_4 : decode zo_M_reach 4 = .ok (.iload_n 2, 1) := by decide +kernel
theorem zd_M_reach_5 : decode zo_M_reach 5 = .ok (.invokestatic 39, 3) := by decide +kernel
theorem zd_M_reach_8 : decode zo_M_reach 8 = .ok (.ifCond .eq 12, 3) := by decide +kernel
theorem zd_M_reach_11 : decode zo_M_reach 11 = .ok (.aload_n 0, 1) := by decide +kernel
theorem zd_M_reach_12 : decode zo_M_reach 12 = .ok (.iload_n 1, 1) := by decide +kernel
theorem zd_M_reach_13 : decode zo_M_reach 13 = .ok (.iload_n 2, 1) := by decide +kernel
theorem zd_M_reach_14 : decode zo_M_reach 14 = .ok (.invokevirtual 82, 3) := by decide +kernel
theorem zd_M_reach_17 : decode zo_M_reach 17 = .ok (.goto 4, 3) := by decide +kernel
theorem zd_M_reach_20 : decode zo_M_reach 20 = .ok (.iconst 0, 1) := by decide +kernel
theorem zd_M_reach_21 : decode zo_M_reach 21 = .ok (.ireturn, 1) := by decide +kernel
theorem zd_M_covers_0 : decode zo_M_covers 0 = .ok (.aload_n 0, 1) := by decide +kernel
theorem zd_M_covers_1 : decode zo_M_covers 1 = .ok (.invokevirtual 79, 3) := by decide +kernel
theorem zd_M_covers_4 : decode zo_M_covers 4 = .ok (.iload_n 1, 1) := by decide +kernel
theorem zd_M_covers_5 : decode zo_M_covers 5 = .ok (.invokestatic 35, 3) := by decide +kernel
theorem zd_M_covers_8 : decode zo_M_covers 8 = .ok (.ifCond .eq 28, 3) := by decide +kernel
theorem zd_M_covers_11 : decode zo_M_covers 11 = .ok (.iload_n 2, 1) := by decide +kernel
theorem zd_M_covers_12 : decode zo_M_covers 12 = .ok (.invokestatic 35, 3) := by decide +kernel
theorem zd_M_covers_15 : decode zo_M_covers 15 = .ok (.ifCond .eq 21, 3) := by decide +kernel
theorem zd_M_covers_18 : decode zo_M_covers 18 = .ok (.aload_n 0, 1) := by decide +kernel
theorem zd_M_covers_19 : decode zo_M_covers 19 = .ok (.getfield 20, 3) := by decide +kernel
theorem zd_M_covers_22 : decode zo_M_covers 22 = .ok (.bipush 24, 2) := by decide +kernel
theorem zd_M_covers_24 : decode zo_M_covers 24 = .ok (.iload_n 1, 1) := by decide +kernel
theorem zd_M_covers_25 : decode zo_M_covers 25 = .ok (.imul, 1) := by decide +kernel
theorem zd_M_covers_26 : decode zo_M_covers 26 = .ok (.iload_n 2, 1) := by decide +kernel
theorem zd_M_covers_27 : decode zo_M_covers 27 = .ok (.iadd, 1) := by decide +kernel
theorem zd_M_covers_28 : decode zo_M_covers 28 = .ok (.baload, 1) := by decide +kernel
theorem zd_M_covers_29 : decode zo_M_covers 29 = .ok (.ifCond .eq 7, 3) := by decide +kernel
theorem zd_M_covers_32 : decode zo_M_covers 32 = .ok (.iconst 1, 1) := by decide +kernel
theorem zd_M_covers_33 : decode zo_M_covers 33 = .ok (.goto 4, 3) := by decide +kernel
theorem zd_M_covers_36 : decode zo_M_covers 36 = .ok (.iconst 0, 1) := by decide +kernel
theorem zd_M_covers_37 : decode zo_M_covers 37 = .ok (.ireturn, 1) := by decide +kernel
theorem zd_M_below_0 : decode zo_M_below 0 = .ok (.aload_n 0, 1) := by decide +kernel
theorem zd_M_below_1 : decode zo_M_below 1 = .ok (.invokevirtual 79, 3) := by decide +kernel
theorem zd_M_below_4 : decode zo_M_below 4 = .ok (.iload_n 1, 1) := by decide +kernel
theorem zd_M_below_5 : decode zo_M_below 5 = .ok (.invokestatic 35, 3) := by decide +kernel
theorem zd_M_below_8 : decode zo_M_below 8 = .ok (.ifCond .ne 5, 3) := by decide +kernel
theorem zd_M_below_11 : decode zo_M_below 11 = .ok (.iconst (-1), 1) := by decide +kernel
theorem zd_M_below_12 : decode zo_M_below 12 = .ok (.ireturn, 1) := by decide +kernel
theorem zd_M_below_13 : decode zo_M_below 13 = .ok (.iconst 0, 1) := by decide +kernel
theorem zd_M_below_14 : decode zo_M_below 14 = .ok (.istore_n 2, 1) := by decide +kernel
theorem zd_M_below_15 : decode zo_M_below 15 = .ok (.iconst 0, 1) := by decide +kernel
theorem zd_M_below_16 : decode zo_M_below 16 = .ok (.istore_n 3, 1) := by decide +kernel
theorem zd_M_below_17 : decode zo_M_below 17 = .ok (.iload_n 3, 1) := by decide +kernel
theorem zd_M_below_18 : decode zo_M_below 18 = .ok (.bipush 24, 2) := by decide +kernel
theorem zd_M_below_20 : decode zo_M_below 20 = .ok (.if_icmp .ge 31, 3) := by decide +kernel
theorem zd_M_below_23 : decode zo_M_below 23 = .ok (.aload_n 0, 1) := by decide +kernel
theorem zd_M_below_24 : decode zo_M_below 24 = .ok (.getfield 20, 3) := by decide +kernel
theorem zd_M_below_27 : decode zo_M_below 27 = .ok (.bipush 24, 2) := by decide +kernel
theorem zd_M_below_29 : decode zo_M_below 29 = .ok (.iload_n 1, 1) := by decide +kernel
theorem zd_M_below_30 : decode zo_M_below 30 = .ok (.imul, 1) := by decide +kernel
theorem zd_M_below_31 : decode zo_M_below 31 = .ok (.iload_n 3, 1) := by decide +kernel
theorem zd_M_below_32 : decode zo_M_below 32 = .ok (.iadd, 1) := by decide +kernel
theorem zd_M_below_33 : decode zo_M_below 33 = .ok (.baload, 1) := by decide +kernel
theorem zd_M_below_34 : decode zo_M_below 34 = .ok (.ifCond .eq 9, 3) := by decide +kernel
theorem zd_M_below_37 : decode zo_M_below 37 = .ok (.iload_n 2, 1) := by decide +kernel
theorem zd_M_below_38 : decode zo_M_below 38 = .ok (.iconst 1, 1) := by decide +kernel
theorem zd_M_below_39 : decode zo_M_below 39 = .ok (.iadd, 1) := by decide +kernel
theorem zd_M_below_40 : decode zo_M_below 40 = .ok (.goto 4, 3) := by decide +kernel
theorem zd_M_below_43 : decode zo_M_below 43 = .ok (.iload_n 2, 1) := by decide +kernel
theorem zd_M_below_44 : decode zo_M_below 44 = .ok (.istore_n 2, 1) := by decide +kernel
theorem zd_M_below_45 : decode zo_M_below 45 = .ok (.iinc 3 1, 3) := by decide +kernel
theorem zd_M_below_48 : decode zo_M_below 48 = .ok (.goto (-31), 3) := by decide +kernel
theorem zd_M_below_51 : decode zo_M_below 51 = .ok (.iload_n 2, 1) := by decide +kernel
theorem zd_M_below_52 : decode zo_M_below 52 = .ok (.ireturn, 1) := by decide +kernel
