theorem zd_L_settle_0 : decode zo_L_settle 0 = .ok (.aload_n 0, 1) := by decide +kernel
theorem zd_L_settle_1 : decode zo_L_settle 1 = .ok (.getfield 25, 3) := by decide +kernel
theorem zd_L_settle_4 : decode zo_L_settle 4 = .ok (.ifCond .eq 4, 3) := by decide +kernel
theorem zd_L_settle_7 : decode zo_L_settle 7 = .ok (.return_, 1) := by decide +kernel
theorem zd_L_settle_8 : decode zo_L_settle 8 = .ok (.aload_n 0, 1) := by decide +kernel
theorem zd_L_settle_9 : decode zo_L_settle 9 = .ok (.getfield 9, 3) := by decide +kernel
theorem zd_L_settle_12 : decode zo_L_settle 12 = .ok (.aload_n 0, 1) := by decide +kernel
theorem zd_L_settle_13 : decode zo_L_settle 13 = .ok (.getfield 15, 3) := by decide +kernel
theorem zd_L_settle_16 : decode zo_L_settle 16 = .ok (.invokevirtual 29, 3) := by decide +kernel
theorem zd_L_settle_19 : decode zo_L_settle 19 = .ok (.aload_n 0, 1) := by decide +kernel
theorem zd_L_settle_20 : decode zo_L_settle 20 = .ok (.iconst 0, 1) := by decide +kernel
theorem zd_L_settle_21 : decode zo_L_settle 21 = .ok (.putfield 35, 3) := by decide +kernel
theorem zd_L_settle_24 : decode zo_L_settle 24 = .ok (.iconst 1, 1) := by decide +kernel
theorem zd_L_settle_25 : decode zo_L_settle 25 = .ok (.istore_n 1, 1) := by decide +kernel
theorem zd_L_settle_26 : decode zo_L_settle 26 = .ok (.iload_n 1, 1) := by decide +kernel
theorem zd_L_settle_27 : decode zo_L_settle 27 = .ok (.bipush 24, 2) := by decide +kernel
theorem zd_L_settle_29 : decode zo_L_settle 29 = .ok (.if_icmp .ge 22, 3) := by decide +kernel
theorem zd_L_settle_32 : decode zo_L_settle 32 = .ok (.aload_n 0, 1) := by decide +kernel
theorem zd_L_settle_33 : decode zo_L_settle 33 = .ok (.iload_n 1, 1) := by decide +kernel
theorem zd_L_settle_34 : decode zo_L_settle 34 = .ok (.invokevirtual 39, 3) := by decide +kernel
theorem zd_L_settle_37 : decode zo_L_settle 37 = .ok (.ifCond .eq 14, 3) := by decide +kernel
theorem zd_L_settle_40 : decode zo_L_settle 40 = .ok (.aload_n 0, 1) := by decide +kernel
theorem zd_L_settle_41 : decode zo_L_settle 41 = .ok (.iload_n 1, 1) := by decide +kernel
theorem zd_L_settle_42 : decode zo_L_settle 42 = .ok (.putfield 35, 3) := by decide +kernel
theorem zd_L_settle_45 : decode zo_L_settle 45 = .ok (.iinc 1 1, 3) := by decide +kernel
theorem zd_L_settle_48 : decode zo_L_settle 48 = .ok (.goto (-22), 3) := by decide +kernel
theorem zd_L_settle_51 : decode zo_L_settle 51 = .ok (.aload_n 0, 1) := by decide +kernel
theorem zd_L_settle_52 : decode zo_L_settle 52 = .ok (.invokevirtual 43, 3) := by decide +kernel
theorem zd_L_settle_55 : decode zo_L_settle 55 = .ok (.aload_n 0, 1) := by decide +kernel
theorem zd_L_settle_56 : decode zo_L_settle 56 = .ok (.iconst 1, 1) := by decide +kernel
theorem zd_L_settle_57 : decode zo_L_settle 57 = .ok (.putfield 25, 3) := by decide +kernel
theorem zd_L_settle_60 : decode zo_L_settle 60 = .ok (.return_, 1) := by decide +kernel
theorem zd_C_settle_0 : decode zo_C_settle 0 = .ok (.aload_n 0, 1) := by decide +kernel
theorem zd_C_settle_1 : decode zo_C_settle 1 = .ok (.getfield 22, 3) := by decide +kernel
theorem zd_C_settle_4 : decode zo_C_settle 4 = .ok (.ifCond .eq 4, 3) := by decide +kernel
theorem zd_C_settle_7 : decode zo_C_settle 7 = .ok (.return_, 1) := by decide +kernel
theorem zd_C_settle_8 : decode zo_C_settle 8 = .ok (.aload_n 0, 1) := by decide +kernel
theorem zd_C_settle_9 : decode zo_C_settle 9 = .ok (.getfield 9, 3) := by decide +kernel
theorem zd_C_settle_12 : decode zo_C_settle 12 = .ok (.aload_n 0, 1) := by decide +kernel
theorem zd_C_settle_13 : decode zo_C_settle 13 = .ok (.getfield 15, 3) := by decide +kernel
theorem zd_C_settle_16 : decode zo_C_settle 16 = .ok (.invokevirtual 26, 3) := by decide +kernel
theorem zd_C_settle_19 : decode zo_C_settle 19 = .ok (.iconst 1, 1) := by decide +kernel
theorem zd_C_settle_20 : decode zo_C_settle 20 = .ok (.istore_n 1, 1) := by decide +kernel
theorem zd_C_settle_21 : decode zo_C_settle 21 = .ok (.iconst 0, 1) := by decide +kernel
theorem zd_C_settle_22 : decode zo_C_settle 22 = .ok (.istore_n 2, 1) := by decide +kernel
theorem zd_C_settle_23 : decode zo_C_settle 23 = .ok (.iload_n 2, 1) := by decide +kernel
theorem zd_C_settle_24 : decode zo_C_settle 24 = .ok (.sipush 576, 3) := by decide +kernel
theorem zd_C_settle_27 : decode zo_C_settle 27 = .ok (.if_icmp .ge 18, 3) := by decide +kernel
theorem zd_C_settle_30 : decode zo_C_settle 30 = .ok (.iload_n 1, 1) := by decide +kernel
theorem zd_C_settle_31 : decode zo_C_settle 31 = .ok (.ifCond .eq 14, 3) := by decide +kernel
theorem zd_C_settle_34 : decode zo_C_settle 34 = .ok (.aload_n 0, 1) := by decide +kernel
theorem zd_C_settle_35 : decode zo_C_settle 35 = .ok (.invokevirtual 32, 3) := by decide +kernel
theorem zd_C_settle_38 : decode zo_C_settle 38 = .ok (.istore_n 1, 1) := by decide +kernel
theorem zd_C_settle_39 : decode zo_C_settle 39 = .ok (.iinc 2 1, 3) := by decide +kernel
theorem zd_C_settle_42 : decode zo_C_settle 42 = .ok (.goto (-19), 3) := by decide +kernel
theorem zd_C_settle_45 : decode zo_C_settle 45 = .ok (.aload_n 0, 1) := by decide +kernel
theorem zd_C_settle_46 : decode zo_C_settle 46 = .ok (.iconst 1, 1) := by decide +kernel
theorem zd_C_settle_47 : decode zo_C_settle 47 = .ok (.putfield 22, 3) := by decide +kernel
theorem zd_C_settle_50 : decode zo_C_settle 50 = .ok (.return_, 1) := by decide +kernel
