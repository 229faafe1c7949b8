theorem zd_X_init_0 : decode zo_X_init 0 = .ok (.aload_n 0, 1) := by decide +kernel
theorem zd_X_init_1 : decode zo_X_init 1 = .ok (.invokespecial 1, 3) := by decide +kernel
theorem zd_X_init_4 : decode zo_X_init 4 = .ok (.aload_n 0, 1) := by decide +kernel
theorem zd_X_init_5 : decode zo_X_init 5 = .ok (.new 7, 3) := by decide +kernel
theorem zd_X_init_8 : decode zo_X_init 8 = .ok (.dup, 1) := by decide +kernel
theorem zd_X_init_9 : decode zo_X_init 9 = .ok (.invokespecial 9, 3) := by decide +kernel
theorem zd_X_init_12 : decode zo_X_init 12 = .ok (.putfield 10, 3) := by decide +kernel
theorem zd_X_init_15 : decode zo_X_init 15 = .ok (.aload_n 0, 1) := by decide +kernel
theorem zd_X_init_16 : decode zo_X_init 16 = .ok (.new 16, 3) := by decide +kernel
theorem zd_X_init_19 : decode zo_X_init 19 = .ok (.dup, 1) := by decide +kernel
theorem zd_X_init_20 : decode zo_X_init 20 = .ok (.aload_n 0, 1) := by decide +kernel
theorem zd_X_init_21 : decode zo_X_init 21 = .ok (.getfield 10, 3) := by decide +kernel
theorem zd_X_init_24 : decode zo_X_init 24 = .ok (.invokespecial 18, 3) := by decide +kernel
theorem zd_X_init_27 : decode zo_X_init 27 = .ok (.putfield 21, 3) := by decide +kernel
theorem zd_X_init_30 : decode zo_X_init 30 = .ok (.aload_n 0, 1) := by decide +kernel
theorem zd_X_init_31 : decode zo_X_init 31 = .ok (.new 25, 3) := by decide +kernel
theorem zd_X_init_34 : decode zo_X_init 34 = .ok (.dup, 1) := by decide +kernel
theorem zd_X_init_35 : decode zo_X_init 35 = .ok (.aload_n 0, 1) := by decide +kernel
theorem zd_X_init_36 : decode zo_X_init 36 = .ok (.getfield 10, 3) := by decide +kernel
theorem zd_X_init_39 : decode zo_X_init 39 = .ok (.invokespecial 27, 3) := by decide +kernel
theorem zd_X_init_42 : decode zo_X_init 42 = .ok (.putfield 28, 3) := by decide +kernel
theorem zd_X_init_45 : decode zo_X_init 45 = .ok (.aload_n 0, 1) := by decide +kernel
theorem zd_X_init_46 : decode zo_X_init 46 = .ok (.new 32, 3) := by decide +kernel
theorem zd_X_init_49 : decode zo_X_init 49 = .ok (.dup, 1) := by decide +kernel
theorem zd_X_init_50 : decode zo_X_init 50 = .ok (.aload_n 0, 1) := by decide +kernel
theorem zd_X_init_51 : decode zo_X_init 51 = .ok (.getfield 10, 3) := by decide +kernel
theorem zd_X_init_54 : decode zo_X_init 54 = .ok (.aload_n 0, 1) := by decide +kernel
theorem zd_X_init_55 : decode zo_X_init 55 = .ok (.getfield 21, 3) := by decide +kernel
theorem zd_X_init_58 : decode zo_X_init 58 = .ok (.invokespecial 34, 3) := by decide +kernel
theorem zd_X_init_61 : decode zo_X_init 61 = .ok (.putfield 37, 3) := by decide +kernel
theorem zd_X_init_64 : decode zo_X_init 64 = .ok (.return_, 1) := by decide +kernel
theorem zd_N_init_0 : decode zo_N_init 0 = .ok (.aload_n 0, 1) := by decide +kernel
theorem zd_N_init_1 : decode zo_N_init 1 = .ok (.invokespecial 3, 3) := by decide +kernel
theorem zd_N_init_4 : decode zo_N_init 4 = .ok (.aload_n 0, 1) := by decide +kernel
theorem zd_N_init_5 : decode zo_N_init 5 = .ok (.bipush 96, 2) := by decide +kernel
theorem zd_N_init_7 : decode zo_N_init 7 = .ok (.newarray .int, 2) := by decide +kernel
theorem zd_N_init_9 : decode zo_N_init 9 = .ok (.putfield 9, 3) := by decide +kernel
theorem zd_N_init_12 : decode zo_N_init 12 = .ok (.aload_n 0, 1) := by decide +kernel
theorem zd_N_init_13 : decode zo_N_init 13 = .ok (.bipush 24, 2) := by decide +kernel
theorem zd_N_init_15 : decode zo_N_init 15 = .ok (.newarray .int, 2) := by decide +kernel
theorem zd_N_init_17 : decode zo_N_init 17 = .ok (.putfield 15, 3) := by decide +kernel
theorem zd_N_init_20 : decode zo_N_init 20 = .ok (.return_, 1) := by decide +kernel
theorem zd_L_init_0 : decode zo_L_init 0 = .ok (.aload_n 0, 1) := by decide +kernel
theorem zd_L_init_1 : decode zo_L_init 1 = .ok (.invokespecial 3, 3) := by decide +kernel
theorem zd_L_init_4 : decode zo_L_init 4 = .ok (.aload_n 0, 1) := by decide +kernel
theorem zd_L_init_5 : decode zo_L_init 5 = .ok (.aload_n 1, 1) := by decide +kernel
theorem zd_L_init_6 : decode zo_L_init 6 = .ok (.putfield 9, 3) := by decide +kernel
theorem zd_L_init_9 : decode zo_L_init 9 = .ok (.aload_n 0, 1) := by decide +kernel
theorem zd_L_init_10 : decode zo_L_init 10 = .ok (.sipush 576, 3) := by decide +kernel
theorem zd_L_init_13 : decode zo_L_init 13 = .ok (.newarray .int, 2) := by decide +kernel
theorem zd_L_init_15 : decode zo_L_init 15 = .ok (.putfield 15, 3) := by decide +kernel
theorem zd_L_init_18 : decode zo_L_init 18 = .ok (.aload_n 0, 1) := by decide +kernel
theorem zd_L_init_19 : decode zo_L_init 19 = .ok (.bipush 96, 2) := by decide +kernel
theorem zd_L_init_21 : decode zo_L_init 21 = .ok (.newarray .int, 2) := by decide +kernel
theorem zd_L_init_23 : decode zo_L_init 23 = .ok (.putfield 19, 3) := by decide +kernel
theorem zd_L_init_26 : decode zo_L_init 26 = .ok (.aload_n 0, 1) := by decide +kernel
theorem zd_L_init_27 : decode zo_L_init 27 = .ok (.bipush 24, 2) := by decide +kernel
theorem zd_L_init_29 : decode zo_L_init 29 = .ok (.newarray .int, 2) := by decide +kernel
theorem zd_L_init_31 : decode zo_L_init 31 = .ok (.putfield 22, 3) := by decide +kernel
theorem zd_L_init_34 : decode zo_L_init 34 = .ok (.return_, 1) := by decide +kernel
theorem zd_C_init_0 : decode zo_C_init 0 = .ok (.aload_n 0, 1) := by decide +kernel
theorem zd_C_init_1 : decode zo_C_init 1 = .ok (.invokespecial 3, 3) := by decide +kernel
theorem zd_C_init_4 : decode zo_C_init 4 = .ok (.aload_n 0, 1) := by decide +kernel
theorem zd_C_init_5 : decode zo_C_init 5 = .ok (.aload_n 1, 1) := by decide +kernel
theorem zd_C_init_6 : decode zo_C_init 6 = .ok (.putfield 9, 3) := by decide +kernel
theorem zd_C_init_9 : decode zo_C_init 9 = .ok (.aload_n 0, 1) := by decide +kernel
theorem zd_C_init_10 : decode zo_C_init 10 = .ok (.bipush 24, 2) := by decide +kernel
theorem zd_C_init_12 : decode zo_C_init 12 = .ok (.newarray .int, 2) := by decide +kernel
theorem zd_C_init_14 : decode zo_C_init 14 = .ok (.putfield 15, 3) := by decide +kernel
theorem zd_C_init_17 : decode zo_C_init 17 = .ok (.aload_n 0, 1) := by decide +kernel
theorem zd_C_init_18 : decode zo_C_init 18 = .ok (.bipush 96, 2) := by decide +kernel
theorem zd_C_init_20 : decode zo_C_init 20 = .ok (.newarray .int, 2) := by decide +kernel
theorem zd_C_init_22 : decode zo_C_init 22 = .ok (.putfield 19, 3) := by decide +kernel
theorem zd_C_init_25 : decode zo_C_init 25 = .ok (.return_, 1) := by decide +kernel
theorem zd_G_init_0 : decode zo_G_init 0 = .ok (.aload_n 0, 1) := by decide +kernel
theorem zd_G_init_1 : decode zo_G_init 1 = .ok (.invokespecial 3, 3) := by decide +kernel
theorem zd_G_init_4 : decode zo_G_init 4 = .ok (.aload_n 0, 1) := by decide +kernel
theorem zd_G_init_5 : decode zo_G_init 5 = .ok (.aload_n 1, 1) := by decide +kernel
theorem zd_G_init_6 : decode zo_G_init 6 = .ok (.putfield 9, 3) := by decide +kernel
theorem zd_G_init_9 : decode zo_G_init 9 = .ok (.aload_n 0, 1) := by decide +kernel
theorem zd_G_init_10 : decode zo_G_init 10 = .ok (.aload_n 2, 1) := by decide +kernel
theorem zd_G_init_11 : decode zo_G_init 11 = .ok (.putfield 15, 3) := by decide +kernel
theorem zd_G_init_14 : decode zo_G_init 14 = .ok (.aload_n 0, 1) := by decide +kernel
theorem zd_G_init_15 : decode zo_G_init 15 = .ok (.iconst 2, 1) := by decide +kernel
theorem zd_G_init_16 : decode zo_G_init 16 = .ok (.newarray .int, 2) := by decide +kernel
theorem zd_G_init_18 : decode zo_G_init 18 = .ok (.putfield 19, 3) := by decide +kernel
theorem zd_G_init_21 : decode zo_G_init 21 = .ok (.aload_n 0, 1) := by decide +kernel
theorem zd_G_init_22 : decode zo_G_init 22 = .ok (.bipush 24, 2) := by decide +kernel
theorem zd_G_init_24 : decode zo_G_init 24 = .ok (.newarray .int, 2) := by decide +kernel
theorem zd_G_init_26 : decode zo_G_init 26 = .ok (.putfield 23, 3) := by decide +kernel
theorem zd_G_init_29 : decode zo_G_init 29 = .ok (.aload_n 0, 1) := by decide +kernel
theorem zd_G_init_30 : decode zo_G_init 30 = .ok (.bipush 24, 2) := by decide +kernel
theorem zd_G_init_32 : decode zo_G_init 32 = .ok (.newarray .int, 2) := by decide +kernel
theorem zd_G_init_34 : decode zo_G_init 34 = .ok (.putfield 26, 3) := by decide +kernel
theorem zd_G_init_37 : decode zo_G_init 37 = .ok (.return_, 1) := by decide +kernel
