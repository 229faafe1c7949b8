theorem zd_G_playThrough_0 : decode zo_G_playThrough 0 = .ok (.aload_n 0, 1) := by decide +kernel
theorem zd_G_playThrough_1 : decode zo_G_playThrough 1 = .ok (.getfield 19, 3) := by decide +kernel
theorem zd_G_playThrough_4 : decode zo_G_playThrough 4 = .ok (.iconst 0, 1) := by decide +kernel
theorem zd_G_playThrough_5 : decode zo_G_playThrough 5 = .ok (.iload_n 1, 1) := by decide +kernel
theorem zd_G_playThrough_6 : decode zo_G_playThrough 6 = .ok (.iastore, 1) := by decide +kernel
theorem zd_G_playThrough_7 : decode zo_G_playThrough 7 = .ok (.aload_n 0, 1) := by decide +kernel
theorem zd_G_playThrough_8 : decode zo_G_playThrough 8 = .ok (.getfield 19, 3) := by decide +kernel
theorem zd_G_playThrough_11 : decode zo_G_playThrough 11 = .ok (.iconst 1, 1) := by decide +kernel
theorem zd_G_playThrough_12 : decode zo_G_playThrough 12 = .ok (.iload_n 2, 1) := by decide +kernel
theorem zd_G_playThrough_13 : decode zo_G_playThrough 13 = .ok (.iastore, 1) := by decide +kernel
theorem zd_G_playThrough_14 : decode zo_G_playThrough 14 = .ok (.aload_n 0, 1) := by decide +kernel
theorem zd_G_playThrough_15 : decode zo_G_playThrough 15 = .ok (.iconst 0, 1) := by decide +kernel
theorem zd_G_playThrough_16 : decode zo_G_playThrough 16 = .ok (.putfield 55, 3) := by decide +kernel
theorem zd_G_playThrough_19 : decode zo_G_playThrough 19 = .ok (.iconst 1, 1) := by decide +kernel
theorem zd_G_playThrough_20 : decode zo_G_playThrough 20 = .ok (.istore_n 3, 1) := by decide +kernel
theorem zd_G_playThrough_21 : decode zo_G_playThrough 21 = .ok (.iconst 0, 1) := by decide +kernel
theorem zd_G_playThrough_22 : decode zo_G_playThrough 22 = .ok (.istore 4, 2) := by decide +kernel
theorem zd_G_playThrough_24 : decode zo_G_playThrough 24 = .ok (.iload 4, 2) := by decide +kernel
theorem zd_G_playThrough_26 : decode zo_G_playThrough 26 = .ok (.aload_n 0, 1) := by decide +kernel
theorem zd_G_playThrough_27 : decode zo_G_playThrough 27 = .ok (.getfield 23, 3) := by decide +kernel
theorem zd_G_playThrough_30 : decode zo_G_playThrough 30 = .ok (.arraylength, 1) := by decide +kernel
theorem zd_G_playThrough_31 : decode zo_G_playThrough 31 = .ok (.if_icmp .ge 18, 3) := by decide +kernel
theorem zd_G_playThrough_34 : decode zo_G_playThrough 34 = .ok (.iload_n 3, 1) := by decide +kernel
theorem zd_G_playThrough_35 : decode zo_G_playThrough 35 = .ok (.ifCond .eq 14, 3) := by decide +kernel
theorem zd_G_playThrough_38 : decode zo_G_playThrough 38 = .ok (.aload_n 0, 1) := by decide +kernel
theorem zd_G_playThrough_39 : decode zo_G_playThrough 39 = .ok (.invokevirtual 59, 3) := by decide +kernel
theorem zd_G_playThrough_42 : decode zo_G_playThrough 42 = .ok (.istore_n 3, 1) := by decide +kernel
theorem zd_G_playThrough_43 : decode zo_G_playThrough 43 = .ok (.iinc 4 1, 3) := by decide +kernel
theorem zd_G_playThrough_46 : decode zo_G_playThrough 46 = .ok (.goto (-22), 3) := by decide +kernel
theorem zd_G_playThrough_49 : decode zo_G_playThrough 49 = .ok (.aload_n 0, 1) := by decide +kernel
theorem zd_G_playThrough_50 : decode zo_G_playThrough 50 = .ok (.getfield 55, 3) := by decide +kernel
theorem zd_G_playThrough_53 : decode zo_G_playThrough 53 = .ok (.ireturn, 1) := by decide +kernel
