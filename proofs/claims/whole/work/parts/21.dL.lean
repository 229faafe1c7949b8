theorem zd_L_init_0 : decode zo_L_init 0 = .ok (.aload_n 0, 1) := by decide +kernel
theorem zd_L_init_1 : decode zo_L_init 1 = .ok (.invokespecial 3, 3) := by decide +kernel
theorem zd_L_init_4 : decode zo_L_init 4 = .ok (.aload_n 0, 1) := by decide +kernel
theorem zd_L_init_5 : decode zo_L_init 5 = .ok (.aload_n 1, 1) := by decide +kernel
theorem zd_L_init_6 : decode zo_L_init 6 = .ok (.putfield 9, 3) := by decide +kernel
theorem zd_L_init_9 : decode zo_L_init 9 = .ok (.aload_n 0, 1) := by decide +kernel
theorem zd_L_init_10 : decode zo_L_init 10 = .ok (.sipush 576, 3) := by decide +kernel
theorem zd_L_init_13 : decode zo_L_init 13 = .ok (.newarray .int, 2) := by decide +kernel
theorem zd_L_init_15 : decode zo_L_init 15 = .ok (.putfield 15, 3) := by decide +kernel
theorem zd_L_init_18 : decode zo_L_init 18 = .ok (.aload_n 0, 1) := by decide +kernel
theorem zd_L_init_19 : decode zo_L_init 19 = .ok (.bipush 96, 2) := by decide +kernel
theorem zd_L_init_21 : decode zo_L_init 21 = .ok (.newarray .int, 2) := by decide +kernel
theorem zd_L_init_23 : decode zo_L_init 23 = .ok (.putfield 19, 3) := by decide +kernel
theorem zd_L_init_26 : decode zo_L_init 26 = .ok (.aload_n 0, 1) := by decide +kernel
theorem zd_L_init_27 : decode zo_L_init 27 = .ok (.bipush 24, 2) := by decide +kernel
theorem zd_L_init_29 : decode zo_L_init 29 = .ok (.newarray .int, 2) := by decide +kernel
theorem zd_L_init_31 : decode zo_L_init 31 = .ok (.putfield 22, 3) := by decide +kernel
theorem zd_L_init_34 : decode zo_L_init 34 = .ok (.return_, 1) := by decide +kernel
theorem zd_L_forget_0 : decode zo_L_forget 0 = .ok (.aload_n 0, 1) := by decide +kernel
theorem zd_L_forget_1 : decode zo_L_forget 1 = .ok (.iconst 0, 1) := by decide +kernel
theorem zd_L_forget_2 : decode zo_L_forget 2 = .ok (.putfield 25, 3) := by decide +kernel
theorem zd_L_forget_5 : decode zo_L_forget 5 = .ok (.return_, 1) := by decide +kernel
theorem zd_L_settle_0 : decode zo_L_settle 0 = .ok (.aload_n 0, 1) := by decide +kernel
theorem zd_L_settle_1 : decode zo_L_settle 1 = .ok (.getfield 25, 3) := by decide +kernel
theorem zd_L_settle_4 : decode zo_L_settle 4 = .ok (.ifCond .eq 4, 3) := by decide +kernel
theorem zd_L_settle_7 : decode zo_L_settle 7 = .ok (.return_, 1) := by decide +kernel
theorem zd_L_settle_8 : decode zo_L_settle 8 = .ok (.aload_n 0, 1) := by decide +kernel
theorem zd_L_settle_9 : decode zo_L_settle 9 = .ok (.getfield 9, 3) := by decide +kernel
theorem zd_L_settle_12 : decode zo_L_settle 12 = .ok (.aload_n 0, 1) := by decide +kernel
theorem zd_L_settle_13 : decode zo_L_settle 13 = .ok (.getfield 15, 3) := by decide +kernel
theorem zd_L_settle_16 : decode zo_L_settle 16 = .ok (.invokevirtual 29, 3) := by decide +kernel
theorem zd_L_settle_19 : decode zo_L_settle 19 = .ok (.aload_n 0, 1) := by decide +kernel
theorem zd_L_settle_20 : decode zo_L_settle 20 = .ok (.iconst 0, 1) := by decide +kernel
theorem zd_L_settle_21 : decode zo_L_settle 21 = .ok (.putfield 35, 3) := by decide +kernel
theorem zd_L_settle_24 : decode zo_L_settle 24 = .ok (.iconst 1, 1) := by decide +kernel
theorem zd_L_settle_25 : decode zo_L_settle 25 = .ok (.istore_n 1, 1) := by decide +kernel
theorem zd_L_settle_26 : decode zo_L_settle 26 = .ok (.iload_n 1, 1) := by decide +kernel
theorem zd_L_settle_27 : decode zo_L_settle 27 = .ok (.bipush 24, 2) := by decide +kernel
theorem zd_L_settle_29 : decode zo_L_settle 29 = .ok (.if_icmp .ge 22, 3) := by decide +kernel
theorem zd_L_settle_32 : decode zo_L_settle 32 = .ok (.aload_n 0, 1) := by decide +kernel
theorem zd_L_settle_33 : decode zo_L_settle 33 = .ok (.iload_n 1, 1) := by decide +kernel
theorem zd_L_settle_34 : decode zo_L_settle 34 = .ok (.invokevirtual 39, 3) := by decide +kernel
theorem zd_L_settle_37 : decode zo_L_settle 37 = .ok (.ifCond .eq 14, 3) := by decide +kernel
theorem zd_L_settle_40 : decode zo_L_settle 40 = .ok (.aload_n 0, 1) := by decide +kernel
theorem zd_L_settle_41 : decode zo_L_settle 41 = .ok (.iload_n 1, 1) := by decide +kernel
theorem zd_L_settle_42 : decode zo_L_settle 42 = .ok (.putfield 35, 3) := by decide +kernel
theorem zd_L_settle_45 : decode zo_L_settle 45 = .ok (.iinc 1 1, 3) := by decide +kernel
theorem zd_L_settle_48 : decode zo_L_settle 48 = .ok (.goto (-22), 3) := by decide +kernel
theorem zd_L_settle_51 : decode zo_L_settle 51 = .ok (.aload_n 0, 1) := by decide +kernel
theorem zd_L_settle_52 : decode zo_L_settle 52 = .ok (.invokevirtual 43, 3) := by decide +kernel
theorem zd_L_settle_55 : decode zo_L_settle 55 = .ok (.aload_n 0, 1) := by decide +kernel
theorem zd_L_settle_56 : decode zo_L_settle 56 = .ok (.iconst 1, 1) := by decide +kernel
theorem zd_L_settle_57 : decode zo_L_settle 57 = .ok (.putfield 25, 3) := by decide +kernel
theorem zd_L_settle_60 : decode zo_L_settle 60 = .ok (.return_, 1) := by decide +kernel
theorem zd_L_partsMore_0 : decode zo_L_partsMore 0 = .ok (.iload_n 1, 1) := by decide +kernel
theorem zd_L_partsMore_1 : decode zo_L_partsMore 1 = .ok (.iconst 1, 1) := by decide +kernel
theorem zd_L_partsMore_2 : decode zo_L_partsMore 2 = .ok (.isub, 1) := by decide +kernel
theorem zd_L_partsMore_3 : decode zo_L_partsMore 3 = .ok (.bipush 24, 2) := by decide +kernel
theorem zd_L_partsMore_5 : decode zo_L_partsMore 5 = .ok (.imul, 1) := by decide +kernel
theorem zd_L_partsMore_6 : decode zo_L_partsMore 6 = .ok (.istore_n 2, 1) := by decide +kernel
theorem zd_L_partsMore_7 : decode zo_L_partsMore 7 = .ok (.aload_n 0, 1) := by decide +kernel
theorem zd_L_partsMore_8 : decode zo_L_partsMore 8 = .ok (.getfield 9, 3) := by decide +kernel
theorem zd_L_partsMore_11 : decode zo_L_partsMore 11 = .ok (.aload_n 0, 1) := by decide +kernel
theorem zd_L_partsMore_12 : decode zo_L_partsMore 12 = .ok (.getfield 15, 3) := by decide +kernel
theorem zd_L_partsMore_15 : decode zo_L_partsMore 15 = .ok (.iload_n 2, 1) := by decide +kernel
theorem zd_L_partsMore_16 : decode zo_L_partsMore 16 = .ok (.aload_n 0, 1) := by decide +kernel
theorem zd_L_partsMore_17 : decode zo_L_partsMore 17 = .ok (.getfield 19, 3) := by decide +kernel
theorem zd_L_partsMore_20 : decode zo_L_partsMore 20 = .ok (.invokevirtual 46, 3) := by decide +kernel
theorem zd_L_partsMore_23 : decode zo_L_partsMore 23 = .ok (.iconst 0, 1) := by decide +kernel
theorem zd_L_partsMore_24 : decode zo_L_partsMore 24 = .ok (.istore_n 3, 1) := by decide +kernel
theorem zd_L_partsMore_25 : decode zo_L_partsMore 25 = .ok (.iconst 0, 1) := by decide +kernel
theorem zd_L_partsMore_26 : decode zo_L_partsMore 26 = .ok (.istore 4, 2) := by decide +kernel
theorem zd_L_partsMore_28 : decode zo_L_partsMore 28 = .ok (.iload 4, 2) := by decide +kernel
theorem zd_L_partsMore_30 : decode zo_L_partsMore 30 = .ok (.bipush 24, 2) := by decide +kernel
theorem zd_L_partsMore_32 : decode zo_L_partsMore 32 = .ok (.if_icmp .ge 62, 3) := by decide +kernel
theorem zd_L_partsMore_35 : decode zo_L_partsMore 35 = .ok (.aload_n 0, 1) := by decide +kernel
theorem zd_L_partsMore_36 : decode zo_L_partsMore 36 = .ok (.iload 4, 2) := by decide +kernel
theorem zd_L_partsMore_38 : decode zo_L_partsMore 38 = .ok (.aload_n 0, 1) := by decide +kernel
theorem zd_L_partsMore_39 : decode zo_L_partsMore 39 = .ok (.getfield 15, 3) := by decide +kernel
theorem zd_L_partsMore_42 : decode zo_L_partsMore 42 = .ok (.iload_n 2, 1) := by decide +kernel
theorem zd_L_partsMore_43 : decode zo_L_partsMore 43 = .ok (.iload 4, 2) := by decide +kernel
theorem zd_L_partsMore_45 : decode zo_L_partsMore 45 = .ok (.iadd, 1) := by decide +kernel
theorem zd_L_partsMore_46 : decode zo_L_partsMore 46 = .ok (.iaload, 1) := by decide +kernel
theorem zd_L_partsMore_47 : decode zo_L_partsMore 47 = .ok (.invokevirtual 50, 3) := by decide +kernel
theorem zd_L_partsMore_50 : decode zo_L_partsMore 50 = .ok (.istore 5, 2) := by decide +kernel
theorem zd_L_partsMore_52 : decode zo_L_partsMore 52 = .ok (.aload_n 0, 1) := by decide +kernel
theorem zd_L_partsMore_53 : decode zo_L_partsMore 53 = .ok (.getfield 15, 3) := by decide +kernel
theorem zd_L_partsMore_56 : decode zo_L_partsMore 56 = .ok (.iload_n 1, 1) := by decide +kernel
theorem zd_L_partsMore_57 : decode zo_L_partsMore 57 = .ok (.bipush 24, 2) := by decide +kernel
theorem zd_L_partsMore_59 : decode zo_L_partsMore 59 = .ok (.imul, 1) := by decide +kernel
theorem zd_L_partsMore_60 : decode zo_L_partsMore 60 = .ok (.iload 4, 2) := by decide +kernel
theorem zd_L_partsMore_62 : decode zo_L_partsMore 62 = .ok (.iadd, 1) := by decide +kernel
theorem zd_L_partsMore_63 : decode zo_L_partsMore 63 = .ok (.iload 5, 2) := by decide +kernel
theorem zd_L_partsMore_65 : decode zo_L_partsMore 65 = .ok (.iastore, 1) := by decide +kernel
theorem zd_L_partsMore_66 : decode zo_L_partsMore 66 = .ok (.iload_n 3, 1) := by decide +kernel
theorem zd_L_partsMore_67 : decode zo_L_partsMore 67 = .ok (.iload 5, 2) := by decide +kernel
theorem zd_L_partsMore_69 : decode zo_L_partsMore 69 = .ok (.aload_n 0, 1) := by decide +kernel
theorem zd_L_partsMore_70 : decode zo_L_partsMore 70 = .ok (.getfield 15, 3) := by decide +kernel
theorem zd_L_partsMore_73 : decode zo_L_partsMore 73 = .ok (.iload_n 2, 1) := by decide +kernel
theorem zd_L_partsMore_74 : decode zo_L_partsMore 74 = .ok (.iload 4, 2) := by decide +kernel
theorem zd_L_partsMore_76 : decode zo_L_partsMore 76 = .ok (.iadd, 1) := by decide +kernel
theorem zd_L_partsMore_77 : decode zo_L_partsMore 77 = .ok (.iaload, 1) := by decide +kernel
theorem zd_L_partsMore_78 : decode zo_L_partsMore 78 = .ok (.if_icmp .eq 7, 3) := by decide +kernel
theorem zd_L_partsMore_81 : decode zo_L_partsMore 81 = .ok (.iconst 1, 1) := by decide +kernel
theorem zd_L_partsMore_82 : decode zo_L_partsMore 82 = .ok (.goto 4, 3) := by decide +kernel
theorem zd_L_partsMore_85 : decode zo_L_partsMore 85 = .ok (.iconst 0, 1) := by decide +kernel
theorem zd_L_partsMore_86 : decode zo_L_partsMore 86 = .ok (.ior, 1) := by decide +kernel
theorem zd_L_partsMore_87 : decode zo_L_partsMore 87 = .ok (.istore_n 3, 1) := by decide +kernel
theorem zd_L_partsMore_88 : decode zo_L_partsMore 88 = .ok (.iinc 4 1, 3) := by decide +kernel
theorem zd_L_partsMore_91 : decode zo_L_partsMore 91 = .ok (.goto (-63), 3) := by decide +kernel
theorem zd_L_partsMore_94 : decode zo_L_partsMore 94 = .ok (.iload_n 3, 1) := by decide +kernel
theorem zd_L_partsMore_95 : decode zo_L_partsMore 95 = .ok (.ireturn, 1) := by decide +kernel
theorem zd_L_stillAlike_0 : decode zo_L_stillAlike 0 = .ok (.iconst 0, 1) := by decide +kernel
theorem zd_L_stillAlike_1 : decode zo_L_stillAlike 1 = .ok (.istore_n 3, 1) := by decide +kernel
theorem zd_L_stillAlike_2 : decode zo_L_stillAlike 2 = .ok (.iconst 0, 1) := by decide +kernel
theorem zd_L_stillAlike_3 : decode zo_L_stillAlike 3 = .ok (.istore 4, 2) := by decide +kernel
theorem zd_L_stillAlike_5 : decode zo_L_stillAlike 5 = .ok (.iload 4, 2) := by decide +kernel
theorem zd_L_stillAlike_7 : decode zo_L_stillAlike 7 = .ok (.bipush 24, 2) := by decide +kernel
theorem zd_L_stillAlike_9 : decode zo_L_stillAlike 9 = .ok (.if_icmp .ge 35, 3) := by decide +kernel
theorem zd_L_stillAlike_12 : decode zo_L_stillAlike 12 = .ok (.iload_n 2, 1) := by decide +kernel
theorem zd_L_stillAlike_13 : decode zo_L_stillAlike 13 = .ok (.iload 4, 2) := by decide +kernel
theorem zd_L_stillAlike_15 : decode zo_L_stillAlike 15 = .ok (.invokestatic 54, 3) := by decide +kernel
theorem zd_L_stillAlike_18 : decode zo_L_stillAlike 18 = .ok (.ifCond .eq 20, 3) := by decide +kernel
theorem zd_L_stillAlike_21 : decode zo_L_stillAlike 21 = .ok (.aload_n 0, 1) := by decide +kernel
theorem zd_L_stillAlike_22 : decode zo_L_stillAlike 22 = .ok (.iload_n 1, 1) := by decide +kernel
theorem zd_L_stillAlike_23 : decode zo_L_stillAlike 23 = .ok (.iload 4, 2) := by decide +kernel
theorem zd_L_stillAlike_25 : decode zo_L_stillAlike 25 = .ok (.invokevirtual 58, 3) := by decide +kernel
theorem zd_L_stillAlike_28 : decode zo_L_stillAlike 28 = .ok (.ifCond .eq 10, 3) := by decide +kernel
theorem zd_L_stillAlike_31 : decode zo_L_stillAlike 31 = .ok (.iload_n 3, 1) := by decide +kernel
theorem zd_L_stillAlike_32 : decode zo_L_stillAlike 32 = .ok (.iconst 1, 1) := by decide +kernel
theorem zd_L_stillAlike_33 : decode zo_L_stillAlike 33 = .ok (.iload 4, 2) := by decide +kernel
theorem zd_L_stillAlike_35 : decode zo_L_stillAlike 35 = .ok (.ishl, 1) := by decide +kernel
theorem zd_L_stillAlike_36 : decode zo_L_stillAlike 36 = .ok (.ior, 1) := by decide +kernel
theorem zd_L_stillAlike_37 : decode zo_L_stillAlike 37 = .ok (.istore_n 3, 1) := by decide +kernel
theorem zd_L_stillAlike_38 : decode zo_L_stillAlike 38 = .ok (.iinc 4 1, 3) := by decide +kernel
theorem zd_L_stillAlike_41 : decode zo_L_stillAlike 41 = .ok (.goto (-36), 3) := by decide +kernel
theorem zd_L_stillAlike_44 : decode zo_L_stillAlike 44 = .ok (.iload_n 3, 1) := by decide +kernel
theorem zd_L_stillAlike_45 : decode zo_L_stillAlike 45 = .ok (.ireturn, 1) := by decide +kernel
theorem zd_L_movesAlike_0 : decode zo_L_movesAlike 0 = .ok (.iconst 0, 1) := by decide +kernel
theorem zd_L_movesAlike_1 : decode zo_L_movesAlike 1 = .ok (.istore_n 3, 1) := by decide +kernel
theorem zd_L_movesAlike_2 : decode zo_L_movesAlike 2 = .ok (.iload_n 3, 1) := by decide +kernel
theorem zd_L_movesAlike_3 : decode zo_L_movesAlike 3 = .ok (.iconst 4, 1) := by decide +kernel
theorem zd_L_movesAlike_4 : decode zo_L_movesAlike 4 = .ok (.if_icmp .ge 34, 3) := by decide +kernel
theorem zd_L_movesAlike_7 : decode zo_L_movesAlike 7 = .ok (.aload_n 0, 1) := by decide +kernel
theorem zd_L_movesAlike_8 : decode zo_L_movesAlike 8 = .ok (.getfield 19, 3) := by decide +kernel
theorem zd_L_movesAlike_11 : decode zo_L_movesAlike 11 = .ok (.iload_n 1, 1) := by decide +kernel
theorem zd_L_movesAlike_12 : decode zo_L_movesAlike 12 = .ok (.iconst 4, 1) := by decide +kernel
theorem zd_L_movesAlike_13 : decode zo_L_movesAlike 13 = .ok (.imul, 1) := by decide +kernel
theorem zd_L_movesAlike_14 : decode zo_L_movesAlike 14 = .ok (.iload_n 3, 1) := by decide +kernel
theorem zd_L_movesAlike_15 : decode zo_L_movesAlike 15 = .ok (.iadd, 1) := by decide +kernel
theorem zd_L_movesAlike_16 : decode zo_L_movesAlike 16 = .ok (.iaload, 1) := by decide +kernel
theorem zd_L_movesAlike_17 : decode zo_L_movesAlike 17 = .ok (.aload_n 0, 1) := by decide +kernel
theorem zd_L_movesAlike_18 : decode zo_L_movesAlike 18 = .ok (.getfield 19, 3) := by decide +kernel
theorem zd_L_movesAlike_21 : decode zo_L_movesAlike 21 = .ok (.iload_n 2, 1) := by decide +kernel
theorem zd_L_movesAlike_22 : decode zo_L_movesAlike 22 = .ok (.iconst 4, 1) := by decide +kernel
theorem zd_L_movesAlike_23 : decode zo_L_movesAlike 23 = .ok (.imul, 1) := by decide +kernel
theorem zd_L_movesAlike_24 : decode zo_L_movesAlike 24 = .ok (.iload_n 3, 1) := by decide +kernel
theorem zd_L_movesAlike_25 : decode zo_L_movesAlike 25 = .ok (.iadd, 1) := by decide +kernel
theorem zd_L_movesAlike_26 : decode zo_L_movesAlike 26 = .ok (.iaload, 1) := by decide +kernel
theorem zd_L_movesAlike_27 : decode zo_L_movesAlike 27 = .ok (.if_icmp .eq 5, 3) := by decide +kernel
theorem zd_L_movesAlike_30 : decode zo_L_movesAlike 30 = .ok (.iconst 0, 1) := by decide +kernel
theorem zd_L_movesAlike_31 : decode zo_L_movesAlike 31 = .ok (.ireturn, 1) := by decide +kernel
theorem zd_L_movesAlike_32 : decode zo_L_movesAlike 32 = .ok (.iinc 3 1, 3) := by decide +kernel
theorem zd_L_movesAlike_35 : decode zo_L_movesAlike 35 = .ok (.goto (-33), 3) := by decide +kernel
theorem zd_L_movesAlike_38 : decode zo_L_movesAlike 38 = .ok (.iconst 1, 1) := by decide +kernel
theorem zd_L_movesAlike_39 : decode zo_L_movesAlike 39 = .ok (.ireturn, 1) := by decide +kernel
theorem zd_L_numberKinds_0 : decode zo_L_numberKinds 0 = .ok (.aload_n 0, 1) := by decide +kernel
theorem zd_L_numberKinds_1 : decode zo_L_numberKinds 1 = .ok (.iconst 0, 1) := by decide +kernel
theorem zd_L_numberKinds_2 : decode zo_L_numberKinds 2 = .ok (.putfield 61, 3) := by decide +kernel
theorem zd_L_numberKinds_5 : decode zo_L_numberKinds 5 = .ok (.iconst 0, 1) := by decide +kernel
theorem zd_L_numberKinds_6 : decode zo_L_numberKinds 6 = .ok (.istore_n 1, 1) := by decide +kernel
theorem zd_L_numberKinds_7 : decode zo_L_numberKinds 7 = .ok (.iload_n 1, 1) := by decide +kernel
theorem zd_L_numberKinds_8 : decode zo_L_numberKinds 8 = .ok (.bipush 24, 2) := by decide +kernel
theorem zd_L_numberKinds_10 : decode zo_L_numberKinds 10 = .ok (.if_icmp .ge 55, 3) := by decide +kernel
theorem zd_L_numberKinds_13 : decode zo_L_numberKinds 13 = .ok (.aload_n 0, 1) := by decide +kernel
theorem zd_L_numberKinds_14 : decode zo_L_numberKinds 14 = .ok (.iload_n 1, 1) := by decide +kernel
theorem zd_L_numberKinds_15 : decode zo_L_numberKinds 15 = .ok (.invokevirtual 64, 3) := by decide +kernel
theorem zd_L_numberKinds_18 : decode zo_L_numberKinds 18 = .ok (.istore_n 2, 1) := by decide +kernel
theorem zd_L_numberKinds_19 : decode zo_L_numberKinds 19 = .ok (.iload_n 2, 1) := by decide +kernel
theorem zd_L_numberKinds_20 : decode zo_L_numberKinds 20 = .ok (.iload_n 1, 1) := by decide +kernel
theorem zd_L_numberKinds_21 : decode zo_L_numberKinds 21 = .ok (.if_icmp .ne 26, 3) := by decide +kernel
theorem zd_L_numberKinds_24 : decode zo_L_numberKinds 24 = .ok (.aload_n 0, 1) := by decide +kernel
theorem zd_L_numberKinds_25 : decode zo_L_numberKinds 25 = .ok (.getfield 22, 3) := by decide +kernel
theorem zd_L_numberKinds_28 : decode zo_L_numberKinds 28 = .ok (.iload_n 1, 1) := by decide +kernel
theorem zd_L_numberKinds_29 : decode zo_L_numberKinds 29 = .ok (.aload_n 0, 1) := by decide +kernel
theorem zd_L_numberKinds_30 : decode zo_L_numberKinds 30 = .ok (.getfield 61, 3) := by decide +kernel
theorem zd_L_numberKinds_33 : decode zo_L_numberKinds 33 = .ok (.iastore, 1) := by decide +kernel
theorem zd_L_numberKinds_34 : decode zo_L_numberKinds 34 = .ok (.aload_n 0, 1) := by decide +kernel
theorem zd_L_numberKinds_35 : decode zo_L_numberKinds 35 = .ok (.dup, 1) := by decide +kernel
theorem zd_L_numberKinds_36 : decode zo_L_numberKinds 36 = .ok (.getfield 61, 3) := by decide +kernel
theorem zd_L_numberKinds_39 : decode zo_L_numberKinds 39 = .ok (.iconst 1, 1) := by decide +kernel
theorem zd_L_numberKinds_40 : decode zo_L_numberKinds 40 = .ok (.iadd, 1) := by decide +kernel
theorem zd_L_numberKinds_41 : decode zo_L_numberKinds 41 = .ok (.putfield 61, 3) := by decide +kernel
theorem zd_L_numberKinds_44 : decode zo_L_numberKinds 44 = .ok (.goto 15, 3) := by decide +kernel
theorem zd_L_numberKinds_47 : decode zo_L_numberKinds 47 = .ok (.aload_n 0, 1) := by decide +kernel
theorem zd_L_numberKinds_48 : decode zo_L_numberKinds 48 = .ok (.getfield 22, 3) := by decide +kernel
theorem zd_L_numberKinds_51 : decode zo_L_numberKinds 51 = .ok (.iload_n 1, 1) := by decide +kernel
theorem zd_L_numberKinds_52 : decode zo_L_numberKinds 52 = .ok (.aload_n 0, 1) := by decide +kernel
theorem zd_L_numberKinds_53 : decode zo_L_numberKinds 53 = .ok (.getfield 22, 3) := by decide +kernel
theorem zd_L_numberKinds_56 : decode zo_L_numberKinds 56 = .ok (.iload_n 2, 1) := by decide +kernel
theorem zd_L_numberKinds_57 : decode zo_L_numberKinds 57 = .ok (.iaload, 1) := by decide +kernel
theorem zd_L_numberKinds_58 : decode zo_L_numberKinds 58 = .ok (.iastore, 1) := by decide +kernel
theorem zd_L_numberKinds_59 : decode zo_L_numberKinds 59 = .ok (.iinc 1 1, 3) := by decide +kernel
theorem zd_L_numberKinds_62 : decode zo_L_numberKinds 62 = .ok (.goto (-55), 3) := by decide +kernel
theorem zd_L_numberKinds_65 : decode zo_L_numberKinds 65 = .ok (.return_, 1) := by decide +kernel
theorem zd_L_leastAlike_0 : decode zo_L_leastAlike 0 = .ok (.aload_n 0, 1) := by decide +kernel
theorem zd_L_leastAlike_1 : decode zo_L_leastAlike 1 = .ok (.aload_n 0, 1) := by decide +kernel
theorem zd_L_leastAlike_2 : decode zo_L_leastAlike 2 = .ok (.getfield 35, 3) := by decide +kernel
theorem zd_L_leastAlike_5 : decode zo_L_leastAlike 5 = .ok (.iload_n 1, 1) := by decide +kernel
theorem zd_L_leastAlike_6 : decode zo_L_leastAlike 6 = .ok (.invokevirtual 68, 3) := by decide +kernel
theorem zd_L_leastAlike_9 : decode zo_L_leastAlike 9 = .ok (.istore_n 2, 1) := by decide +kernel
theorem zd_L_leastAlike_10 : decode zo_L_leastAlike 10 = .ok (.iconst 0, 1) := by decide +kernel
theorem zd_L_leastAlike_11 : decode zo_L_leastAlike 11 = .ok (.istore_n 3, 1) := by decide +kernel
theorem zd_L_leastAlike_12 : decode zo_L_leastAlike 12 = .ok (.iload_n 3, 1) := by decide +kernel
theorem zd_L_leastAlike_13 : decode zo_L_leastAlike 13 = .ok (.iload_n 1, 1) := by decide +kernel
theorem zd_L_leastAlike_14 : decode zo_L_leastAlike 14 = .ok (.if_icmp .ge 19, 3) := by decide +kernel
theorem zd_L_leastAlike_17 : decode zo_L_leastAlike 17 = .ok (.iload_n 2, 1) := by decide +kernel
theorem zd_L_leastAlike_18 : decode zo_L_leastAlike 18 = .ok (.iload_n 3, 1) := by decide +kernel
theorem zd_L_leastAlike_19 : decode zo_L_leastAlike 19 = .ok (.invokestatic 54, 3) := by decide +kernel
theorem zd_L_leastAlike_22 : decode zo_L_leastAlike 22 = .ok (.ifCond .eq 5, 3) := by decide +kernel
theorem zd_L_leastAlike_25 : decode zo_L_leastAlike 25 = .ok (.iload_n 3, 1) := by decide +kernel
theorem zd_L_leastAlike_26 : decode zo_L_leastAlike 26 = .ok (.ireturn, 1) := by decide +kernel
theorem zd_L_leastAlike_27 : decode zo_L_leastAlike 27 = .ok (.iinc 3 1, 3) := by decide +kernel
theorem zd_L_leastAlike_30 : decode zo_L_leastAlike 30 = .ok (.goto (-18), 3) := by decide +kernel
theorem zd_L_leastAlike_33 : decode zo_L_leastAlike 33 = .ok (.iload_n 1, 1) := by decide +kernel
theorem zd_L_leastAlike_34 : decode zo_L_leastAlike 34 = .ok (.ireturn, 1) := by decide +kernel
theorem zd_L_alikeFor_0 : decode zo_L_alikeFor 0 = .ok (.aload_n 0, 1) := by decide +kernel
theorem zd_L_alikeFor_1 : decode zo_L_alikeFor 1 = .ok (.getfield 15, 3) := by decide +kernel
theorem zd_L_alikeFor_4 : decode zo_L_alikeFor 4 = .ok (.iload_n 1, 1) := by decide +kernel
theorem zd_L_alikeFor_5 : decode zo_L_alikeFor 5 = .ok (.bipush 24, 2) := by decide +kernel
theorem zd_L_alikeFor_7 : decode zo_L_alikeFor 7 = .ok (.imul, 1) := by decide +kernel
theorem zd_L_alikeFor_8 : decode zo_L_alikeFor 8 = .ok (.iload_n 2, 1) := by decide +kernel
theorem zd_L_alikeFor_9 : decode zo_L_alikeFor 9 = .ok (.iadd, 1) := by decide +kernel
theorem zd_L_alikeFor_10 : decode zo_L_alikeFor 10 = .ok (.iaload, 1) := by decide +kernel
theorem zd_L_alikeFor_11 : decode zo_L_alikeFor 11 = .ok (.ireturn, 1) := by decide +kernel
theorem zd_L_breachOf_0 : decode zo_L_breachOf 0 = .ok (.iconst 0, 1) := by decide +kernel
theorem zd_L_breachOf_1 : decode zo_L_breachOf 1 = .ok (.istore_n 3, 1) := by decide +kernel
theorem zd_L_breachOf_2 : decode zo_L_breachOf 2 = .ok (.iload_n 3, 1) := by decide +kernel
theorem zd_L_breachOf_3 : decode zo_L_breachOf 3 = .ok (.aload_n 0, 1) := by decide +kernel
theorem zd_L_breachOf_4 : decode zo_L_breachOf 4 = .ok (.getfield 35, 3) := by decide +kernel
theorem zd_L_breachOf_7 : decode zo_L_breachOf 7 = .ok (.if_icmp .gt 24, 3) := by decide +kernel
theorem zd_L_breachOf_10 : decode zo_L_breachOf 10 = .ok (.aload_n 0, 1) := by decide +kernel
theorem zd_L_breachOf_11 : decode zo_L_breachOf 11 = .ok (.iload_n 3, 1) := by decide +kernel
theorem zd_L_breachOf_12 : decode zo_L_breachOf 12 = .ok (.iload_n 1, 1) := by decide +kernel
theorem zd_L_breachOf_13 : decode zo_L_breachOf 13 = .ok (.invokevirtual 68, 3) := by decide +kernel
theorem zd_L_breachOf_16 : decode zo_L_breachOf 16 = .ok (.iload_n 2, 1) := by decide +kernel
theorem zd_L_breachOf_17 : decode zo_L_breachOf 17 = .ok (.invokestatic 54, 3) := by decide +kernel
theorem zd_L_breachOf_20 : decode zo_L_breachOf 20 = .ok (.ifCond .ne 5, 3) := by decide +kernel
theorem zd_L_breachOf_23 : decode zo_L_breachOf 23 = .ok (.iload_n 3, 1) := by decide +kernel
theorem zd_L_breachOf_24 : decode zo_L_breachOf 24 = .ok (.ireturn, 1) := by decide +kernel
theorem zd_L_breachOf_25 : decode zo_L_breachOf 25 = .ok (.iinc 3 1, 3) := by decide +kernel
theorem zd_L_breachOf_28 : decode zo_L_breachOf 28 = .ok (.goto (-26), 3) := by decide +kernel
theorem zd_L_breachOf_31 : decode zo_L_breachOf 31 = .ok (.iconst (-1), 1) := by decide +kernel
theorem zd_L_breachOf_32 : decode zo_L_breachOf 32 = .ok (.ireturn, 1) := by decide +kernel
theorem zd_L_kindCount_0 : decode zo_L_kindCount 0 = .ok (.aload_n 0, 1) := by decide +kernel
theorem zd_L_kindCount_1 : decode zo_L_kindCount 1 = .ok (.getfield 61, 3) := by decide +kernel
theorem zd_L_kindCount_4 : decode zo_L_kindCount 4 = .ok (.ireturn, 1) := by decide +kernel
theorem zd_L_kindOf_0 : decode zo_L_kindOf 0 = .ok (.aload_n 0, 1) := by decide +kernel
theorem zd_L_kindOf_1 : decode zo_L_kindOf 1 = .ok (.getfield 22, 3) := by decide +kernel
theorem zd_L_kindOf_4 : decode zo_L_kindOf 4 = .ok (.iload_n 1, 1) := by decide +kernel
theorem zd_L_kindOf_5 : decode zo_L_kindOf 5 = .ok (.iaload, 1) := by decide +kernel
theorem zd_L_kindOf_6 : decode zo_L_kindOf 6 = .ok (.ireturn, 1) := by decide +kernel
theorem zd_L_sizeOf_0 : decode zo_L_sizeOf 0 = .ok (.iconst 0, 1) := by decide +kernel
theorem zd_L_sizeOf_1 : decode zo_L_sizeOf 1 = .ok (.istore_n 2, 1) := by decide +kernel
theorem zd_L_sizeOf_2 : decode zo_L_sizeOf 2 = .ok (.iconst 0, 1) := by decide +kernel
theorem zd_L_sizeOf_3 : decode zo_L_sizeOf 3 = .ok (.istore_n 3, 1) := by decide +kernel
theorem zd_L_sizeOf_4 : decode zo_L_sizeOf 4 = .ok (.iload_n 3, 1) := by decide +kernel
theorem zd_L_sizeOf_5 : decode zo_L_sizeOf 5 = .ok (.bipush 24, 2) := by decide +kernel
theorem zd_L_sizeOf_7 : decode zo_L_sizeOf 7 = .ok (.if_icmp .ge 22, 3) := by decide +kernel
theorem zd_L_sizeOf_10 : decode zo_L_sizeOf 10 = .ok (.aload_n 0, 1) := by decide +kernel
theorem zd_L_sizeOf_11 : decode zo_L_sizeOf 11 = .ok (.getfield 22, 3) := by decide +kernel
theorem zd_L_sizeOf_14 : decode zo_L_sizeOf 14 = .ok (.iload_n 3, 1) := by decide +kernel
theorem zd_L_sizeOf_15 : decode zo_L_sizeOf 15 = .ok (.iaload, 1) := by decide +kernel
theorem zd_L_sizeOf_16 : decode zo_L_sizeOf 16 = .ok (.iload_n 1, 1) := by decide +kernel
theorem zd_L_sizeOf_17 : decode zo_L_sizeOf 17 = .ok (.if_icmp .ne 6, 3) := by decide +kernel
theorem zd_L_sizeOf_20 : decode zo_L_sizeOf 20 = .ok (.iinc 2 1, 3) := by decide +kernel
theorem zd_L_sizeOf_23 : decode zo_L_sizeOf 23 = .ok (.iinc 3 1, 3) := by decide +kernel
theorem zd_L_sizeOf_26 : decode zo_L_sizeOf 26 = .ok (.goto (-22), 3) := by decide +kernel
theorem zd_L_sizeOf_29 : decode zo_L_sizeOf 29 = .ok (.iload_n 2, 1) := by decide +kernel
theorem zd_L_sizeOf_30 : decode zo_L_sizeOf 30 = .ok (.ireturn, 1) := by decide +kernel
theorem zd_L_kindsReached_0 : decode zo_L_kindsReached 0 = .ok (.iconst 0, 1) := by decide +kernel
theorem zd_L_kindsReached_1 : decode zo_L_kindsReached 1 = .ok (.istore_n 3, 1) := by decide +kernel
theorem zd_L_kindsReached_2 : decode zo_L_kindsReached 2 = .ok (.iconst 0, 1) := by decide +kernel
theorem zd_L_kindsReached_3 : decode zo_L_kindsReached 3 = .ok (.istore 4, 2) := by decide +kernel
theorem zd_L_kindsReached_5 : decode zo_L_kindsReached 5 = .ok (.iload 4, 2) := by decide +kernel
theorem zd_L_kindsReached_7 : decode zo_L_kindsReached 7 = .ok (.bipush 24, 2) := by decide +kernel
theorem zd_L_kindsReached_9 : decode zo_L_kindsReached 9 = .ok (.if_icmp .ge 37, 3) := by decide +kernel
theorem zd_L_kindsReached_12 : decode zo_L_kindsReached 12 = .ok (.aload_n 0, 1) := by decide +kernel
theorem zd_L_kindsReached_13 : decode zo_L_kindsReached 13 = .ok (.getfield 22, 3) := by decide +kernel
theorem zd_L_kindsReached_16 : decode zo_L_kindsReached 16 = .ok (.iload 4, 2) := by decide +kernel
theorem zd_L_kindsReached_18 : decode zo_L_kindsReached 18 = .ok (.iaload, 1) := by decide +kernel
theorem zd_L_kindsReached_19 : decode zo_L_kindsReached 19 = .ok (.iload_n 1, 1) := by decide +kernel
theorem zd_L_kindsReached_20 : decode zo_L_kindsReached 20 = .ok (.if_icmp .ne 20, 3) := by decide +kernel
theorem zd_L_kindsReached_23 : decode zo_L_kindsReached 23 = .ok (.iload_n 3, 1) := by decide +kernel
theorem zd_L_kindsReached_24 : decode zo_L_kindsReached 24 = .ok (.aload_n 0, 1) := by decide +kernel
theorem zd_L_kindsReached_25 : decode zo_L_kindsReached 25 = .ok (.aload_n 0, 1) := by decide +kernel
theorem zd_L_kindsReached_26 : decode zo_L_kindsReached 26 = .ok (.getfield 9, 3) := by decide +kernel
theorem zd_L_kindsReached_29 : decode zo_L_kindsReached 29 = .ok (.iload 4, 2) := by decide +kernel
theorem zd_L_kindsReached_31 : decode zo_L_kindsReached 31 = .ok (.iload_n 2, 1) := by decide +kernel
theorem zd_L_kindsReached_32 : decode zo_L_kindsReached 32 = .ok (.invokevirtual 71, 3) := by decide +kernel
theorem zd_L_kindsReached_35 : decode zo_L_kindsReached 35 = .ok (.invokevirtual 74, 3) := by decide +kernel
theorem zd_L_kindsReached_38 : decode zo_L_kindsReached 38 = .ok (.ior, 1) := by decide +kernel
theorem zd_L_kindsReached_39 : decode zo_L_kindsReached 39 = .ok (.istore_n 3, 1) := by decide +kernel
theorem zd_L_kindsReached_40 : decode zo_L_kindsReached 40 = .ok (.iinc 4 1, 3) := by decide +kernel
theorem zd_L_kindsReached_43 : decode zo_L_kindsReached 43 = .ok (.goto (-38), 3) := by decide +kernel
theorem zd_L_kindsReached_46 : decode zo_L_kindsReached 46 = .ok (.iload_n 3, 1) := by decide +kernel
theorem zd_L_kindsReached_47 : decode zo_L_kindsReached 47 = .ok (.ireturn, 1) := by decide +kernel
theorem zd_L_kindsAmong_0 : decode zo_L_kindsAmong 0 = .ok (.iconst 0, 1) := by decide +kernel
theorem zd_L_kindsAmong_1 : decode zo_L_kindsAmong 1 = .ok (.istore_n 2, 1) := by decide +kernel
theorem zd_L_kindsAmong_2 : decode zo_L_kindsAmong 2 = .ok (.iconst 0, 1) := by decide +kernel
theorem zd_L_kindsAmong_3 : decode zo_L_kindsAmong 3 = .ok (.istore_n 3, 1) := by decide +kernel
theorem zd_L_kindsAmong_4 : decode zo_L_kindsAmong 4 = .ok (.iload_n 3, 1) := by decide +kernel
theorem zd_L_kindsAmong_5 : decode zo_L_kindsAmong 5 = .ok (.bipush 24, 2) := by decide +kernel
theorem zd_L_kindsAmong_7 : decode zo_L_kindsAmong 7 = .ok (.if_icmp .ge 28, 3) := by decide +kernel
theorem zd_L_kindsAmong_10 : decode zo_L_kindsAmong 10 = .ok (.iload_n 1, 1) := by decide +kernel
theorem zd_L_kindsAmong_11 : decode zo_L_kindsAmong 11 = .ok (.iload_n 3, 1) := by decide +kernel
theorem zd_L_kindsAmong_12 : decode zo_L_kindsAmong 12 = .ok (.invokestatic 54, 3) := by decide +kernel
theorem zd_L_kindsAmong_15 : decode zo_L_kindsAmong 15 = .ok (.ifCond .eq 14, 3) := by decide +kernel
theorem zd_L_kindsAmong_18 : decode zo_L_kindsAmong 18 = .ok (.iload_n 2, 1) := by decide +kernel
theorem zd_L_kindsAmong_19 : decode zo_L_kindsAmong 19 = .ok (.iconst 1, 1) := by decide +kernel
theorem zd_L_kindsAmong_20 : decode zo_L_kindsAmong 20 = .ok (.aload_n 0, 1) := by decide +kernel
theorem zd_L_kindsAmong_21 : decode zo_L_kindsAmong 21 = .ok (.getfield 22, 3) := by decide +kernel
theorem zd_L_kindsAmong_24 : decode zo_L_kindsAmong 24 = .ok (.iload_n 3, 1) := by decide +kernel
theorem zd_L_kindsAmong_25 : decode zo_L_kindsAmong 25 = .ok (.iaload, 1) := by decide +kernel
theorem zd_L_kindsAmong_26 : decode zo_L_kindsAmong 26 = .ok (.ishl, 1) := by decide +kernel
theorem zd_L_kindsAmong_27 : decode zo_L_kindsAmong 27 = .ok (.ior, 1) := by decide +kernel
theorem zd_L_kindsAmong_28 : decode zo_L_kindsAmong 28 = .ok (.istore_n 2, 1) := by decide +kernel
theorem zd_L_kindsAmong_29 : decode zo_L_kindsAmong 29 = .ok (.iinc 3 1, 3) := by decide +kernel
theorem zd_L_kindsAmong_32 : decode zo_L_kindsAmong 32 = .ok (.goto (-28), 3) := by decide +kernel
theorem zd_L_kindsAmong_35 : decode zo_L_kindsAmong 35 = .ok (.iload_n 2, 1) := by decide +kernel
theorem zd_L_kindsAmong_36 : decode zo_L_kindsAmong 36 = .ok (.ireturn, 1) := by decide +kernel
theorem zd_L_linkCount_0 : decode zo_L_linkCount 0 = .ok (.iconst 0, 1) := by decide +kernel
theorem zd_L_linkCount_1 : decode zo_L_linkCount 1 = .ok (.istore_n 1, 1) := by decide +kernel
theorem zd_L_linkCount_2 : decode zo_L_linkCount 2 = .ok (.iconst 0, 1) := by decide +kernel
theorem zd_L_linkCount_3 : decode zo_L_linkCount 3 = .ok (.istore_n 2, 1) := by decide +kernel
theorem zd_L_linkCount_4 : decode zo_L_linkCount 4 = .ok (.iload_n 2, 1) := by decide +kernel
theorem zd_L_linkCount_5 : decode zo_L_linkCount 5 = .ok (.aload_n 0, 1) := by decide +kernel
theorem zd_L_linkCount_6 : decode zo_L_linkCount 6 = .ok (.getfield 61, 3) := by decide +kernel
theorem zd_L_linkCount_9 : decode zo_L_linkCount 9 = .ok (.if_icmp .ge 34, 3) := by decide +kernel
theorem zd_L_linkCount_12 : decode zo_L_linkCount 12 = .ok (.iconst 0, 1) := by decide +kernel
theorem zd_L_linkCount_13 : decode zo_L_linkCount 13 = .ok (.istore_n 3, 1) := by decide +kernel
theorem zd_L_linkCount_14 : decode zo_L_linkCount 14 = .ok (.iload_n 3, 1) := by decide +kernel
theorem zd_L_linkCount_15 : decode zo_L_linkCount 15 = .ok (.iconst 4, 1) := by decide +kernel
theorem zd_L_linkCount_16 : decode zo_L_linkCount 16 = .ok (.if_icmp .ge 21, 3) := by decide +kernel
theorem zd_L_linkCount_19 : decode zo_L_linkCount 19 = .ok (.iload_n 1, 1) := by decide +kernel
theorem zd_L_linkCount_20 : decode zo_L_linkCount 20 = .ok (.aload_n 0, 1) := by decide +kernel
theorem zd_L_linkCount_21 : decode zo_L_linkCount 21 = .ok (.iload_n 2, 1) := by decide +kernel
theorem zd_L_linkCount_22 : decode zo_L_linkCount 22 = .ok (.iload_n 3, 1) := by decide +kernel
theorem zd_L_linkCount_23 : decode zo_L_linkCount 23 = .ok (.invokevirtual 77, 3) := by decide +kernel
theorem zd_L_linkCount_26 : decode zo_L_linkCount 26 = .ok (.invokestatic 80, 3) := by decide +kernel
theorem zd_L_linkCount_29 : decode zo_L_linkCount 29 = .ok (.iadd, 1) := by decide +kernel
theorem zd_L_linkCount_30 : decode zo_L_linkCount 30 = .ok (.istore_n 1, 1) := by decide +kernel
theorem zd_L_linkCount_31 : decode zo_L_linkCount 31 = .ok (.iinc 3 1, 3) := by decide +kernel
theorem zd_L_linkCount_34 : decode zo_L_linkCount 34 = .ok (.goto (-20), 3) := by decide +kernel
theorem zd_L_linkCount_37 : decode zo_L_linkCount 37 = .ok (.iinc 2 1, 3) := by decide +kernel
theorem zd_L_linkCount_40 : decode zo_L_linkCount 40 = .ok (.goto (-36), 3) := by decide +kernel
theorem zd_L_linkCount_43 : decode zo_L_linkCount 43 = .ok (.iload_n 1, 1) := by decide +kernel
theorem zd_L_linkCount_44 : decode zo_L_linkCount 44 = .ok (.ireturn, 1) := by decide +kernel
