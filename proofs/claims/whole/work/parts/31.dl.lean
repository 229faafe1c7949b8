theorem zd_M_look_0 : decode zo_M_look 0 = .ok (.aload_n 0, 1) := by decide +kernel
theorem zd_M_look_1 : decode zo_M_look 1 = .ok (.getfield 50, 3) := by decide +kernel
theorem zd_M_look_4 : decode zo_M_look 4 = .ok (.ifCond .eq 4, 3) := by decide +kernel
theorem zd_M_look_7 : decode zo_M_look 7 = .ok (.return_, 1) := by decide +kernel
theorem zd_M_look_8 : decode zo_M_look 8 = .ok (.aload_n 0, 1) := by decide +kernel
theorem zd_M_look_9 : decode zo_M_look 9 = .ok (.iconst 1, 1) := by decide +kernel
theorem zd_M_look_10 : decode zo_M_look 10 = .ok (.putfield 50, 3) := by decide +kernel
theorem zd_M_look_13 : decode zo_M_look 13 = .ok (.aload_n 0, 1) := by decide +kernel
theorem zd_M_look_14 : decode zo_M_look 14 = .ok (.invokevirtual 70, 3) := by decide +kernel
theorem zd_M_look_17 : decode zo_M_look 17 = .ok (.aload_n 0, 1) := by decide +kernel
theorem zd_M_look_18 : decode zo_M_look 18 = .ok (.invokevirtual 73, 3) := by decide +kernel
theorem zd_M_look_21 : decode zo_M_look 21 = .ok (.aload_n 0, 1) := by decide +kernel
theorem zd_M_look_22 : decode zo_M_look 22 = .ok (.invokevirtual 76, 3) := by decide +kernel
theorem zd_M_look_25 : decode zo_M_look 25 = .ok (.return_, 1) := by decide +kernel
theorem zd_M_findCovers_0 : decode zo_M_findCovers 0 = .ok (.iconst 0, 1) := by decide +kernel
theorem zd_M_findCovers_1 : decode zo_M_findCovers 1 = .ok (.istore_n 1, 1) := by decide +kernel
theorem zd_M_findCovers_2 : decode zo_M_findCovers 2 = .ok (.iload_n 1, 1) := by decide +kernel
theorem zd_M_findCovers_3 : decode zo_M_findCovers 3 = .ok (.sipush 576, 3) := by decide +kernel
theorem zd_M_findCovers_6 : decode zo_M_findCovers 6 = .ok (.if_icmp .ge 41, 3) := by decide +kernel
theorem zd_M_findCovers_9 : decode zo_M_findCovers 9 = .ok (.aload_n 0, 1) := by decide +kernel
theorem zd_M_findCovers_10 : decode zo_M_findCovers 10 = .ok (.getfield 20, 3) := by decide +kernel
theorem zd_M_findCovers_13 : decode zo_M_findCovers 13 = .ok (.iload_n 1, 1) := by decide +kernel
theorem zd_M_findCovers_14 : decode zo_M_findCovers 14 = .ok (.aload_n 0, 1) := by decide +kernel
theorem zd_M_findCovers_15 : decode zo_M_findCovers 15 = .ok (.getfield 13, 3) := by decide +kernel
theorem zd_M_findCovers_18 : decode zo_M_findCovers 18 = .ok (.iload_n 1, 1) := by decide +kernel
theorem zd_M_findCovers_19 : decode zo_M_findCovers 19 = .ok (.bipush 24, 2) := by decide +kernel
theorem zd_M_findCovers_21 : decode zo_M_findCovers 21 = .ok (.idiv, 1) := by decide +kernel
theorem zd_M_findCovers_22 : decode zo_M_findCovers 22 = .ok (.iaload, 1) := by decide +kernel
theorem zd_M_findCovers_23 : decode zo_M_findCovers 23 = .ok (.aload_n 0, 1) := by decide +kernel
theorem zd_M_findCovers_24 : decode zo_M_findCovers 24 = .ok (.getfield 13, 3) := by decide +kernel
theorem zd_M_findCovers_27 : decode zo_M_findCovers 27 = .ok (.iload_n 1, 1) := by decide +kernel
theorem zd_M_findCovers_28 : decode zo_M_findCovers 28 = .ok (.bipush 24, 2) := by decide +kernel
theorem zd_M_findCovers_30 : decode zo_M_findCovers 30 = .ok (.irem, 1) := by decide +kernel
theorem zd_M_findCovers_31 : decode zo_M_findCovers 31 = .ok (.iaload, 1) := by decide +kernel
theorem zd_M_findCovers_32 : decode zo_M_findCovers 32 = .ok (.if_icmp .ne 7, 3) := by decide +kernel
theorem zd_M_findCovers_35 : decode zo_M_findCovers 35 = .ok (.iconst 1, 1) := by decide +kernel
theorem zd_M_findCovers_36 : decode zo_M_findCovers 36 = .ok (.goto 4, 3) := by decide +kernel
theorem zd_M_findCovers_39 : decode zo_M_findCovers 39 = .ok (.iconst 0, 1) := by decide +kernel
theorem zd_M_findCovers_40 : decode zo_M_findCovers 40 = .ok (.bastore, 1) := by decide +kernel
theorem zd_M_findCovers_41 : decode zo_M_findCovers 41 = .ok (.iinc 1 1, 3) := by decide +kernel
theorem zd_M_findCovers_44 : decode zo_M_findCovers 44 = .ok (.goto (-42), 3) := by decide +kernel
theorem zd_M_findCovers_47 : decode zo_M_findCovers 47 = .ok (.iconst 1, 1) := by decide +kernel
theorem zd_M_findCovers_48 : decode zo_M_findCovers 48 = .ok (.istore_n 1, 1) := by decide +kernel
theorem zd_M_findCovers_49 : decode zo_M_findCovers 49 = .ok (.iload_n 1, 1) := by decide +kernel
theorem zd_M_findCovers_50 : decode zo_M_findCovers 50 = .ok (.ifCond .eq 110, 3) := by decide +kernel
theorem zd_M_findCovers_53 : decode zo_M_findCovers 53 = .ok (.iconst 0, 1) := by decide +kernel
theorem zd_M_findCovers_54 : decode zo_M_findCovers 54 = .ok (.istore_n 1, 1) := by decide +kernel
theorem zd_M_findCovers_55 : decode zo_M_findCovers 55 = .ok (.iconst 0, 1) := by decide +kernel
theorem zd_M_findCovers_56 : decode zo_M_findCovers 56 = .ok (.istore_n 2, 1) := by decide +kernel
theorem zd_M_findCovers_57 : decode zo_M_findCovers 57 = .ok (.iload_n 2, 1) := by decide +kernel
theorem zd_M_findCovers_58 : decode zo_M_findCovers 58 = .ok (.sipush 576, 3) := by decide +kernel
theorem zd_M_findCovers_61 : decode zo_M_findCovers 61 = .ok (.if_icmp .ge 69, 3) := by decide +kernel
theorem zd_M_findCovers_64 : decode zo_M_findCovers 64 = .ok (.aload_n 0, 1) := by decide +kernel
theorem zd_M_findCovers_65 : decode zo_M_findCovers 65 = .ok (.getfield 23, 3) := by decide +kernel
theorem zd_M_findCovers_68 : decode zo_M_findCovers 68 = .ok (.iload_n 2, 1) := by decide +kernel
theorem zd_M_findCovers_69 : decode zo_M_findCovers 69 = .ok (.aload_n 0, 1) := by decide +kernel
theorem zd_M_findCovers_70 : decode zo_M_findCovers 70 = .ok (.getfield 20, 3) := by decide +kernel
theorem zd_M_findCovers_73 : decode zo_M_findCovers 73 = .ok (.iload_n 2, 1) := by decide +kernel
theorem zd_M_findCovers_74 : decode zo_M_findCovers 74 = .ok (.baload, 1) := by decide +kernel
theorem zd_M_findCovers_75 : decode zo_M_findCovers 75 = .ok (.ifCond .eq 22, 3) := by decide +kernel
theorem zd_M_findCovers_78 : decode zo_M_findCovers 78 = .ok (.aload_n 0, 1) := by decide +kernel
theorem zd_M_findCovers_79 : decode zo_M_findCovers 79 = .ok (.iload_n 2, 1) := by decide +kernel
theorem zd_M_findCovers_80 : decode zo_M_findCovers 80 = .ok (.bipush 24, 2) := by decide +kernel
theorem zd_M_findCovers_82 : decode zo_M_findCovers 82 = .ok (.idiv, 1) := by decide +kernel
theorem zd_M_findCovers_83 : decode zo_M_findCovers 83 = .ok (.iload_n 2, 1) := by decide +kernel
theorem zd_M_findCovers_84 : decode zo_M_findCovers 84 = .ok (.bipush 24, 2) := by decide +kernel
theorem zd_M_findCovers_86 : decode zo_M_findCovers 86 = .ok (.irem, 1) := by decide +kernel
theorem zd_M_findCovers_87 : decode zo_M_findCovers 87 = .ok (.invokevirtual 60, 3) := by decide +kernel
theorem zd_M_findCovers_90 : decode zo_M_findCovers 90 = .ok (.ifCond .eq 7, 3) := by decide +kernel
theorem zd_M_findCovers_93 : decode zo_M_findCovers 93 = .ok (.iconst 1, 1) := by decide +kernel
theorem zd_M_findCovers_94 : decode zo_M_findCovers 94 = .ok (.goto 4, 3) := by decide +kernel
theorem zd_M_findCovers_97 : decode zo_M_findCovers 97 = .ok (.iconst 0, 1) := by decide +kernel
theorem zd_M_findCovers_98 : decode zo_M_findCovers 98 = .ok (.bastore, 1) := by decide +kernel
theorem zd_M_findCovers_99 : decode zo_M_findCovers 99 = .ok (.iload_n 1, 1) := by decide +kernel
theorem zd_M_findCovers_100 : decode zo_M_findCovers 100 = .ok (.ifCond .ne 18, 3) := by decide +kernel
theorem zd_M_findCovers_103 : decode zo_M_findCovers 103 = .ok (.aload_n 0, 1) := by decide +kernel
theorem zd_M_findCovers_104 : decode zo_M_findCovers 104 = .ok (.getfield 23, 3) := by decide +kernel
theorem zd_M_findCovers_107 : decode zo_M_findCovers 107 = .ok (.iload_n 2, 1) := by decide +kernel
theorem zd_M_findCovers_108 : decode zo_M_findCovers 108 = .ok (.baload, 1) := by decide +kernel
theorem zd_M_findCovers_109 : decode zo_M_findCovers 109 = .ok (.aload_n 0, 1) := by decide +kernel
theorem zd_M_findCovers_110 : decode zo_M_findCovers 110 = .ok (.getfield 20, 3) := by decide +kernel
theorem zd_M_findCovers_113 : decode zo_M_findCovers 113 = .ok (.iload_n 2, 1) := by decide +kernel
theorem zd_M_findCovers_114 : decode zo_M_findCovers 114 = .ok (.baload, 1) := by decide +kernel
theorem zd_M_findCovers_115 : decode zo_M_findCovers 115 = .ok (.if_icmp .eq 7, 3) := by decide +kernel
theorem zd_M_findCovers_118 : decode zo_M_findCovers 118 = .ok (.iconst 1, 1) := by decide +kernel
theorem zd_M_findCovers_119 : decode zo_M_findCovers 119 = .ok (.goto 4, 3) := by decide +kernel
theorem zd_M_findCovers_122 : decode zo_M_findCovers 122 = .ok (.iconst 0, 1) := by decide +kernel
theorem zd_M_findCovers_123 : decode zo_M_findCovers 123 = .ok (.istore_n 1, 1) := by decide +kernel
theorem zd_M_findCovers_124 : decode zo_M_findCovers 124 = .ok (.iinc 2 1, 3) := by decide +kernel
theorem zd_M_findCovers_127 : decode zo_M_findCovers 127 = .ok (.goto (-70), 3) := by decide +kernel
theorem zd_M_findCovers_130 : decode zo_M_findCovers 130 = .ok (.iconst 0, 1) := by decide +kernel
theorem zd_M_findCovers_131 : decode zo_M_findCovers 131 = .ok (.istore_n 2, 1) := by decide +kernel
theorem zd_M_findCovers_132 : decode zo_M_findCovers 132 = .ok (.iload_n 2, 1) := by decide +kernel
theorem zd_M_findCovers_133 : decode zo_M_findCovers 133 = .ok (.sipush 576, 3) := by decide +kernel
theorem zd_M_findCovers_136 : decode zo_M_findCovers 136 = .ok (.if_icmp .ge 21, 3) := by decide +kernel
theorem zd_M_findCovers_139 : decode zo_M_findCovers 139 = .ok (.aload_n 0, 1) := by decide +kernel
theorem zd_M_findCovers_140 : decode zo_M_findCovers 140 = .ok (.getfield 20, 3) := by decide +kernel
theorem zd_M_findCovers_143 : decode zo_M_findCovers 143 = .ok (.iload_n 2, 1) := by decide +kernel
theorem zd_M_findCovers_144 : decode zo_M_findCovers 144 = .ok (.aload_n 0, 1) := by decide +kernel
theorem zd_M_findCovers_145 : decode zo_M_findCovers 145 = .ok (.getfield 23, 3) := by decide +kernel
theorem zd_M_findCovers_148 : decode zo_M_findCovers 148 = .ok (.iload_n 2, 1) := by decide +kernel
theorem zd_M_findCovers_149 : decode zo_M_findCovers 149 = .ok (.baload, 1) := by decide +kernel
theorem zd_M_findCovers_150 : decode zo_M_findCovers 150 = .ok (.bastore, 1) := by decide +kernel
theorem zd_M_findCovers_151 : decode zo_M_findCovers 151 = .ok (.iinc 2 1, 3) := by decide +kernel
theorem zd_M_findCovers_154 : decode zo_M_findCovers 154 = .ok (.goto (-22), 3) := by decide +kernel
theorem zd_M_findCovers_157 : decode zo_M_findCovers 157 = .ok (.goto (-108), 3) := by decide +kernel
theorem zd_M_findCovers_160 : decode zo_M_findCovers 160 = .ok (.return_, 1) := by decide +kernel
theorem zd_M_findKinds_0 : decode zo_M_findKinds 0 = .ok (.aload_n 0, 1) := by decide +kernel
theorem zd_M_findKinds_1 : decode zo_M_findKinds 1 = .ok (.iconst 0, 1) := by decide +kernel
theorem zd_M_findKinds_2 : decode zo_M_findKinds 2 = .ok (.putfield 64, 3) := by decide +kernel
theorem zd_M_findKinds_5 : decode zo_M_findKinds 5 = .ok (.iconst 0, 1) := by decide +kernel
theorem zd_M_findKinds_6 : decode zo_M_findKinds 6 = .ok (.istore_n 1, 1) := by decide +kernel
theorem zd_M_findKinds_7 : decode zo_M_findKinds 7 = .ok (.iload_n 1, 1) := by decide +kernel
theorem zd_M_findKinds_8 : decode zo_M_findKinds 8 = .ok (.bipush 24, 2) := by decide +kernel
theorem zd_M_findKinds_10 : decode zo_M_findKinds 10 = .ok (.if_icmp .ge 88, 3) := by decide +kernel
theorem zd_M_findKinds_13 : decode zo_M_findKinds 13 = .ok (.aload_n 0, 1) := by decide +kernel
theorem zd_M_findKinds_14 : decode zo_M_findKinds 14 = .ok (.getfield 26, 3) := by decide +kernel
theorem zd_M_findKinds_17 : decode zo_M_findKinds 17 = .ok (.iload_n 1, 1) := by decide +kernel
theorem zd_M_findKinds_18 : decode zo_M_findKinds 18 = .ok (.iconst (-1), 1) := by decide +kernel
theorem zd_M_findKinds_19 : decode zo_M_findKinds 19 = .ok (.iastore, 1) := by decide +kernel
theorem zd_M_findKinds_20 : decode zo_M_findKinds 20 = .ok (.iconst 0, 1) := by decide +kernel
theorem zd_M_findKinds_21 : decode zo_M_findKinds 21 = .ok (.istore_n 2, 1) := by decide +kernel
theorem zd_M_findKinds_22 : decode zo_M_findKinds 22 = .ok (.iload_n 2, 1) := by decide +kernel
theorem zd_M_findKinds_23 : decode zo_M_findKinds 23 = .ok (.iload_n 1, 1) := by decide +kernel
theorem zd_M_findKinds_24 : decode zo_M_findKinds 24 = .ok (.if_icmp .ge 39, 3) := by decide +kernel
theorem zd_M_findKinds_27 : decode zo_M_findKinds 27 = .ok (.aload_n 0, 1) := by decide +kernel
theorem zd_M_findKinds_28 : decode zo_M_findKinds 28 = .ok (.getfield 26, 3) := by decide +kernel
theorem zd_M_findKinds_31 : decode zo_M_findKinds 31 = .ok (.iload_n 1, 1) := by decide +kernel
theorem zd_M_findKinds_32 : decode zo_M_findKinds 32 = .ok (.aload_n 0, 1) := by decide +kernel
theorem zd_M_findKinds_33 : decode zo_M_findKinds 33 = .ok (.iload_n 1, 1) := by decide +kernel
theorem zd_M_findKinds_34 : decode zo_M_findKinds 34 = .ok (.iload_n 2, 1) := by decide +kernel
theorem zd_M_findKinds_35 : decode zo_M_findKinds 35 = .ok (.invokevirtual 67, 3) := by decide +kernel
theorem zd_M_findKinds_38 : decode zo_M_findKinds 38 = .ok (.ifCond .eq 12, 3) := by decide +kernel
theorem zd_M_findKinds_41 : decode zo_M_findKinds 41 = .ok (.aload_n 0, 1) := by decide +kernel
theorem zd_M_findKinds_42 : decode zo_M_findKinds 42 = .ok (.getfield 26, 3) := by decide +kernel
theorem zd_M_findKinds_45 : decode zo_M_findKinds 45 = .ok (.iload_n 2, 1) := by decide +kernel
theorem zd_M_findKinds_46 : decode zo_M_findKinds 46 = .ok (.iaload, 1) := by decide +kernel
theorem zd_M_findKinds_47 : decode zo_M_findKinds 47 = .ok (.goto 9, 3) := by decide +kernel
theorem zd_M_findKinds_50 : decode zo_M_findKinds 50 = .ok (.aload_n 0, 1) := by decide +kernel
theorem zd_M_findKinds_51 : decode zo_M_findKinds 51 = .ok (.getfield 26, 3) := by decide +kernel
theorem zd_M_findKinds_54 : decode zo_M_findKinds 54 = .ok (.iload_n 1, 1) := by decide +kernel
theorem zd_M_findKinds_55 : decode zo_M_findKinds 55 = .ok (.iaload, 1) := by decide +kernel
theorem zd_M_findKinds_56 : decode zo_M_findKinds 56 = .ok (.iastore, 1) := by decide +kernel
theorem zd_M_findKinds_57 : decode zo_M_findKinds 57 = .ok (.iinc 2 1, 3) := by decide +kernel
theorem zd_M_findKinds_60 : decode zo_M_findKinds 60 = .ok (.goto (-38), 3) := by decide +kernel
theorem zd_M_findKinds_63 : decode zo_M_findKinds 63 = .ok (.aload_n 0, 1) := by decide +kernel
theorem zd_M_findKinds_64 : decode zo_M_findKinds 64 = .ok (.getfield 26, 3) := by decide +kernel
theorem zd_M_findKinds_67 : decode zo_M_findKinds 67 = .ok (.iload_n 1, 1) := by decide +kernel
theorem zd_M_findKinds_68 : decode zo_M_findKinds 68 = .ok (.iaload, 1) := by decide +kernel
theorem zd_M_findKinds_69 : decode zo_M_findKinds 69 = .ok (.ifCond .ge 23, 3) := by decide +kernel
theorem zd_M_findKinds_72 : decode zo_M_findKinds 72 = .ok (.aload_n 0, 1) := by decide +kernel
theorem zd_M_findKinds_73 : decode zo_M_findKinds 73 = .ok (.getfield 26, 3) := by decide +kernel
theorem zd_M_findKinds_76 : decode zo_M_findKinds 76 = .ok (.iload_n 1, 1) := by decide +kernel
theorem zd_M_findKinds_77 : decode zo_M_findKinds 77 = .ok (.aload_n 0, 1) := by decide +kernel
theorem zd_M_findKinds_78 : decode zo_M_findKinds 78 = .ok (.getfield 64, 3) := by decide +kernel
theorem zd_M_findKinds_81 : decode zo_M_findKinds 81 = .ok (.iastore, 1) := by decide +kernel
theorem zd_M_findKinds_82 : decode zo_M_findKinds 82 = .ok (.aload_n 0, 1) := by decide +kernel
theorem zd_M_findKinds_83 : decode zo_M_findKinds 83 = .ok (.aload_n 0, 1) := by decide +kernel
theorem zd_M_findKinds_84 : decode zo_M_findKinds 84 = .ok (.getfield 64, 3) := by decide +kernel
theorem zd_M_findKinds_87 : decode zo_M_findKinds 87 = .ok (.iconst 1, 1) := by decide +kernel
theorem zd_M_findKinds_88 : decode zo_M_findKinds 88 = .ok (.iadd, 1) := by decide +kernel
theorem zd_M_findKinds_89 : decode zo_M_findKinds 89 = .ok (.putfield 64, 3) := by decide +kernel
theorem zd_M_findKinds_92 : decode zo_M_findKinds 92 = .ok (.iinc 1 1, 3) := by decide +kernel
theorem zd_M_findKinds_95 : decode zo_M_findKinds 95 = .ok (.goto (-88), 3) := by decide +kernel
theorem zd_M_findKinds_98 : decode zo_M_findKinds 98 = .ok (.return_, 1) := by decide +kernel
