theorem zd_G_countAttacks_0 : decode zo_G_countAttacks 0 = .ok (.aload_n 0, 1) := by decide +kernel
theorem zd_G_countAttacks_1 : decode zo_G_countAttacks 1 = .ok (.getfield 15, 3) := by decide +kernel
theorem zd_G_countAttacks_4 : decode zo_G_countAttacks 4 = .ok (.iload_n 1, 1) := by decide +kernel
theorem zd_G_countAttacks_5 : decode zo_G_countAttacks 5 = .ok (.iload_n 2, 1) := by decide +kernel
theorem zd_G_countAttacks_6 : decode zo_G_countAttacks 6 = .ok (.invokevirtual 29, 3) := by decide +kernel
theorem zd_G_countAttacks_9 : decode zo_G_countAttacks 9 = .ok (.iconst 1, 1) := by decide +kernel
theorem zd_G_countAttacks_10 : decode zo_G_countAttacks 10 = .ok (.isub, 1) := by decide +kernel
theorem zd_G_countAttacks_11 : decode zo_G_countAttacks 11 = .ok (.istore_n 3, 1) := by decide +kernel
theorem zd_G_countAttacks_12 : decode zo_G_countAttacks 12 = .ok (.iload_n 3, 1) := by decide +kernel
theorem zd_G_countAttacks_13 : decode zo_G_countAttacks 13 = .ok (.ifCond .ge 7, 3) := by decide +kernel
theorem zd_G_countAttacks_16 : decode zo_G_countAttacks 16 = .ok (.iconst 0, 1) := by decide +kernel
theorem zd_G_countAttacks_17 : decode zo_G_countAttacks 17 = .ok (.goto 18, 3) := by decide +kernel
theorem zd_G_countAttacks_20 : decode zo_G_countAttacks 20 = .ok (.aload_n 0, 1) := by decide +kernel
theorem zd_G_countAttacks_21 : decode zo_G_countAttacks 21 = .ok (.iload_n 1, 1) := by decide +kernel
theorem zd_G_countAttacks_22 : decode zo_G_countAttacks 22 = .ok (.iload_n 2, 1) := by decide +kernel
theorem zd_G_countAttacks_23 : decode zo_G_countAttacks 23 = .ok (.iload_n 3, 1) := by decide +kernel
theorem zd_G_countAttacks_24 : decode zo_G_countAttacks 24 = .ok (.invokevirtual 35, 3) := by decide +kernel
theorem zd_G_countAttacks_27 : decode zo_G_countAttacks 27 = .ok (.aload_n 0, 1) := by decide +kernel
theorem zd_G_countAttacks_28 : decode zo_G_countAttacks 28 = .ok (.iload_n 2, 1) := by decide +kernel
theorem zd_G_countAttacks_29 : decode zo_G_countAttacks 29 = .ok (.iload_n 1, 1) := by decide +kernel
theorem zd_G_countAttacks_30 : decode zo_G_countAttacks 30 = .ok (.iload_n 3, 1) := by decide +kernel
theorem zd_G_countAttacks_31 : decode zo_G_countAttacks 31 = .ok (.invokevirtual 35, 3) := by decide +kernel
theorem zd_G_countAttacks_34 : decode zo_G_countAttacks 34 = .ok (.iadd, 1) := by decide +kernel
theorem zd_G_countAttacks_35 : decode zo_G_countAttacks 35 = .ok (.ireturn, 1) := by decide +kernel
theorem zd_G_attackOnce_0 : decode zo_G_attackOnce 0 = .ok (.aload_n 0, 1) := by decide +kernel
theorem zd_G_attackOnce_1 : decode zo_G_attackOnce 1 = .ok (.getfield 15, 3) := by decide +kernel
theorem zd_G_attackOnce_4 : decode zo_G_attackOnce 4 = .ok (.aload_n 0, 1) := by decide +kernel
theorem zd_G_attackOnce_5 : decode zo_G_attackOnce 5 = .ok (.getfield 19, 3) := by decide +kernel
theorem zd_G_attackOnce_8 : decode zo_G_attackOnce 8 = .ok (.iconst 0, 1) := by decide +kernel
theorem zd_G_attackOnce_9 : decode zo_G_attackOnce 9 = .ok (.iaload, 1) := by decide +kernel
theorem zd_G_attackOnce_10 : decode zo_G_attackOnce 10 = .ok (.aload_n 0, 1) := by decide +kernel
theorem zd_G_attackOnce_11 : decode zo_G_attackOnce 11 = .ok (.getfield 19, 3) := by decide +kernel
theorem zd_G_attackOnce_14 : decode zo_G_attackOnce 14 = .ok (.iconst 1, 1) := by decide +kernel
theorem zd_G_attackOnce_15 : decode zo_G_attackOnce 15 = .ok (.iaload, 1) := by decide +kernel
theorem zd_G_attackOnce_16 : decode zo_G_attackOnce 16 = .ok (.invokevirtual 29, 3) := by decide +kernel
theorem zd_G_attackOnce_19 : decode zo_G_attackOnce 19 = .ok (.iconst 1, 1) := by decide +kernel
theorem zd_G_attackOnce_20 : decode zo_G_attackOnce 20 = .ok (.isub, 1) := by decide +kernel
theorem zd_G_attackOnce_21 : decode zo_G_attackOnce 21 = .ok (.istore_n 1, 1) := by decide +kernel
theorem zd_G_attackOnce_22 : decode zo_G_attackOnce 22 = .ok (.iload_n 1, 1) := by decide +kernel
theorem zd_G_attackOnce_23 : decode zo_G_attackOnce 23 = .ok (.ifCond .ge 5, 3) := by decide +kernel
theorem zd_G_attackOnce_26 : decode zo_G_attackOnce 26 = .ok (.iconst 0, 1) := by decide +kernel
theorem zd_G_attackOnce_27 : decode zo_G_attackOnce 27 = .ok (.ireturn, 1) := by decide +kernel
theorem zd_G_attackOnce_28 : decode zo_G_attackOnce 28 = .ok (.iconst 0, 1) := by decide +kernel
theorem zd_G_attackOnce_29 : decode zo_G_attackOnce 29 = .ok (.istore_n 2, 1) := by decide +kernel
theorem zd_G_attackOnce_30 : decode zo_G_attackOnce 30 = .ok (.aload_n 0, 1) := by decide +kernel
theorem zd_G_attackOnce_31 : decode zo_G_attackOnce 31 = .ok (.aload_n 0, 1) := by decide +kernel
theorem zd_G_attackOnce_32 : decode zo_G_attackOnce 32 = .ok (.getfield 19, 3) := by decide +kernel
theorem zd_G_attackOnce_35 : decode zo_G_attackOnce 35 = .ok (.iconst 0, 1) := by decide +kernel
theorem zd_G_attackOnce_36 : decode zo_G_attackOnce 36 = .ok (.iaload, 1) := by decide +kernel
theorem zd_G_attackOnce_37 : decode zo_G_attackOnce 37 = .ok (.aload_n 0, 1) := by decide +kernel
theorem zd_G_attackOnce_38 : decode zo_G_attackOnce 38 = .ok (.getfield 19, 3) := by decide +kernel
theorem zd_G_attackOnce_41 : decode zo_G_attackOnce 41 = .ok (.iconst 1, 1) := by decide +kernel
theorem zd_G_attackOnce_42 : decode zo_G_attackOnce 42 = .ok (.iaload, 1) := by decide +kernel
theorem zd_G_attackOnce_43 : decode zo_G_attackOnce 43 = .ok (.iload_n 1, 1) := by decide +kernel
theorem zd_G_attackOnce_44 : decode zo_G_attackOnce 44 = .ok (.invokevirtual 63, 3) := by decide +kernel
theorem zd_G_attackOnce_47 : decode zo_G_attackOnce 47 = .ok (.istore_n 3, 1) := by decide +kernel
theorem zd_G_attackOnce_48 : decode zo_G_attackOnce 48 = .ok (.iload_n 3, 1) := by decide +kernel
theorem zd_G_attackOnce_49 : decode zo_G_attackOnce 49 = .ok (.iconst (-1), 1) := by decide +kernel
theorem zd_G_attackOnce_50 : decode zo_G_attackOnce 50 = .ok (.if_icmp .ne 23, 3) := by decide +kernel
theorem zd_G_attackOnce_53 : decode zo_G_attackOnce 53 = .ok (.iconst 1, 1) := by decide +kernel
theorem zd_G_attackOnce_54 : decode zo_G_attackOnce 54 = .ok (.istore_n 2, 1) := by decide +kernel
theorem zd_G_attackOnce_55 : decode zo_G_attackOnce 55 = .ok (.aload_n 0, 1) := by decide +kernel
theorem zd_G_attackOnce_56 : decode zo_G_attackOnce 56 = .ok (.aload_n 0, 1) := by decide +kernel
theorem zd_G_attackOnce_57 : decode zo_G_attackOnce 57 = .ok (.getfield 19, 3) := by decide +kernel
theorem zd_G_attackOnce_60 : decode zo_G_attackOnce 60 = .ok (.iconst 1, 1) := by decide +kernel
theorem zd_G_attackOnce_61 : decode zo_G_attackOnce 61 = .ok (.iaload, 1) := by decide +kernel
theorem zd_G_attackOnce_62 : decode zo_G_attackOnce 62 = .ok (.aload_n 0, 1) := by decide +kernel
theorem zd_G_attackOnce_63 : decode zo_G_attackOnce 63 = .ok (.getfield 19, 3) := by decide +kernel
theorem zd_G_attackOnce_66 : decode zo_G_attackOnce 66 = .ok (.iconst 0, 1) := by decide +kernel
theorem zd_G_attackOnce_67 : decode zo_G_attackOnce 67 = .ok (.iaload, 1) := by decide +kernel
theorem zd_G_attackOnce_68 : decode zo_G_attackOnce 68 = .ok (.iload_n 1, 1) := by decide +kernel
theorem zd_G_attackOnce_69 : decode zo_G_attackOnce 69 = .ok (.invokevirtual 63, 3) := by decide +kernel
theorem zd_G_attackOnce_72 : decode zo_G_attackOnce 72 = .ok (.istore_n 3, 1) := by decide +kernel
theorem zd_G_attackOnce_73 : decode zo_G_attackOnce 73 = .ok (.iload_n 3, 1) := by decide +kernel
theorem zd_G_attackOnce_74 : decode zo_G_attackOnce 74 = .ok (.iconst (-1), 1) := by decide +kernel
theorem zd_G_attackOnce_75 : decode zo_G_attackOnce 75 = .ok (.if_icmp .ne 5, 3) := by decide +kernel
theorem zd_G_attackOnce_78 : decode zo_G_attackOnce 78 = .ok (.iconst 0, 1) := by decide +kernel
theorem zd_G_attackOnce_79 : decode zo_G_attackOnce 79 = .ok (.ireturn, 1) := by decide +kernel
theorem zd_G_attackOnce_80 : decode zo_G_attackOnce 80 = .ok (.aload_n 0, 1) := by decide +kernel
theorem zd_G_attackOnce_81 : decode zo_G_attackOnce 81 = .ok (.aload_n 0, 1) := by decide +kernel
theorem zd_G_attackOnce_82 : decode zo_G_attackOnce 82 = .ok (.getfield 19, 3) := by decide +kernel
theorem zd_G_attackOnce_85 : decode zo_G_attackOnce 85 = .ok (.iconst 1, 1) := by decide +kernel
theorem zd_G_attackOnce_86 : decode zo_G_attackOnce 86 = .ok (.iload_n 2, 1) := by decide +kernel
theorem zd_G_attackOnce_87 : decode zo_G_attackOnce 87 = .ok (.isub, 1) := by decide +kernel
theorem zd_G_attackOnce_88 : decode zo_G_attackOnce 88 = .ok (.iaload, 1) := by decide +kernel
theorem zd_G_attackOnce_89 : decode zo_G_attackOnce 89 = .ok (.iload_n 3, 1) := by decide +kernel
theorem zd_G_attackOnce_90 : decode zo_G_attackOnce 90 = .ok (.invokevirtual 66, 3) := by decide +kernel
theorem zd_G_attackOnce_93 : decode zo_G_attackOnce 93 = .ok (.istore 4, 2) := by decide +kernel
theorem zd_G_attackOnce_95 : decode zo_G_attackOnce 95 = .ok (.aload_n 0, 1) := by decide +kernel
theorem zd_G_attackOnce_96 : decode zo_G_attackOnce 96 = .ok (.getfield 23, 3) := by decide +kernel
theorem zd_G_attackOnce_99 : decode zo_G_attackOnce 99 = .ok (.aload_n 0, 1) := by decide +kernel
theorem zd_G_attackOnce_100 : decode zo_G_attackOnce 100 = .ok (.getfield 55, 3) := by decide +kernel
theorem zd_G_attackOnce_103 : decode zo_G_attackOnce 103 = .ok (.iload_n 2, 1) := by decide +kernel
theorem zd_G_attackOnce_104 : decode zo_G_attackOnce 104 = .ok (.sipush 1000, 3) := by decide +kernel
theorem zd_G_attackOnce_107 : decode zo_G_attackOnce 107 = .ok (.imul, 1) := by decide +kernel
theorem zd_G_attackOnce_108 : decode zo_G_attackOnce 108 = .ok (.iload_n 3, 1) := by decide +kernel
theorem zd_G_attackOnce_109 : decode zo_G_attackOnce 109 = .ok (.iadd, 1) := by decide +kernel
theorem zd_G_attackOnce_110 : decode zo_G_attackOnce 110 = .ok (.iastore, 1) := by decide +kernel
theorem zd_G_attackOnce_111 : decode zo_G_attackOnce 111 = .ok (.aload_n 0, 1) := by decide +kernel
theorem zd_G_attackOnce_112 : decode zo_G_attackOnce 112 = .ok (.getfield 26, 3) := by decide +kernel
theorem zd_G_attackOnce_115 : decode zo_G_attackOnce 115 = .ok (.aload_n 0, 1) := by decide +kernel
theorem zd_G_attackOnce_116 : decode zo_G_attackOnce 116 = .ok (.getfield 55, 3) := by decide +kernel
theorem zd_G_attackOnce_119 : decode zo_G_attackOnce 119 = .ok (.iload 4, 2) := by decide +kernel
theorem zd_G_attackOnce_121 : decode zo_G_attackOnce 121 = .ok (.iastore, 1) := by decide +kernel
theorem zd_G_attackOnce_122 : decode zo_G_attackOnce 122 = .ok (.aload_n 0, 1) := by decide +kernel
theorem zd_G_attackOnce_123 : decode zo_G_attackOnce 123 = .ok (.dup, 1) := by decide +kernel
theorem zd_G_attackOnce_124 : decode zo_G_attackOnce 124 = .ok (.getfield 55, 3) := by decide +kernel
theorem zd_G_attackOnce_127 : decode zo_G_attackOnce 127 = .ok (.iconst 1, 1) := by decide +kernel
theorem zd_G_attackOnce_128 : decode zo_G_attackOnce 128 = .ok (.iadd, 1) := by decide +kernel
theorem zd_G_attackOnce_129 : decode zo_G_attackOnce 129 = .ok (.putfield 55, 3) := by decide +kernel
theorem zd_G_attackOnce_132 : decode zo_G_attackOnce 132 = .ok (.aload_n 0, 1) := by decide +kernel
theorem zd_G_attackOnce_133 : decode zo_G_attackOnce 133 = .ok (.getfield 19, 3) := by decide +kernel
theorem zd_G_attackOnce_136 : decode zo_G_attackOnce 136 = .ok (.iload_n 2, 1) := by decide +kernel
theorem zd_G_attackOnce_137 : decode zo_G_attackOnce 137 = .ok (.iload_n 3, 1) := by decide +kernel
theorem zd_G_attackOnce_138 : decode zo_G_attackOnce 138 = .ok (.bipush 100, 2) := by decide +kernel
theorem zd_G_attackOnce_140 : decode zo_G_attackOnce 140 = .ok (.irem, 1) := by decide +kernel
theorem zd_G_attackOnce_141 : decode zo_G_attackOnce 141 = .ok (.iastore, 1) := by decide +kernel
theorem zd_G_attackOnce_142 : decode zo_G_attackOnce 142 = .ok (.aload_n 0, 1) := by decide +kernel
theorem zd_G_attackOnce_143 : decode zo_G_attackOnce 143 = .ok (.getfield 19, 3) := by decide +kernel
theorem zd_G_attackOnce_146 : decode zo_G_attackOnce 146 = .ok (.iconst 1, 1) := by decide +kernel
theorem zd_G_attackOnce_147 : decode zo_G_attackOnce 147 = .ok (.iload_n 2, 1) := by decide +kernel
theorem zd_G_attackOnce_148 : decode zo_G_attackOnce 148 = .ok (.isub, 1) := by decide +kernel
theorem zd_G_attackOnce_149 : decode zo_G_attackOnce 149 = .ok (.iload 4, 2) := by decide +kernel
theorem zd_G_attackOnce_151 : decode zo_G_attackOnce 151 = .ok (.iastore, 1) := by decide +kernel
theorem zd_G_attackOnce_152 : decode zo_G_attackOnce 152 = .ok (.iload 4, 2) := by decide +kernel
theorem zd_G_attackOnce_154 : decode zo_G_attackOnce 154 = .ok (.iconst (-1), 1) := by decide +kernel
theorem zd_G_attackOnce_155 : decode zo_G_attackOnce 155 = .ok (.if_icmp .eq 7, 3) := by decide +kernel
theorem zd_G_attackOnce_158 : decode zo_G_attackOnce 158 = .ok (.iconst 1, 1) := by decide +kernel
theorem zd_G_attackOnce_159 : decode zo_G_attackOnce 159 = .ok (.goto 4, 3) := by decide +kernel
theorem zd_G_attackOnce_162 : decode zo_G_attackOnce 162 = .ok (.iconst 0, 1) := by decide +kernel
theorem zd_G_attackOnce_163 : decode zo_G_attackOnce 163 = .ok (.ireturn, 1) := by decide +kernel
