theorem zd_M_findBreaches_0 : decode zo_M_findBreaches 0 = .ok (.iconst 0, 1) := by decide +kernel
theorem zd_M_findBreaches_1 : decode zo_M_findBreaches 1 = .ok (.istore_n 1, 1) := by decide +kernel
theorem zd_M_findBreaches_2 : decode zo_M_findBreaches 2 = .ok (.iload_n 1, 1) := by decide +kernel
theorem zd_M_findBreaches_3 : decode zo_M_findBreaches 3 = .ok (.sipush 576, 3) := by decide +kernel
theorem zd_M_findBreaches_6 : decode zo_M_findBreaches 6 = .ok (.if_icmp .ge 43, 3) := by decide +kernel
theorem zd_M_findBreaches_9 : decode zo_M_findBreaches 9 = .ok (.aload_n 0, 1) := by decide +kernel
theorem zd_M_findBreaches_10 : decode zo_M_findBreaches 10 = .ok (.getfield 17, 3) := by decide +kernel
theorem zd_M_findBreaches_13 : decode zo_M_findBreaches 13 = .ok (.iload_n 1, 1) := by decide +kernel
theorem zd_M_findBreaches_14 : decode zo_M_findBreaches 14 = .ok (.aload_n 0, 1) := by decide +kernel
theorem zd_M_findBreaches_15 : decode zo_M_findBreaches 15 = .ok (.getfield 13, 3) := by decide +kernel
theorem zd_M_findBreaches_18 : decode zo_M_findBreaches 18 = .ok (.iload_n 1, 1) := by decide +kernel
theorem zd_M_findBreaches_19 : decode zo_M_findBreaches 19 = .ok (.bipush 24, 2) := by decide +kernel
theorem zd_M_findBreaches_21 : decode zo_M_findBreaches 21 = .ok (.idiv, 1) := by decide +kernel
theorem zd_M_findBreaches_22 : decode zo_M_findBreaches 22 = .ok (.iaload, 1) := by decide +kernel
theorem zd_M_findBreaches_23 : decode zo_M_findBreaches 23 = .ok (.aload_n 0, 1) := by decide +kernel
theorem zd_M_findBreaches_24 : decode zo_M_findBreaches 24 = .ok (.getfield 13, 3) := by decide +kernel
theorem zd_M_findBreaches_27 : decode zo_M_findBreaches 27 = .ok (.iload_n 1, 1) := by decide +kernel
theorem zd_M_findBreaches_28 : decode zo_M_findBreaches 28 = .ok (.bipush 24, 2) := by decide +kernel
theorem zd_M_findBreaches_30 : decode zo_M_findBreaches 30 = .ok (.irem, 1) := by decide +kernel
theorem zd_M_findBreaches_31 : decode zo_M_findBreaches 31 = .ok (.iaload, 1) := by decide +kernel
theorem zd_M_findBreaches_32 : decode zo_M_findBreaches 32 = .ok (.if_icmp .ne 9, 3) := by decide +kernel
theorem zd_M_findBreaches_35 : decode zo_M_findBreaches 35 = .ok (.sipush 1000, 3) := by decide +kernel
theorem zd_M_findBreaches_38 : decode zo_M_findBreaches 38 = .ok (.goto 4, 3) := by decide +kernel
theorem zd_M_findBreaches_41 : decode zo_M_findBreaches 41 = .ok (.iconst 0, 1) := by decide +kernel
theorem zd_M_findBreaches_42 : decode zo_M_findBreaches 42 = .ok (.iastore, 1) := by decide +kernel
theorem zd_M_findBreaches_43 : decode zo_M_findBreaches 43 = .ok (.iinc 1 1, 3) := by decide +kernel
theorem zd_M_findBreaches_46 : decode zo_M_findBreaches 46 = .ok (.goto (-44), 3) := by decide +kernel
theorem zd_M_findBreaches_49 : decode zo_M_findBreaches 49 = .ok (.iconst 1, 1) := by decide +kernel
theorem zd_M_findBreaches_50 : decode zo_M_findBreaches 50 = .ok (.istore_n 1, 1) := by decide +kernel
theorem zd_M_findBreaches_51 : decode zo_M_findBreaches 51 = .ok (.iconst 0, 1) := by decide +kernel
theorem zd_M_findBreaches_52 : decode zo_M_findBreaches 52 = .ok (.istore_n 2, 1) := by decide +kernel
theorem zd_M_findBreaches_53 : decode zo_M_findBreaches 53 = .ok (.iload_n 1, 1) := by decide +kernel
theorem zd_M_findBreaches_54 : decode zo_M_findBreaches 54 = .ok (.ifCond .eq 116, 3) := by decide +kernel
theorem zd_M_findBreaches_57 : decode zo_M_findBreaches 57 = .ok (.iconst 0, 1) := by decide +kernel
theorem zd_M_findBreaches_58 : decode zo_M_findBreaches 58 = .ok (.istore_n 1, 1) := by decide +kernel
theorem zd_M_findBreaches_59 : decode zo_M_findBreaches 59 = .ok (.iconst 0, 1) := by decide +kernel
theorem zd_M_findBreaches_60 : decode zo_M_findBreaches 60 = .ok (.istore_n 3, 1) := by decide +kernel
theorem zd_M_findBreaches_61 : decode zo_M_findBreaches 61 = .ok (.iload_n 3, 1) := by decide +kernel
theorem zd_M_findBreaches_62 : decode zo_M_findBreaches 62 = .ok (.sipush 576, 3) := by decide +kernel
theorem zd_M_findBreaches_65 : decode zo_M_findBreaches 65 = .ok (.if_icmp .ge 98, 3) := by decide +kernel
theorem zd_M_findBreaches_68 : decode zo_M_findBreaches 68 = .ok (.aload_n 0, 1) := by decide +kernel
theorem zd_M_findBreaches_69 : decode zo_M_findBreaches 69 = .ok (.getfield 17, 3) := by decide +kernel
theorem zd_M_findBreaches_72 : decode zo_M_findBreaches 72 = .ok (.iload_n 3, 1) := by decide +kernel
theorem zd_M_findBreaches_73 : decode zo_M_findBreaches 73 = .ok (.iaload, 1) := by decide +kernel
theorem zd_M_findBreaches_74 : decode zo_M_findBreaches 74 = .ok (.sipush 1000, 3) := by decide +kernel
theorem zd_M_findBreaches_77 : decode zo_M_findBreaches 77 = .ok (.if_icmp .ne 39, 3) := by decide +kernel
theorem zd_M_findBreaches_80 : decode zo_M_findBreaches 80 = .ok (.aload_n 0, 1) := by decide +kernel
theorem zd_M_findBreaches_81 : decode zo_M_findBreaches 81 = .ok (.iload_n 3, 1) := by decide +kernel
theorem zd_M_findBreaches_82 : decode zo_M_findBreaches 82 = .ok (.bipush 24, 2) := by decide +kernel
theorem zd_M_findBreaches_84 : decode zo_M_findBreaches 84 = .ok (.idiv, 1) := by decide +kernel
theorem zd_M_findBreaches_85 : decode zo_M_findBreaches 85 = .ok (.iload_n 3, 1) := by decide +kernel
theorem zd_M_findBreaches_86 : decode zo_M_findBreaches 86 = .ok (.bipush 24, 2) := by decide +kernel
theorem zd_M_findBreaches_88 : decode zo_M_findBreaches 88 = .ok (.irem, 1) := by decide +kernel
theorem zd_M_findBreaches_89 : decode zo_M_findBreaches 89 = .ok (.iload_n 2, 1) := by decide +kernel
theorem zd_M_findBreaches_90 : decode zo_M_findBreaches 90 = .ok (.invokevirtual 57, 3) := by decide +kernel
theorem zd_M_findBreaches_93 : decode zo_M_findBreaches 93 = .ok (.ifCond .eq 19, 3) := by decide +kernel
theorem zd_M_findBreaches_96 : decode zo_M_findBreaches 96 = .ok (.aload_n 0, 1) := by decide +kernel
theorem zd_M_findBreaches_97 : decode zo_M_findBreaches 97 = .ok (.iload_n 3, 1) := by decide +kernel
theorem zd_M_findBreaches_98 : decode zo_M_findBreaches 98 = .ok (.bipush 24, 2) := by decide +kernel
theorem zd_M_findBreaches_100 : decode zo_M_findBreaches 100 = .ok (.irem, 1) := by decide +kernel
theorem zd_M_findBreaches_101 : decode zo_M_findBreaches 101 = .ok (.iload_n 3, 1) := by decide +kernel
theorem zd_M_findBreaches_102 : decode zo_M_findBreaches 102 = .ok (.bipush 24, 2) := by decide +kernel
theorem zd_M_findBreaches_104 : decode zo_M_findBreaches 104 = .ok (.idiv, 1) := by decide +kernel
theorem zd_M_findBreaches_105 : decode zo_M_findBreaches 105 = .ok (.iload_n 2, 1) := by decide +kernel
theorem zd_M_findBreaches_106 : decode zo_M_findBreaches 106 = .ok (.invokevirtual 57, 3) := by decide +kernel
theorem zd_M_findBreaches_109 : decode zo_M_findBreaches 109 = .ok (.ifCond .ne 7, 3) := by decide +kernel
theorem zd_M_findBreaches_112 : decode zo_M_findBreaches 112 = .ok (.iconst 1, 1) := by decide +kernel
theorem zd_M_findBreaches_113 : decode zo_M_findBreaches 113 = .ok (.goto 4, 3) := by decide +kernel
theorem zd_M_findBreaches_116 : decode zo_M_findBreaches 116 = .ok (.iconst 0, 1) := by decide +kernel
theorem zd_M_findBreaches_117 : decode zo_M_findBreaches 117 = .ok (.istore 4, 2) := by decide +kernel
theorem zd_M_findBreaches_119 : decode zo_M_findBreaches 119 = .ok (.aload_n 0, 1) := by decide +kernel
theorem zd_M_findBreaches_120 : decode zo_M_findBreaches 120 = .ok (.getfield 17, 3) := by decide +kernel
theorem zd_M_findBreaches_123 : decode zo_M_findBreaches 123 = .ok (.iload_n 3, 1) := by decide +kernel
theorem zd_M_findBreaches_124 : decode zo_M_findBreaches 124 = .ok (.iload 4, 2) := by decide +kernel
theorem zd_M_findBreaches_126 : decode zo_M_findBreaches 126 = .ok (.ifCond .eq 9, 3) := by decide +kernel
theorem zd_M_findBreaches_129 : decode zo_M_findBreaches 129 = .ok (.iload_n 2, 1) := by decide +kernel
theorem zd_M_findBreaches_130 : decode zo_M_findBreaches 130 = .ok (.iconst 1, 1) := by decide +kernel
theorem zd_M_findBreaches_131 : decode zo_M_findBreaches 131 = .ok (.iadd, 1) := by decide +kernel
theorem zd_M_findBreaches_132 : decode zo_M_findBreaches 132 = .ok (.goto 9, 3) := by decide +kernel
theorem zd_M_findBreaches_135 : decode zo_M_findBreaches 135 = .ok (.aload_n 0, 1) := by decide +kernel
theorem zd_M_findBreaches_136 : decode zo_M_findBreaches 136 = .ok (.getfield 17, 3) := by decide +kernel
theorem zd_M_findBreaches_139 : decode zo_M_findBreaches 139 = .ok (.iload_n 3, 1) := by decide +kernel
theorem zd_M_findBreaches_140 : decode zo_M_findBreaches 140 = .ok (.iaload, 1) := by decide +kernel
theorem zd_M_findBreaches_141 : decode zo_M_findBreaches 141 = .ok (.iastore, 1) := by decide +kernel
theorem zd_M_findBreaches_142 : decode zo_M_findBreaches 142 = .ok (.iload_n 1, 1) := by decide +kernel
theorem zd_M_findBreaches_143 : decode zo_M_findBreaches 143 = .ok (.ifCond .ne 8, 3) := by decide +kernel
theorem zd_M_findBreaches_146 : decode zo_M_findBreaches 146 = .ok (.iload 4, 2) := by decide +kernel
theorem zd_M_findBreaches_148 : decode zo_M_findBreaches 148 = .ok (.ifCond .eq 7, 3) := by decide +kernel
theorem zd_M_findBreaches_151 : decode zo_M_findBreaches 151 = .ok (.iconst 1, 1) := by decide +kernel
theorem zd_M_findBreaches_152 : decode zo_M_findBreaches 152 = .ok (.goto 4, 3) := by decide +kernel
theorem zd_M_findBreaches_155 : decode zo_M_findBreaches 155 = .ok (.iconst 0, 1) := by decide +kernel
theorem zd_M_findBreaches_156 : decode zo_M_findBreaches 156 = .ok (.istore_n 1, 1) := by decide +kernel
theorem zd_M_findBreaches_157 : decode zo_M_findBreaches 157 = .ok (.iinc 3 1, 3) := by decide +kernel
theorem zd_M_findBreaches_160 : decode zo_M_findBreaches 160 = .ok (.goto (-99), 3) := by decide +kernel
theorem zd_M_findBreaches_163 : decode zo_M_findBreaches 163 = .ok (.iload_n 2, 1) := by decide +kernel
theorem zd_M_findBreaches_164 : decode zo_M_findBreaches 164 = .ok (.iconst 1, 1) := by decide +kernel
theorem zd_M_findBreaches_165 : decode zo_M_findBreaches 165 = .ok (.iadd, 1) := by decide +kernel
theorem zd_M_findBreaches_166 : decode zo_M_findBreaches 166 = .ok (.istore_n 2, 1) := by decide +kernel
theorem zd_M_findBreaches_167 : decode zo_M_findBreaches 167 = .ok (.goto (-114), 3) := by decide +kernel
theorem zd_M_findBreaches_170 : decode zo_M_findBreaches 170 = .ok (.return_, 1) := by decide +kernel
